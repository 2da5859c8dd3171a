-- LEAST, 9: the pair
theorem shl1 : ∀ n, n ≤ 6 → (1 : Int32) <<< (nI n &&& 31) = nI (2 ^ n) := by decide
theorem smo6 : ∀ n, n ≤ 6 → ((nI n &&& 31).toBitVec.smod 32).toNat = n := by decide
theorem bits_ok {m n : Nat} (hm : m < 2 ^ 31) (hn : n ≤ 6) : (nI (2 ^ n) ≤ nI m) = (¬ nI m >>> (nI n &&& 31) = 0) := by
  have h2 : 2 ^ n ≤ 2 ^ 6 := Nat.pow_le_pow_right (by omega) hn
  rw [pk_shrN hm _ n (smo6 n hn)]
  refine propext ?_
  rw [nI_leI (by omega) hm]
  have hd : m / 2 ^ n < 2 ^ 31 := Nat.lt_of_le_of_lt (Nat.div_le_self _ _) hm
  constructor
  · intro h q
    have := (nI_eq (b := 0) hd (by omega)).mp q
    rw [Nat.div_eq_zero_iff] at this
    rcases this with w | w
    · have : 0 < 2 ^ n := Nat.two_pow_pos n
      omega
    · omega
  · intro h
    rcases Nat.lt_or_ge m (2 ^ n) with w | w
    · exact absurd (by rw [Nat.div_eq_of_lt w]; rfl) h
    · exact w
section LEQ
variable {I I2 X Q : Mem} {J : MemL} {R R1 : MemR} {t t' n nb nm fL lL fG lG st : Nat}
theorem least_p (h : cAll I R t t' n nb nm fL lL fG lG st) (hc : cLst I t lL lG n nb) {x y z w : Int32} : leaP MX11_least MX12_least [.int x, .int y, .int z, .int w] I J R t t' n nb nm fL lL fG lG st := by
  have hn6 := h.n6
  have ht2 := te_hi h.te
  have n1 : ¬ (1 : Int32) = 0 := by decide
  have hsh := shl1 n hn6
  by_cases hv : ¬ x < 0 ∧ ¬ nI (2 ^ n) ≤ x ∧ ¬ y < 0 ∧ y ≤ 60 ∧ ¬ z < 0 ∧ ¬ 99 < z ∧ ¬ w < 0 ∧ w ≤ 6
  · obtain ⟨x0, xn, y0, y6, z0, z9, w0, w6⟩ := hv
    obtain ⟨m, hm, rfl⟩ := nI_of x0
    obtain ⟨N, hN, rfl⟩ := nI_of2 (M := 60) (n := 60) (by decide) y0 y6
    obtain ⟨k, hk, rfl⟩ := nI_of2 (M := 99) (n := 99) (by decide) z0 (Int32.not_lt.mp z9)
    obtain ⟨v, hv6, rfl⟩ := nI_of2 (M := 6) (n := 6) (by decide) w0 w6
    have xb : nI m >>> (nI n &&& 31) = 0 := by
      rw [bits_ok hm hn6] at xn
      exact Decidable.not_not.mp xn
    have b2 : bi (¬ nI N < 0 ∧ ¬ 60 < nI N) = 1 := if_pos ⟨y0, Int32.not_lt.mpr y6⟩
    have b3 : bi (¬ nI k < 0 ∧ ¬ 99 < nI k) = 1 := if_pos ⟨z0, z9⟩
    have b4 : bi (¬ nI v < 0 ∧ ¬ 6 < nI v) = 1 := if_pos ⟨w0, Int32.not_lt.mpr w6⟩
    obtain ⟨X1, J1, R1, e1, r1, k1, f7, f8, f9, f10, fm⟩ := lfin_c (d := 2) (J := J) (bits := nI m) h hc hN hk
    have hmm : ∀ a, 123 ≤ a → X1 a = I a := fun a ha => k1 a (Or.inr ha)
    have hnd : X1 123 13 = nI n := by rw [hmm 123 (by omega)]; exact h.nd
    generalize hK : va_up (va_up I 112 (X1 112)) 116 (X1 116) = K
    have kK : ∀ a, a ≠ 112 → a ≠ 116 → K a = I a := fun a h1 h2 => by rw [← hK, up_n h2, up_n h1]
    have hA : cAll K R t t' n nb nm fL lL fG lG st := cAll_sw h (fun a _ h2 h3 _ _ => kK a h2 h3)
    have tK : tk K X1 := fun a ha => by
      by_cases a7 : a = 112
      · rw [a7, ← hK, up_n (by decide), up_s]
      by_cases a9 : a = 116
      · rw [a9, ← hK, up_s]
      rw [kK a a7 a9]
      exact k1 a (by rcases ha with q | q; exact Or.inl ⟨q, a7, a9⟩; exact Or.inr q)
    obtain ⟨X2, J2, e2, k2⟩ := lea_m (d := 1) (k := k) (bits := nI m) (J := J1) (R1 := R1) hA hN hv6 (tK.kp.tr (kp.thr (v := 0)))
    have eR : leR K t lL lG n nb N k (nI m) = leR I t lL lG n nb N k (nI m) := leR_o h.te (fun a h1 h2 => kK a (by omega) (by omega)) (kK 62 (by decide) (by decide)) (kK 63 (by decide) (by decide))
    rw [eR] at e2
    have y112 : X2 112 = X1 112 := by rw [k2.1 112 (by unfold kpA; omega), ← hK, up_n (by decide), up_s]
    have y116 : X2 116 = X1 116 := by rw [k2.1 116 (by unfold kpA; omega), ← hK, up_s]
    have yo : ∀ a, a < 64 → X2 a = I a := fun a ha => by rw [k2.1 a (by unfold kpA; omega), kK a (by omega) (by omega)]
    have eR2 : leR X2 t lL lG n nb N k (nI m) = leR I t lL lG n nb N k (nI m) := leR_o h.te (fun a h1 h2 => yo a (by omega)) (yo 62 (by decide)) (yo 63 (by decide))
    have hcL : cLst X2 t lL lG n nb := by
      refine Or.inr ⟨by rw [y112]; exact f7, N, k, hN, hk, by rw [y112]; exact f9, by rw [y112]; exact f10, ?_⟩
      unfold lsM at fm ⊢
      rw [y112, y116, f8, eR2]
      exact fm
    have hlast : cAll X2 R1 t t' n nb nm fL lL fG lG st ∧ cLst X2 t lL lG n nb ∧ (∀ a, t ≤ a → a < t + 27 → X2 a = I a) ∧ X2 62 = I 62 ∧ X2 63 = I 63 ∧ X2 117 = I 117 ∧ X2 119 = I 119 := ⟨cAll_kp hA k2 (r1 _ (by decide)) (r1 _ (by decide)) (r1 _ (by decide)), hcL, fun a h1 h2 => yo a (by omega), yo _ (by decide), yo _ (by decide), by rw [k2.1 117 (by unfold kpA; omega), kK 117 (by decide) (by decide)], by rw [k2.1 119 (by unfold kpA; omega), kK 119 (by decide) (by decide)]⟩
    have hcl : ∀ u : Int32, E (C 10) MX11_least 70 [some (.ref 0), some (.int (nI m)), some (.int (nI N)), some (.int (nI k)), some (.int (nI v))] [] (hp X1 J1 R1) = some (some (.int u), hp X1 J1 R1) → C 11 MX11_least [.ref 0, .int (nI m), .int (nI N), .int (nI k), .int (nI v)] (hp I J R) = some (some (.int u), hp X1 J1 R1) := by
      intro u hu
      rw [eX11_least]
      simp (disch := omega) only [xX11_least_0, xX11_least_1, xX11_least_4, xX11_least_5, xX11_least_6, xX11_least_7, xX11_least_10, xX11_least_13, xX11_least_16, xX11_least_17, xX11_least_20, xX11_least_21, xX11_least_24, xX11_least_25, xX11_least_27, xX11_least_30, xX11_least_31, xX11_least_32, xX11_least_33, xX11_least_36, xX11_least_37, xX11_least_39, xX11_least_42, xX11_least_44, xX11_least_47, xX11_least_49, xX11_least_51, xX11_least_54, xX11_least_55, xX11_least_56, xX11_least_57, xX11_least_60, xX11_least_61, xX11_least_64, xX11_least_65, xX11_least_66, xX11_least_67, kd_0, fi_0_5, kd_60, fi_0_12, kd_112, te_k0 h.te, te_f0_3 h.te, te_k5 h.te, te_k1 h.te, te_k15 h.te, te_k5 h.te, kd_112, kd_60, ↓reduceIte, gd_t, hK_p, hN_p, hF_p, hI_p, hJ_p, hR_p, stI_p, stJ_p, stR_p, stA_p, va_rf_s, va_rf_n, clr_i, clr_l, clr_r, clr_n, clr_o, w8_0, w8_1i, w8_1r, w8_2ii, w8_2ri, w8_2ir, w8_2rr, w8_3, beq_self_eq_true, Bool.and_self, Bool.and_true, Bool.true_and, decide_true, Option.toList_some, Option.toList_none, List.cons_append, List.nil_append, Option.bind_some, if_true, if_false, Nat.reduceLeDiff, Nat.reduceLT, Nat.reduceBEq, Bool.or_false, Bool.false_or, Bool.or_true, Bool.true_or, h.r3, h.nc, hsh, x0, xn, y0, y6, z0, z9, w0, w6, e1]
      exact hu
    have hmd : ∀ u : Int32, E (C 10) MX12_least 54 [some (.ref 123), some (.int (nI m)), some (.int (nI N)), some (.int (nI k)), some (.int (nI v)), some (.int 0)] [] (hp (va_up X1 123 (upd (X1 123) 2 0)) J1 R1) = some (some (.int u), hp X2 J2 R1) → C 11 MX12_least [.ref 123, .int (nI m), .int (nI N), .int (nI k), .int (nI v)] (hp X1 J1 R1) = some (some (.int u), hp X2 J2 R1) := by
      intro u hu
      rw [← hu, eX12_least]
      simp (disch := omega) only [xX12_least_0, xX12_least_1, xX12_least_2, xX12_least_5, xX12_least_6, xX12_least_9, xX12_least_10, xX12_least_11, xX12_least_14, xX12_least_15, xX12_least_18, xX12_least_19, xX12_least_20, xX12_least_22, xX12_least_25, xX12_least_28, xX12_least_29, xX12_least_30, xX12_least_32, xX12_least_35, xX12_least_38, xX12_least_40, xX12_least_41, xX12_least_43, xX12_least_46, xX12_least_49, xX12_least_50, xX12_least_51, xX12_least_52, kd_123, fi_123_75, kd_163, ln_163, fi_123_76, kd_164, ln_164, kd_123, ↓reduceIte, gd_t, hK_p, hN_p, hF_p, hI_p, hJ_p, hR_p, stI_p, stJ_p, stR_p, stA_p, va_rf_s, va_rf_n, clr_i, clr_l, clr_r, clr_n, clr_o, w8_0, w8_1i, w8_1r, w8_2ii, w8_2ri, w8_2ir, w8_2rr, w8_3, beq_self_eq_true, Bool.and_self, Bool.and_true, Bool.true_and, decide_true, Option.toList_some, Option.toList_none, List.cons_append, List.nil_append, Option.bind_some, if_true, if_false, Nat.reduceLeDiff, Nat.reduceLT, Nat.reduceBEq, Bool.or_false, Bool.false_or, Bool.or_true, Bool.true_or, up_s, pk_un, hnd, xb, x0, isI_spec, b2, b3, b4, n1, not_true_eq_false, not_false_eq_true]
    unfold lsM at fm
    generalize leR I t lL lG n nb N k (nI m) = F at *
    cases F with
    | none =>
      have g6 : X1 112 6 = -2 := fm
      refine ⟨-2, X1, J1, R1, X2, J2, hcl _ ?_, hmd _ e2, hlast⟩
      simp (disch := omega) only [xX11_least_70, xX11_least_71, xX11_least_74, xX11_least_77, xX11_least_79, xX11_least_82, xX11_least_84, xX11_least_87, xX11_least_88, xX11_least_91, xX11_least_94, xX11_least_95, xX11_least_96, xX11_least_99, xX11_least_102, xX11_least_104, xX11_least_105, xX11_least_106, xX11_least_107, kd_0, fi_0_5, kd_60, fi_0_12, kd_112, fi_112_5, kd_116, ln_116, ↓reduceIte, gd_t, hK_p, hN_p, hF_p, hI_p, hJ_p, hR_p, stI_p, stJ_p, stR_p, stA_p, va_rf_s, va_rf_n, clr_i, clr_l, clr_r, clr_n, clr_o, w8_0, w8_1i, w8_1r, w8_2ii, w8_2ri, w8_2ir, w8_2rr, w8_3, beq_self_eq_true, Bool.and_self, Bool.and_true, Bool.true_and, decide_true, Option.toList_some, Option.toList_none, List.cons_append, List.nil_append, Option.bind_some, if_true, if_false, Nat.reduceLeDiff, Nat.reduceLT, Nat.reduceBEq, Bool.or_false, Bool.false_or, Bool.or_true, Bool.true_or, g6]
    | some f =>
      have g6 : X1 112 6 = f 0 := fm.1
      have g2 : ¬ f 0 = -2 := fm.2.1
      refine ⟨f v, X1, J1, R1, X2, J2, hcl _ ?_, hmd _ e2, hlast⟩
      by_cases v0 : v = 0
      · subst v0
        simp (disch := omega) only [xX11_least_70, xX11_least_71, xX11_least_74, xX11_least_77, xX11_least_79, xX11_least_82, xX11_least_84, xX11_least_87, xX11_least_88, xX11_least_91, xX11_least_94, xX11_least_95, xX11_least_96, xX11_least_99, xX11_least_102, xX11_least_104, xX11_least_105, xX11_least_106, xX11_least_107, kd_0, fi_0_5, kd_60, fi_0_12, kd_112, fi_112_5, kd_116, ln_116, ↓reduceIte, gd_t, hK_p, hN_p, hF_p, hI_p, hJ_p, hR_p, stI_p, stJ_p, stR_p, stA_p, va_rf_s, va_rf_n, clr_i, clr_l, clr_r, clr_n, clr_o, w8_0, w8_1i, w8_1r, w8_2ii, w8_2ri, w8_2ir, w8_2rr, w8_3, beq_self_eq_true, Bool.and_self, Bool.and_true, Bool.true_and, decide_true, Option.toList_some, Option.toList_none, List.cons_append, List.nil_append, Option.bind_some, if_true, if_false, Nat.reduceLeDiff, Nat.reduceLT, Nat.reduceBEq, Bool.or_false, Bool.false_or, Bool.or_true, Bool.true_or, g6, g2, nI_0, not_true_eq_false]
      · have v0' : ¬ nI v = 0 := fun q => v0 ((nI_eq (b := 0) (by omega) (by omega)).mp q)
        have vm : nI v - 1 = nI (v - 1) := nI_m1 (by omega)
        have g7 := fm.2.2 (v - 1) (by omega)
        rw [show v - 1 + 1 = v by omega] at g7
        simp (disch := omega) only [xX11_least_70, xX11_least_71, xX11_least_74, xX11_least_77, xX11_least_79, xX11_least_82, xX11_least_84, xX11_least_87, xX11_least_88, xX11_least_91, xX11_least_94, xX11_least_95, xX11_least_96, xX11_least_99, xX11_least_102, xX11_least_104, xX11_least_105, xX11_least_106, xX11_least_107, kd_0, fi_0_5, kd_60, fi_0_12, kd_112, fi_112_5, kd_116, ln_116, ↓reduceIte, gd_t, hK_p, hN_p, hF_p, hI_p, hJ_p, hR_p, stI_p, stJ_p, stR_p, stA_p, va_rf_s, va_rf_n, clr_i, clr_l, clr_r, clr_n, clr_o, w8_0, w8_1i, w8_1r, w8_2ii, w8_2ri, w8_2ir, w8_2rr, w8_3, beq_self_eq_true, Bool.and_self, Bool.and_true, Bool.true_and, decide_true, Option.toList_some, Option.toList_none, List.cons_append, List.nil_append, Option.bind_some, if_true, if_false, Nat.reduceLeDiff, Nat.reduceLT, Nat.reduceBEq, Bool.or_false, Bool.false_or, Bool.or_true, Bool.true_or, inb_n, nI_clamp, g6, g2, v0', vm, g7, not_false_eq_true]
  · refine askP.lea h hc (askP.mk0 (v := -1) (w := -1) ?_ ?_ rfl)
    · rw [eX11_least]
      by_cases x0 : x < 0
      · simp (disch := omega) only [xX11_least_0, xX11_least_1, xX11_least_4, xX11_least_5, xX11_least_6, xX11_least_7, xX11_least_10, xX11_least_13, xX11_least_16, xX11_least_17, xX11_least_20, xX11_least_21, xX11_least_24, xX11_least_25, xX11_least_27, xX11_least_30, xX11_least_31, xX11_least_32, xX11_least_33, xX11_least_36, xX11_least_37, xX11_least_39, xX11_least_42, xX11_least_44, xX11_least_47, xX11_least_49, xX11_least_51, xX11_least_54, xX11_least_55, kd_0, fi_0_5, kd_60, fi_0_12, kd_112, te_k0 h.te, te_f0_3 h.te, te_k5 h.te, te_k1 h.te, te_k15 h.te, te_k5 h.te, ↓reduceIte, gd_t, hK_p, hN_p, hF_p, hI_p, hJ_p, hR_p, stI_p, stJ_p, stR_p, stA_p, va_rf_s, va_rf_n, clr_i, clr_l, clr_r, clr_n, clr_o, w8_0, w8_1i, w8_1r, w8_2ii, w8_2ri, w8_2ir, w8_2rr, w8_3, beq_self_eq_true, Bool.and_self, Bool.and_true, Bool.true_and, decide_true, Option.toList_some, Option.toList_none, List.cons_append, List.nil_append, Option.bind_some, if_true, if_false, Nat.reduceLeDiff, Nat.reduceLT, Nat.reduceBEq, Bool.or_false, Bool.false_or, Bool.or_true, Bool.true_or, h.r3, h.nc, hsh, x0]
      by_cases xn : nI (2 ^ n) ≤ x
      · simp (disch := omega) only [xX11_least_0, xX11_least_1, xX11_least_4, xX11_least_5, xX11_least_6, xX11_least_7, xX11_least_10, xX11_least_13, xX11_least_16, xX11_least_17, xX11_least_20, xX11_least_21, xX11_least_24, xX11_least_25, xX11_least_27, xX11_least_30, xX11_least_31, xX11_least_32, xX11_least_33, xX11_least_36, xX11_least_37, xX11_least_39, xX11_least_42, xX11_least_44, xX11_least_47, xX11_least_49, xX11_least_51, xX11_least_54, xX11_least_55, kd_0, fi_0_5, kd_60, fi_0_12, kd_112, te_k0 h.te, te_f0_3 h.te, te_k5 h.te, te_k1 h.te, te_k15 h.te, te_k5 h.te, ↓reduceIte, gd_t, hK_p, hN_p, hF_p, hI_p, hJ_p, hR_p, stI_p, stJ_p, stR_p, stA_p, va_rf_s, va_rf_n, clr_i, clr_l, clr_r, clr_n, clr_o, w8_0, w8_1i, w8_1r, w8_2ii, w8_2ri, w8_2ir, w8_2rr, w8_3, beq_self_eq_true, Bool.and_self, Bool.and_true, Bool.true_and, decide_true, Option.toList_some, Option.toList_none, List.cons_append, List.nil_append, Option.bind_some, if_true, if_false, Nat.reduceLeDiff, Nat.reduceLT, Nat.reduceBEq, Bool.or_false, Bool.false_or, Bool.or_true, Bool.true_or, h.r3, h.nc, hsh, x0, xn]
      by_cases y0 : y < 0
      · simp (disch := omega) only [xX11_least_0, xX11_least_1, xX11_least_4, xX11_least_5, xX11_least_6, xX11_least_7, xX11_least_10, xX11_least_13, xX11_least_16, xX11_least_17, xX11_least_20, xX11_least_21, xX11_least_24, xX11_least_25, xX11_least_27, xX11_least_30, xX11_least_31, xX11_least_32, xX11_least_33, xX11_least_36, xX11_least_37, xX11_least_39, xX11_least_42, xX11_least_44, xX11_least_47, xX11_least_49, xX11_least_51, xX11_least_54, xX11_least_55, kd_0, fi_0_5, kd_60, fi_0_12, kd_112, te_k0 h.te, te_f0_3 h.te, te_k5 h.te, te_k1 h.te, te_k15 h.te, te_k5 h.te, ↓reduceIte, gd_t, hK_p, hN_p, hF_p, hI_p, hJ_p, hR_p, stI_p, stJ_p, stR_p, stA_p, va_rf_s, va_rf_n, clr_i, clr_l, clr_r, clr_n, clr_o, w8_0, w8_1i, w8_1r, w8_2ii, w8_2ri, w8_2ir, w8_2rr, w8_3, beq_self_eq_true, Bool.and_self, Bool.and_true, Bool.true_and, decide_true, Option.toList_some, Option.toList_none, List.cons_append, List.nil_append, Option.bind_some, if_true, if_false, Nat.reduceLeDiff, Nat.reduceLT, Nat.reduceBEq, Bool.or_false, Bool.false_or, Bool.or_true, Bool.true_or, h.r3, h.nc, hsh, x0, xn, y0]
      by_cases y6 : y ≤ 60
      · by_cases z0 : z < 0
        · simp (disch := omega) only [xX11_least_0, xX11_least_1, xX11_least_4, xX11_least_5, xX11_least_6, xX11_least_7, xX11_least_10, xX11_least_13, xX11_least_16, xX11_least_17, xX11_least_20, xX11_least_21, xX11_least_24, xX11_least_25, xX11_least_27, xX11_least_30, xX11_least_31, xX11_least_32, xX11_least_33, xX11_least_36, xX11_least_37, xX11_least_39, xX11_least_42, xX11_least_44, xX11_least_47, xX11_least_49, xX11_least_51, xX11_least_54, xX11_least_55, kd_0, fi_0_5, kd_60, fi_0_12, kd_112, te_k0 h.te, te_f0_3 h.te, te_k5 h.te, te_k1 h.te, te_k15 h.te, te_k5 h.te, ↓reduceIte, gd_t, hK_p, hN_p, hF_p, hI_p, hJ_p, hR_p, stI_p, stJ_p, stR_p, stA_p, va_rf_s, va_rf_n, clr_i, clr_l, clr_r, clr_n, clr_o, w8_0, w8_1i, w8_1r, w8_2ii, w8_2ri, w8_2ir, w8_2rr, w8_3, beq_self_eq_true, Bool.and_self, Bool.and_true, Bool.true_and, decide_true, Option.toList_some, Option.toList_none, List.cons_append, List.nil_append, Option.bind_some, if_true, if_false, Nat.reduceLeDiff, Nat.reduceLT, Nat.reduceBEq, Bool.or_false, Bool.false_or, Bool.or_true, Bool.true_or, h.r3, h.nc, hsh, x0, xn, y0, y6, z0]
        by_cases z9 : 99 < z
        · simp (disch := omega) only [xX11_least_0, xX11_least_1, xX11_least_4, xX11_least_5, xX11_least_6, xX11_least_7, xX11_least_10, xX11_least_13, xX11_least_16, xX11_least_17, xX11_least_20, xX11_least_21, xX11_least_24, xX11_least_25, xX11_least_27, xX11_least_30, xX11_least_31, xX11_least_32, xX11_least_33, xX11_least_36, xX11_least_37, xX11_least_39, xX11_least_42, xX11_least_44, xX11_least_47, xX11_least_49, xX11_least_51, xX11_least_54, xX11_least_55, kd_0, fi_0_5, kd_60, fi_0_12, kd_112, te_k0 h.te, te_f0_3 h.te, te_k5 h.te, te_k1 h.te, te_k15 h.te, te_k5 h.te, ↓reduceIte, gd_t, hK_p, hN_p, hF_p, hI_p, hJ_p, hR_p, stI_p, stJ_p, stR_p, stA_p, va_rf_s, va_rf_n, clr_i, clr_l, clr_r, clr_n, clr_o, w8_0, w8_1i, w8_1r, w8_2ii, w8_2ri, w8_2ir, w8_2rr, w8_3, beq_self_eq_true, Bool.and_self, Bool.and_true, Bool.true_and, decide_true, Option.toList_some, Option.toList_none, List.cons_append, List.nil_append, Option.bind_some, if_true, if_false, Nat.reduceLeDiff, Nat.reduceLT, Nat.reduceBEq, Bool.or_false, Bool.false_or, Bool.or_true, Bool.true_or, h.r3, h.nc, hsh, x0, xn, y0, y6, z0, z9]
        by_cases w0 : w < 0
        · simp (disch := omega) only [xX11_least_0, xX11_least_1, xX11_least_4, xX11_least_5, xX11_least_6, xX11_least_7, xX11_least_10, xX11_least_13, xX11_least_16, xX11_least_17, xX11_least_20, xX11_least_21, xX11_least_24, xX11_least_25, xX11_least_27, xX11_least_30, xX11_least_31, xX11_least_32, xX11_least_33, xX11_least_36, xX11_least_37, xX11_least_39, xX11_least_42, xX11_least_44, xX11_least_47, xX11_least_49, xX11_least_51, xX11_least_54, xX11_least_55, kd_0, fi_0_5, kd_60, fi_0_12, kd_112, te_k0 h.te, te_f0_3 h.te, te_k5 h.te, te_k1 h.te, te_k15 h.te, te_k5 h.te, ↓reduceIte, gd_t, hK_p, hN_p, hF_p, hI_p, hJ_p, hR_p, stI_p, stJ_p, stR_p, stA_p, va_rf_s, va_rf_n, clr_i, clr_l, clr_r, clr_n, clr_o, w8_0, w8_1i, w8_1r, w8_2ii, w8_2ri, w8_2ir, w8_2rr, w8_3, beq_self_eq_true, Bool.and_self, Bool.and_true, Bool.true_and, decide_true, Option.toList_some, Option.toList_none, List.cons_append, List.nil_append, Option.bind_some, if_true, if_false, Nat.reduceLeDiff, Nat.reduceLT, Nat.reduceBEq, Bool.or_false, Bool.false_or, Bool.or_true, Bool.true_or, h.r3, h.nc, hsh, x0, xn, y0, y6, z0, z9, w0]
        by_cases w6 : w ≤ 6
        · exact absurd ⟨x0, xn, y0, y6, z0, z9, w0, w6⟩ hv
        · simp (disch := omega) only [xX11_least_0, xX11_least_1, xX11_least_4, xX11_least_5, xX11_least_6, xX11_least_7, xX11_least_10, xX11_least_13, xX11_least_16, xX11_least_17, xX11_least_20, xX11_least_21, xX11_least_24, xX11_least_25, xX11_least_27, xX11_least_30, xX11_least_31, xX11_least_32, xX11_least_33, xX11_least_36, xX11_least_37, xX11_least_39, xX11_least_42, xX11_least_44, xX11_least_47, xX11_least_49, xX11_least_51, xX11_least_54, xX11_least_55, kd_0, fi_0_5, kd_60, fi_0_12, kd_112, te_k0 h.te, te_f0_3 h.te, te_k5 h.te, te_k1 h.te, te_k15 h.te, te_k5 h.te, ↓reduceIte, gd_t, hK_p, hN_p, hF_p, hI_p, hJ_p, hR_p, stI_p, stJ_p, stR_p, stA_p, va_rf_s, va_rf_n, clr_i, clr_l, clr_r, clr_n, clr_o, w8_0, w8_1i, w8_1r, w8_2ii, w8_2ri, w8_2ir, w8_2rr, w8_3, beq_self_eq_true, Bool.and_self, Bool.and_true, Bool.true_and, decide_true, Option.toList_some, Option.toList_none, List.cons_append, List.nil_append, Option.bind_some, if_true, if_false, Nat.reduceLeDiff, Nat.reduceLT, Nat.reduceBEq, Bool.or_false, Bool.false_or, Bool.or_true, Bool.true_or, h.r3, h.nc, hsh, x0, xn, y0, y6, z0, z9, w0, w6]
      · simp (disch := omega) only [xX11_least_0, xX11_least_1, xX11_least_4, xX11_least_5, xX11_least_6, xX11_least_7, xX11_least_10, xX11_least_13, xX11_least_16, xX11_least_17, xX11_least_20, xX11_least_21, xX11_least_24, xX11_least_25, xX11_least_27, xX11_least_30, xX11_least_31, xX11_least_32, xX11_least_33, xX11_least_36, xX11_least_37, xX11_least_39, xX11_least_42, xX11_least_44, xX11_least_47, xX11_least_49, xX11_least_51, xX11_least_54, xX11_least_55, kd_0, fi_0_5, kd_60, fi_0_12, kd_112, te_k0 h.te, te_f0_3 h.te, te_k5 h.te, te_k1 h.te, te_k15 h.te, te_k5 h.te, ↓reduceIte, gd_t, hK_p, hN_p, hF_p, hI_p, hJ_p, hR_p, stI_p, stJ_p, stR_p, stA_p, va_rf_s, va_rf_n, clr_i, clr_l, clr_r, clr_n, clr_o, w8_0, w8_1i, w8_1r, w8_2ii, w8_2ri, w8_2ir, w8_2rr, w8_3, beq_self_eq_true, Bool.and_self, Bool.and_true, Bool.true_and, decide_true, Option.toList_some, Option.toList_none, List.cons_append, List.nil_append, Option.bind_some, if_true, if_false, Nat.reduceLeDiff, Nat.reduceLT, Nat.reduceBEq, Bool.or_false, Bool.false_or, Bool.or_true, Bool.true_or, h.r3, h.nc, hsh, x0, xn, y0, y6]
    · rw [eX12_least]
      by_cases x0 : x < 0
      · simp (disch := omega) only [xX12_least_0, xX12_least_1, xX12_least_2, xX12_least_5, xX12_least_6, xX12_least_9, xX12_least_10, xX12_least_11, xX12_least_14, xX12_least_15, xX12_least_18, xX12_least_19, xX12_least_20, xX12_least_22, xX12_least_25, xX12_least_28, xX12_least_29, xX12_least_30, xX12_least_32, xX12_least_35, xX12_least_38, xX12_least_40, xX12_least_41, xX12_least_43, xX12_least_46, xX12_least_49, xX12_least_50, kd_123, fi_123_75, kd_163, ln_163, fi_123_76, kd_164, ln_164, kd_123, ↓reduceIte, gd_t, hK_p, hN_p, hF_p, hI_p, hJ_p, hR_p, stI_p, stJ_p, stR_p, stA_p, va_rf_s, va_rf_n, clr_i, clr_l, clr_r, clr_n, clr_o, w8_0, w8_1i, w8_1r, w8_2ii, w8_2ri, w8_2ir, w8_2rr, w8_3, beq_self_eq_true, Bool.and_self, Bool.and_true, Bool.true_and, decide_true, Option.toList_some, Option.toList_none, List.cons_append, List.nil_append, Option.bind_some, if_true, if_false, Nat.reduceLeDiff, Nat.reduceLT, Nat.reduceBEq, Bool.or_false, Bool.false_or, Bool.or_true, Bool.true_or, up_s, pk_un, h.nd, x0]
      by_cases xb : x >>> (nI n &&& 31) = 0
      · by_cases b2 : bi (¬ y < 0 ∧ ¬ 60 < y) = 0
        · simp (disch := omega) only [xX12_least_0, xX12_least_1, xX12_least_2, xX12_least_5, xX12_least_6, xX12_least_9, xX12_least_10, xX12_least_11, xX12_least_14, xX12_least_15, xX12_least_18, xX12_least_19, xX12_least_20, xX12_least_22, xX12_least_25, xX12_least_28, xX12_least_29, xX12_least_30, xX12_least_32, xX12_least_35, xX12_least_38, xX12_least_40, xX12_least_41, xX12_least_43, xX12_least_46, xX12_least_49, xX12_least_50, kd_123, fi_123_75, kd_163, ln_163, fi_123_76, kd_164, ln_164, kd_123, ↓reduceIte, gd_t, hK_p, hN_p, hF_p, hI_p, hJ_p, hR_p, stI_p, stJ_p, stR_p, stA_p, va_rf_s, va_rf_n, clr_i, clr_l, clr_r, clr_n, clr_o, w8_0, w8_1i, w8_1r, w8_2ii, w8_2ri, w8_2ir, w8_2rr, w8_3, beq_self_eq_true, Bool.and_self, Bool.and_true, Bool.true_and, decide_true, Option.toList_some, Option.toList_none, List.cons_append, List.nil_append, Option.bind_some, if_true, if_false, Nat.reduceLeDiff, Nat.reduceLT, Nat.reduceBEq, Bool.or_false, Bool.false_or, Bool.or_true, Bool.true_or, up_s, pk_un, h.nd, x0, xb, isI_spec, b2, not_true_eq_false]
        by_cases b3 : bi (¬ z < 0 ∧ ¬ 99 < z) = 0
        · simp (disch := omega) only [xX12_least_0, xX12_least_1, xX12_least_2, xX12_least_5, xX12_least_6, xX12_least_9, xX12_least_10, xX12_least_11, xX12_least_14, xX12_least_15, xX12_least_18, xX12_least_19, xX12_least_20, xX12_least_22, xX12_least_25, xX12_least_28, xX12_least_29, xX12_least_30, xX12_least_32, xX12_least_35, xX12_least_38, xX12_least_40, xX12_least_41, xX12_least_43, xX12_least_46, xX12_least_49, xX12_least_50, kd_123, fi_123_75, kd_163, ln_163, fi_123_76, kd_164, ln_164, kd_123, ↓reduceIte, gd_t, hK_p, hN_p, hF_p, hI_p, hJ_p, hR_p, stI_p, stJ_p, stR_p, stA_p, va_rf_s, va_rf_n, clr_i, clr_l, clr_r, clr_n, clr_o, w8_0, w8_1i, w8_1r, w8_2ii, w8_2ri, w8_2ir, w8_2rr, w8_3, beq_self_eq_true, Bool.and_self, Bool.and_true, Bool.true_and, decide_true, Option.toList_some, Option.toList_none, List.cons_append, List.nil_append, Option.bind_some, if_true, if_false, Nat.reduceLeDiff, Nat.reduceLT, Nat.reduceBEq, Bool.or_false, Bool.false_or, Bool.or_true, Bool.true_or, up_s, pk_un, h.nd, x0, xb, isI_spec, b2, b3, not_true_eq_false]
        by_cases b4 : bi (¬ w < 0 ∧ ¬ 6 < w) = 0
        · simp (disch := omega) only [xX12_least_0, xX12_least_1, xX12_least_2, xX12_least_5, xX12_least_6, xX12_least_9, xX12_least_10, xX12_least_11, xX12_least_14, xX12_least_15, xX12_least_18, xX12_least_19, xX12_least_20, xX12_least_22, xX12_least_25, xX12_least_28, xX12_least_29, xX12_least_30, xX12_least_32, xX12_least_35, xX12_least_38, xX12_least_40, xX12_least_41, xX12_least_43, xX12_least_46, xX12_least_49, xX12_least_50, kd_123, fi_123_75, kd_163, ln_163, fi_123_76, kd_164, ln_164, kd_123, ↓reduceIte, gd_t, hK_p, hN_p, hF_p, hI_p, hJ_p, hR_p, stI_p, stJ_p, stR_p, stA_p, va_rf_s, va_rf_n, clr_i, clr_l, clr_r, clr_n, clr_o, w8_0, w8_1i, w8_1r, w8_2ii, w8_2ri, w8_2ir, w8_2rr, w8_3, beq_self_eq_true, Bool.and_self, Bool.and_true, Bool.true_and, decide_true, Option.toList_some, Option.toList_none, List.cons_append, List.nil_append, Option.bind_some, if_true, if_false, Nat.reduceLeDiff, Nat.reduceLT, Nat.reduceBEq, Bool.or_false, Bool.false_or, Bool.or_true, Bool.true_or, up_s, pk_un, h.nd, x0, xb, isI_spec, b2, b3, b4, not_true_eq_false]
        · exfalso
          refine hv ?_
          have c2 : ¬ y < 0 ∧ ¬ 60 < y := Decidable.not_not.mp (fun q => b2 (if_neg q))
          have c3 : ¬ z < 0 ∧ ¬ 99 < z := Decidable.not_not.mp (fun q => b3 (if_neg q))
          have c4 : ¬ w < 0 ∧ ¬ 6 < w := Decidable.not_not.mp (fun q => b4 (if_neg q))
          obtain ⟨m, hm, rfl⟩ := nI_of x0
          refine ⟨x0, ?_, c2.1, Int32.not_lt.mp c2.2, c3.1, c3.2, c4.1, Int32.not_lt.mp c4.2⟩
          rw [bits_ok hm hn6]
          exact fun q => q xb
      · simp (disch := omega) only [xX12_least_0, xX12_least_1, xX12_least_2, xX12_least_5, xX12_least_6, xX12_least_9, xX12_least_10, xX12_least_11, xX12_least_14, xX12_least_15, xX12_least_18, xX12_least_19, xX12_least_20, xX12_least_22, xX12_least_25, xX12_least_28, xX12_least_29, xX12_least_30, xX12_least_32, xX12_least_35, xX12_least_38, xX12_least_40, xX12_least_41, xX12_least_43, xX12_least_46, xX12_least_49, xX12_least_50, kd_123, fi_123_75, kd_163, ln_163, fi_123_76, kd_164, ln_164, kd_123, ↓reduceIte, gd_t, hK_p, hN_p, hF_p, hI_p, hJ_p, hR_p, stI_p, stJ_p, stR_p, stA_p, va_rf_s, va_rf_n, clr_i, clr_l, clr_r, clr_n, clr_o, w8_0, w8_1i, w8_1r, w8_2ii, w8_2ri, w8_2ir, w8_2rr, w8_3, beq_self_eq_true, Bool.and_self, Bool.and_true, Bool.true_and, decide_true, Option.toList_some, Option.toList_none, List.cons_append, List.nil_append, Option.bind_some, if_true, if_false, Nat.reduceLeDiff, Nat.reduceLT, Nat.reduceBEq, Bool.or_false, Bool.false_or, Bool.or_true, Bool.true_or, up_s, pk_un, h.nd, x0, xb, not_false_eq_true]
end LEQ

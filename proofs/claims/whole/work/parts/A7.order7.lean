-- ORDER, 7: the pair
section ORF
variable {I I2 : Mem} {J : MemL} {R : MemR} {t t' n nb nm fL lL fG lG st : Nat}
theorem odP_o {g : Nat} {l : List Nat} (ht : isTe t) (o : ∀ a, a < 60 → I2 a = I a) (o2 : I2 62 = I 62) (o3 : I2 63 = I 63) : odP I2 t lL lG n g l = odP I t lL lG n g l := by
  have ht2 := te_hi ht
  have e1 : losC I2 t lL 0 = losC I t lL 0 := by
    funext nm
    unfold losC
    simp (disch := omega) only [o]
  have e2 : goC I2 t lG = goC I t lG := by
    funext nm sp
    unfold goC
    simp (disch := omega) only [o]
  unfold odP P1 PG
  rw [e1, e2, o2, o3]
  simp (disch := omega) only [o]
  rfl
theorem cOrd_fr (hc : cOrd I t lL lG n) (ht : isTe t) (o : ∀ a, t ≤ a → a < t + 27 → I2 a = I a) (o2 : I2 62 = I 62) (o3 : I2 63 = I 63) (o7 : I2 117 = I 117) (o9 : I2 119 = I 119) : cOrd I2 t lL lG n := by
  have ht2 := te_hi ht
  have hf : ∀ N g w, fsL I2 t lL lG n N g w = fsL I t lL lG n N g w := by
    intro N g w
    funext l
    unfold fsL
    have e : odP I2 t lL lG n g l = odP I t lL lG n g l := by
      have e1 : losC I2 t lL 0 = losC I t lL 0 := by
        funext nm
        unfold losC
        simp (disch := omega) only [o]
      have e2 : goC I2 t lG = goC I t lG := by
        funext nm sp
        unfold goC
        simp (disch := omega) only [o]
      unfold odP P1 PG
      rw [e1, e2, o2, o3]
      simp (disch := omega) only [o]
      rfl
    rw [e]
  unfold cOrd at hc ⊢
  rw [o7, o9]
  simp only [hf]
  exact hc
/-- a call that may keep an order -/
def ordP (Mc Mm : Mth) (as : List Value) (I : Mem) (J : MemL) (R : MemR) (t t' n nb nm fL lL fG lG st : Nat) : Prop := ∃ v I1 J1 R1 I2 J2, C 11 Mc (.ref 0 :: as) (hp I J R) = some (some (.int v), hp I1 J1 R1) ∧ C 11 Mm (.ref 123 :: as) (hp I1 J1 R1) = some (some (.int v), hp I2 J2 R1) ∧ cAll I2 R1 t t' n nb nm fL lL fG lG st ∧ cOrd I2 t lL lG n ∧ (∀ a, t ≤ a → a < t + 27 → I2 a = I a) ∧ I2 62 = I 62 ∧ I2 63 = I 63 ∧ I2 112 = I 112 ∧ I2 116 = I 116
theorem askP.ord {Mc Mm : Mth} {as : List Value} (h : cAll I R t t' n nb nm fL lL fG lG st) (hc : cOrd I t lL lG n) (a : askP Mc Mm as I J R) : ordP Mc Mm as I J R t t' n nb nm fL lL fG lG st := by
  obtain ⟨v, I1, J1, R1, I2, J2, h1, h2, h3, r0, r1, r2⟩ := a
  have ht := te_hi h.te
  have o : ∀ a, t ≤ a → a < t + 27 → I2 a = I a := fun a h1 h2 => h3.1 a (by unfold kpA; omega)
  exact ⟨v, I1, J1, R1, I2, J2, h1, h2, cAll_kp h h3 r0 r1 r2, cOrd_fr hc h.te o (h3.1 62 (by unfold kpA; omega)) (h3.1 63 (by unfold kpA; omega)) (h3.1 117 (by unfold kpA; omega)) (h3.1 119 (by unfold kpA; omega)), o, h3.1 62 (by unfold kpA; omega), h3.1 63 (by unfold kpA; omega), h3.1 112 (by unfold kpA; omega), h3.1 116 (by unfold kpA; omega)⟩
theorem order_p (h : cAll I R t t' n nb nm fL lL fG lG st) (hc : cOrd I t lL lG n) {x y z w : Int32} : ordP MX11_order MX12_order [.int x, .int y, .int z, .int w] I J R t t' n nb nm fL lL fG lG st := by
  have hn6 := h.n6
  have ht2 := te_hi h.te
  have n1 : ¬ (1 : Int32) = 0 := by decide
  by_cases hv : ¬ x < 1 ∧ ¬ 300 < x ∧ ¬ y < 0 ∧ ¬ 99 < y ∧ ¬ apR z = 0 ∧ ¬ nI n = 0 ∧ ¬ w < 0 ∧ w ≤ nI n
  · obtain ⟨x1, x3, y0, y9, z0, nz, w0, wn⟩ := hv
    have x0 : ¬ x < 0 := fun q => x1 (Int32.lt_trans q (by decide))
    obtain ⟨N, hN, rfl⟩ := nI_of2 (M := 300) (n := 300) (by decide) x0 (Int32.not_lt.mp x3)
    obtain ⟨g, hg, rfl⟩ := nI_of2 (M := 99) (n := 99) (by decide) y0 (Int32.not_lt.mp y9)
    rcases apR_or (x := z) with ⟨w', hw', rfl, ez⟩ | ez
    · obtain ⟨k, hk, rfl⟩ := nI_of w0
      have hkn : k ≤ n := (nI_leI hk (by omega)).mp wn
      have hn1 : 1 ≤ n := by
        rcases Nat.eq_zero_or_pos n with q | q
        · rw [q] at nz; exact absurd rfl nz
        · exact q
      have hN1 : 1 ≤ N := by
        rcases Nat.eq_zero_or_pos N with q | q
        · rw [q] at x1; exact absurd (by decide) x1
        · exact q
      obtain ⟨X1, J1, R1, e1, r1, k1, f4, f5, f6, f7, fm⟩ := fin_c (d := 4) (J := J) h hn1 hc hN1 hN hg hw'
      have b1 : bi (¬ nI N < 1 ∧ ¬ 300 < nI N) = 1 := if_pos ⟨x1, x3⟩
      have b2 : bi (¬ nI g < 0 ∧ ¬ 99 < nI g) = 1 := if_pos ⟨y0, y9⟩
      have b3 : bi (¬ nI k < 0 ∧ ¬ nI n < nI k) = 1 := if_pos ⟨w0, Int32.not_lt.mpr wn⟩
      have hm : ∀ a, 123 ≤ a → X1 a = I a := fun a ha => k1 a (Or.inr ha)
      have hnd : X1 123 13 = nI n := by rw [hm 123 (by omega)]; exact h.nd
      -- the model's first order
      generalize hQ : va_up X1 123 (upd (X1 123) 2 0) = Q
      have q13 : Q 123 13 = nI n := by rw [← hQ, up_s, pk_un (by decide)]; exact hnd
      have ef : C 10 MX12_firstOrder [.ref 123] (hp Q J1 R1) = some (none, hp (va_up Q 165 (cpF (fun i => nI i) (Q 165) 6)) J1 R1) := by
        have hl := for_0 (P := fun i (r : Nat → Int32) => E (C 9) MX12_firstOrder 2 [some (.ref 123), some (.int (nI i))] [] (hp (va_up Q 165 r) J1 R1)) (fin := fun r => some (none, hp (va_up Q 165 r) J1 R1)) (f := fun i r => upd r i (nI i)) (n := 6) (s := Q 165) (by
          intro i r hi
          have c0 : ¬ (6 : Int32) ≤ nI i := fun w => absurd ((nI_leI (a := 6) (by omega) (by omega)).mp w) (by omega)
          rw [xX12_firstOrder_2]
          simp (disch := omega) only [xX12_firstOrder_3, xX12_firstOrder_5, xX12_firstOrder_8, xX12_firstOrder_9, xX12_firstOrder_12, xX12_firstOrder_13, xX12_firstOrder_14, xX12_firstOrder_15, xX12_firstOrder_18, kd_123, fi_123_77, kd_165, ln_165, ↓reduceIte, gd_t, hK_p, hN_p, hF_p, hI_p, hJ_p, hR_p, stI_p, stJ_p, stR_p, stA_p, va_rf_s, va_rf_n, clr_i, clr_l, clr_r, clr_n, clr_o, w8_0, w8_1i, w8_1r, w8_2ii, w8_2ri, w8_2ir, w8_2rr, w8_3, beq_self_eq_true, Bool.and_self, Bool.and_true, Bool.true_and, decide_true, Option.toList_some, Option.toList_none, List.cons_append, List.nil_append, Option.bind_some, if_true, if_false, Nat.reduceLeDiff, Nat.reduceLT, Nat.reduceBEq, Bool.or_false, Bool.false_or, Bool.or_true, Bool.true_or, nI_leI, nI_ltI, nI_eq, nI_clamp, inb_n, up_s, up_n, bx_uu, nI_1, ix6, nI_0n, pk_us, pk_un, ge_0n, c0]) (by
          intro r
          have c0 : (6 : Int32) ≤ nI 6 := by decide
          rw [xX12_firstOrder_2]
          simp (disch := omega) only [xX12_firstOrder_3, xX12_firstOrder_5, xX12_firstOrder_8, xX12_firstOrder_9, xX12_firstOrder_12, xX12_firstOrder_13, xX12_firstOrder_14, xX12_firstOrder_15, xX12_firstOrder_18, xX12_firstOrder_21, kd_123, fi_123_77, kd_165, ln_165, ↓reduceIte, gd_t, hK_p, hN_p, hF_p, hI_p, hJ_p, hR_p, stI_p, stJ_p, stR_p, stA_p, va_rf_s, va_rf_n, clr_i, clr_l, clr_r, clr_n, clr_o, w8_0, w8_1i, w8_1r, w8_2ii, w8_2ri, w8_2ir, w8_2rr, w8_3, beq_self_eq_true, Bool.and_self, Bool.and_true, Bool.true_and, decide_true, Option.toList_some, Option.toList_none, List.cons_append, List.nil_append, Option.bind_some, if_true, if_false, Nat.reduceLeDiff, Nat.reduceLT, Nat.reduceBEq, Bool.or_false, Bool.false_or, Bool.or_true, Bool.true_or, nI_leI, nI_ltI, nI_eq, nI_clamp, inb_n, up_s, up_n, bx_uu, nI_1, ix6, nI_0n, pk_us, pk_un, ge_0n, c0])
        rw [itf_cp (v := fun i => nI i), nI_0, up_self] at hl
        rw [eX12_firstOrder]
        simp only [xX12_firstOrder_0, xX12_firstOrder_1, ↓reduceIte, gd_t, hK_p, hN_p, hF_p, hI_p, hJ_p, hR_p, stI_p, stJ_p, stR_p, stA_p, va_rf_s, va_rf_n, clr_i, clr_l, clr_r, clr_n, clr_o, w8_0, w8_1i, w8_1r, w8_2ii, w8_2ri, w8_2ir, w8_2rr, w8_3, beq_self_eq_true, Bool.and_self, Bool.and_true, Bool.true_and, decide_true, Option.toList_some, Option.toList_none, List.cons_append, List.nil_append, Option.bind_some, if_true, if_false, Nat.reduceLeDiff, Nat.reduceLT, Nat.reduceBEq, Bool.or_false, Bool.false_or, Bool.or_true, Bool.true_or]
        exact hl
      -- what nobody asks is as the class left it
      generalize hK : va_up (va_up I 117 (X1 117)) 119 (X1 119) = K
      have kK : ∀ a, a ≠ 117 → a ≠ 119 → K a = I a := fun a h1 h2 => by rw [← hK, up_n h2, up_n h1]
      have hA : cAll K R t t' n nb nm fL lL fG lG st := cAll_sw h (fun a _ _ _ h4 h5 => kK a h4 h5)
      have tK : tk K X1 := fun a ha => by
        by_cases a7 : a = 117
        · rw [a7, ← hK, up_n (by decide), up_s]
        by_cases a9 : a = 119
        · rw [a9, ← hK, up_s]
        rw [kK a a7 a9]
        exact k1 a (by rcases ha with q | q; exact Or.inl ⟨q, a7, a9⟩; exact Or.inr q)
      have kQ : kp K (va_up Q 165 (cpF (fun i => nI i) (Q 165) 6)) := (tK.kp.tr (by rw [← hQ]; exact kp.thr)).tr ⟨fun a ha => up_n (by unfold kpA at ha; omega), fun k _ => by rw [up_n (by decide)], fun a k h1 h2 _ => by rw [up_n (by omega)]⟩
      obtain ⟨X2, J2, v1, l7, l8, l1, e2, o2⟩ := oal_m (d := 4) (g := g) (w := w') (wh := nI k) (R1 := R1) hA hn1 hN hg 719 (List.range n) none (-1) (va_up Q 165 (cpF (fun i => nI i) (Q 165) 6)) J1 none none (okS_all n hn6) ⟨kQ, range_row (fun i hi => by rw [up_s, cpF_at (by omega)]), rfl⟩
      have hfs : fsL K t lL lG n N g w' = fsL I t lL lG n N g w' := by
        funext l
        unfold fsL
        rw [odP_o h.te (fun a ha => kK a (by omega) (by omega)) (kK 62 (by decide) (by decide)) (kK 63 (by decide) (by decide))]
      rw [hfs] at o2
      obtain ⟨k2, -, oB⟩ := o2
      have y117 : X2 117 = X1 117 := by rw [k2.1 117 (by unfold kpA; omega), ← hK, up_n (by decide), up_s]
      have y119 : X2 119 = X1 119 := by rw [k2.1 119 (by unfold kpA; omega), ← hK, up_s]
      have yo : ∀ a, a < 64 → X2 a = I a := fun a ha => by rw [k2.1 a (by unfold kpA; omega), kK a (by omega) (by omega)]
      have hfs2 : fsL X2 t lL lG n N g w' = fsL I t lL lG n N g w' := by
        funext l
        unfold fsL
        rw [odP_o h.te (fun a ha => yo a (by omega)) (yo 62 (by decide)) (yo 63 (by decide))]
      have hcO : cOrd X2 t lL lG n := by
        refine Or.inr ⟨by rw [y117]; exact f4, N, g, w', hN, hg, hw', by rw [y117]; exact f5, by rw [y117]; exact f6, by rw [y117]; exact f7, ?_⟩
        rw [hfs2, y117, y119]
        exact fm
      have hlast : cAll X2 R1 t t' n nb nm fL lL fG lG st ∧ cOrd X2 t lL lG n ∧ (∀ a, t ≤ a → a < t + 27 → X2 a = I a) ∧ X2 62 = I 62 ∧ X2 63 = I 63 ∧ X2 112 = I 112 ∧ X2 116 = I 116 := ⟨cAll_kp hA k2 (r1 _ (by decide)) (r1 _ (by decide)) (r1 _ (by decide)), hcO, fun a h1 h2 => yo a (by omega), yo _ (by decide), yo _ (by decide), by rw [k2.1 112 (by unfold kpA; omega), kK 112 (by decide) (by decide)], by rw [k2.1 116 (by unfold kpA; omega), kK 116 (by decide) (by decide)]⟩
      have hcl : ∀ u : Int32, E (C 10) MX11_order 76 [some (.ref 0), some (.int (nI N)), some (.int (nI g)), some (.int (nI w')), some (.int (nI k)), some (.int (nI n))] [] (hp X1 J1 R1) = some (some (.int u), hp X1 J1 R1) → C 11 MX11_order [.ref 0, .int (nI N), .int (nI g), .int (nI w'), .int (nI k)] (hp I J R) = some (some (.int u), hp X1 J1 R1) := by
        intro u hu
        rw [eX11_order]
        have w85 : w8 [] = true := rfl
        simp (disch := omega) only [xX11_order_0, xX11_order_1, xX11_order_4, xX11_order_7, xX11_order_10, xX11_order_12, xX11_order_13, xX11_order_14, xX11_order_17, xX11_order_18, xX11_order_21, xX11_order_24, xX11_order_25, xX11_order_28, xX11_order_29, xX11_order_31, xX11_order_34, xX11_order_35, xX11_order_38, xX11_order_41, xX11_order_42, xX11_order_43, xX11_order_45, xX11_order_48, xX11_order_50, xX11_order_53, xX11_order_55, xX11_order_57, xX11_order_60, xX11_order_61, xX11_order_62, xX11_order_63, xX11_order_66, xX11_order_67, xX11_order_70, xX11_order_71, xX11_order_72, xX11_order_73, kd_0, fi_0_5, kd_60, fi_0_13, kd_117, te_k0 h.te, te_f0_3 h.te, te_k5 h.te, te_k1 h.te, te_k15 h.te, te_k5 h.te, kd_117, kd_60, ↓reduceIte, gd_t, hK_p, hN_p, hF_p, hI_p, hJ_p, hR_p, stI_p, stJ_p, stR_p, stA_p, va_rf_s, va_rf_n, clr_i, clr_l, clr_r, clr_n, clr_o, w8_0, w8_1i, w8_1r, w8_2ii, w8_2ri, w8_2ir, w8_2rr, w8_3, beq_self_eq_true, Bool.and_self, Bool.and_true, Bool.true_and, decide_true, Option.toList_some, Option.toList_none, List.cons_append, List.nil_append, Option.bind_some, if_true, if_false, Nat.reduceLeDiff, Nat.reduceLT, Nat.reduceBEq, Bool.or_false, Bool.false_or, Bool.or_true, Bool.true_or, h.r3, h.nc, x1, x3, y0, y9, isA_c, ez, n1, nz, w0, wn, e1, not_false_eq_true]
        exact hu
      have hmd : ∀ u : Int32, E (C 10) MX12_order 182 [some (.ref 123), some (.int (nI N)), some (.int (nI g)), some (.int (nI w')), some (.int (nI k)), some (.int v1), some (.int 0), l7, l8] [] (hp X2 J2 R1) = some (some (.int u), hp X2 J2 R1) → C 11 MX12_order [.ref 123, .int (nI N), .int (nI g), .int (nI w'), .int (nI k)] (hp X1 J1 R1) = some (some (.int u), hp X2 J2 R1) := by
        intro u hu
        rw [← hu, ← e2, eX12_order]
        simp (disch := omega) only [xX12_order_0, xX12_order_1, xX12_order_2, xX12_order_5, xX12_order_6, xX12_order_9, xX12_order_12, xX12_order_13, xX12_order_14, xX12_order_17, xX12_order_20, xX12_order_23, xX12_order_24, xX12_order_25, xX12_order_27, xX12_order_30, xX12_order_33, xX12_order_34, xX12_order_37, xX12_order_40, xX12_order_42, xX12_order_43, xX12_order_44, xX12_order_47, xX12_order_50, xX12_order_53, xX12_order_54, xX12_order_55, xX12_order_56, xX12_order_58, xX12_order_59, xX12_order_62, xX12_order_63, kd_123, fi_123_67, kd_158, ln_158, fi_123_77, kd_165, ln_165, fi_123_78, kd_166, ln_166, kd_123, ↓reduceIte, gd_t, hK_p, hN_p, hF_p, hI_p, hJ_p, hR_p, stI_p, stJ_p, stR_p, stA_p, va_rf_s, va_rf_n, clr_i, clr_l, clr_r, clr_n, clr_o, w8_0, w8_1i, w8_1r, w8_2ii, w8_2ri, w8_2ir, w8_2rr, w8_3, beq_self_eq_true, Bool.and_self, Bool.and_true, Bool.true_and, decide_true, Option.toList_some, Option.toList_none, List.cons_append, List.nil_append, Option.bind_some, if_true, if_false, Nat.reduceLeDiff, Nat.reduceLT, Nat.reduceBEq, Bool.or_false, Bool.false_or, Bool.or_true, Bool.true_or, hQ, q13, nz, isI_spec, b1, b2, b3, n1, isN_m, ez, ef, not_false_eq_true]
      generalize ordF n (fsL I t lL lG n N g w') 719 (List.range n) none = F at *
      cases F with
      | none =>
        have g3 : X1 117 3 = -2 := fm
        have gv : v1 = -1 := oB
        have m1 : ¬ (0 : Int32) ≤ -1 := by decide
        refine ⟨-2, X1, J1, R1, X2, J2, hcl _ ?_, hmd _ ?_, hlast⟩
        · simp (disch := omega) only [xX11_order_76, xX11_order_77, xX11_order_80, xX11_order_83, xX11_order_85, xX11_order_88, xX11_order_90, xX11_order_93, xX11_order_94, xX11_order_97, xX11_order_100, xX11_order_101, xX11_order_102, xX11_order_105, xX11_order_108, xX11_order_110, xX11_order_111, xX11_order_112, xX11_order_113, kd_0, fi_0_5, kd_60, fi_0_13, kd_117, fi_117_2, kd_119, ln_119, ↓reduceIte, gd_t, hK_p, hN_p, hF_p, hI_p, hJ_p, hR_p, stI_p, stJ_p, stR_p, stA_p, va_rf_s, va_rf_n, clr_i, clr_l, clr_r, clr_n, clr_o, w8_0, w8_1i, w8_1r, w8_2ii, w8_2ri, w8_2ir, w8_2rr, w8_3, beq_self_eq_true, Bool.and_self, Bool.and_true, Bool.true_and, decide_true, Option.toList_some, Option.toList_none, List.cons_append, List.nil_append, Option.bind_some, if_true, if_false, Nat.reduceLeDiff, Nat.reduceLT, Nat.reduceBEq, Bool.or_false, Bool.false_or, Bool.or_true, Bool.true_or, g3]
        · rw [gv]
          simp (disch := omega) only [xX12_order_182, xX12_order_184, xX12_order_187, xX12_order_189, xX12_order_192, xX12_order_194, xX12_order_197, xX12_order_199, xX12_order_202, xX12_order_203, xX12_order_206, xX12_order_208, xX12_order_209, xX12_order_210, xX12_order_211, kd_123, fi_123_67, kd_158, ln_158, fi_123_77, kd_165, ln_165, fi_123_78, kd_166, ln_166, ↓reduceIte, gd_t, hK_p, hN_p, hF_p, hI_p, hJ_p, hR_p, stI_p, stJ_p, stR_p, stA_p, va_rf_s, va_rf_n, clr_i, clr_l, clr_r, clr_n, clr_o, w8_0, w8_1i, w8_1r, w8_2ii, w8_2ri, w8_2ir, w8_2rr, w8_3, beq_self_eq_true, Bool.and_self, Bool.and_true, Bool.true_and, decide_true, Option.toList_some, Option.toList_none, List.cons_append, List.nil_append, Option.bind_some, if_true, if_false, Nat.reduceLeDiff, Nat.reduceLT, Nat.reduceBEq, Bool.or_false, Bool.false_or, Bool.or_true, Bool.true_or, m1]
      | some p =>
        have g3 : X1 117 3 = nI p.1 := fm.1
        have gN : p.1 < N := fm.2.1
        have gl : p.2.length = n := fm.2.2.1
        have gr : rowL (X1 119) p.2 := fm.2.2.2
        have gv : v1 = nI p.1 := oB.1
        have gr2 : rowL (X2 166) p.2 := oB.2.2.2
        have m1 : (0 : Int32) ≤ nI p.1 := nI_pos' (by omega)
        have m2 := nI_n2 (j := p.1) (by omega)
        by_cases k0 : k = 0
        · subst k0
          refine ⟨nI p.1, X1, J1, R1, X2, J2, hcl _ ?_, hmd _ ?_, hlast⟩
          · simp (disch := omega) only [xX11_order_76, xX11_order_77, xX11_order_80, xX11_order_83, xX11_order_85, xX11_order_88, xX11_order_90, xX11_order_93, xX11_order_94, xX11_order_97, xX11_order_100, xX11_order_101, xX11_order_102, xX11_order_105, xX11_order_108, xX11_order_110, xX11_order_111, xX11_order_112, xX11_order_113, kd_0, fi_0_5, kd_60, fi_0_13, kd_117, fi_117_2, kd_119, ln_119, ↓reduceIte, gd_t, hK_p, hN_p, hF_p, hI_p, hJ_p, hR_p, stI_p, stJ_p, stR_p, stA_p, va_rf_s, va_rf_n, clr_i, clr_l, clr_r, clr_n, clr_o, w8_0, w8_1i, w8_1r, w8_2ii, w8_2ri, w8_2ir, w8_2rr, w8_3, beq_self_eq_true, Bool.and_self, Bool.and_true, Bool.true_and, decide_true, Option.toList_some, Option.toList_none, List.cons_append, List.nil_append, Option.bind_some, if_true, if_false, Nat.reduceLeDiff, Nat.reduceLT, Nat.reduceBEq, Bool.or_false, Bool.false_or, Bool.or_true, Bool.true_or, g3, m2, nI_0, not_true_eq_false]
          · rw [gv]
            simp (disch := omega) only [xX12_order_182, xX12_order_184, xX12_order_187, xX12_order_189, xX12_order_192, xX12_order_194, xX12_order_197, xX12_order_199, xX12_order_202, xX12_order_203, xX12_order_206, xX12_order_208, xX12_order_209, xX12_order_210, xX12_order_211, kd_123, fi_123_67, kd_158, ln_158, fi_123_77, kd_165, ln_165, fi_123_78, kd_166, ln_166, ↓reduceIte, gd_t, hK_p, hN_p, hF_p, hI_p, hJ_p, hR_p, stI_p, stJ_p, stR_p, stA_p, va_rf_s, va_rf_n, clr_i, clr_l, clr_r, clr_n, clr_o, w8_0, w8_1i, w8_1r, w8_2ii, w8_2ri, w8_2ir, w8_2rr, w8_3, beq_self_eq_true, Bool.and_self, Bool.and_true, Bool.true_and, decide_true, Option.toList_some, Option.toList_none, List.cons_append, List.nil_append, Option.bind_some, if_true, if_false, Nat.reduceLeDiff, Nat.reduceLT, Nat.reduceBEq, Bool.or_false, Bool.false_or, Bool.or_true, Bool.true_or, m1, nI_0, not_true_eq_false]
        · have k0' : ¬ nI k = 0 := fun q => k0 ((nI_eq (b := 0) (by omega) (by omega)).mp q)
          have km : nI k - 1 = nI (k - 1) := nI_m1 (by omega)
          refine ⟨nI (p.2.getD (k - 1) 0), X1, J1, R1, X2, J2, hcl _ ?_, hmd _ ?_, hlast⟩
          · simp (disch := omega) only [xX11_order_76, xX11_order_77, xX11_order_80, xX11_order_83, xX11_order_85, xX11_order_88, xX11_order_90, xX11_order_93, xX11_order_94, xX11_order_97, xX11_order_100, xX11_order_101, xX11_order_102, xX11_order_105, xX11_order_108, xX11_order_110, xX11_order_111, xX11_order_112, xX11_order_113, kd_0, fi_0_5, kd_60, fi_0_13, kd_117, fi_117_2, kd_119, ln_119, ↓reduceIte, gd_t, hK_p, hN_p, hF_p, hI_p, hJ_p, hR_p, stI_p, stJ_p, stR_p, stA_p, va_rf_s, va_rf_n, clr_i, clr_l, clr_r, clr_n, clr_o, w8_0, w8_1i, w8_1r, w8_2ii, w8_2ri, w8_2ir, w8_2rr, w8_3, beq_self_eq_true, Bool.and_self, Bool.and_true, Bool.true_and, decide_true, Option.toList_some, Option.toList_none, List.cons_append, List.nil_append, Option.bind_some, if_true, if_false, Nat.reduceLeDiff, Nat.reduceLT, Nat.reduceBEq, Bool.or_false, Bool.false_or, Bool.or_true, Bool.true_or, nI_leI, nI_ltI, nI_eq, nI_clamp, inb_n, up_s, up_n, bx_uu, nI_1, ix6, nI_0n, pk_us, pk_un, ge_0n, g3, m2, k0', km, gr (k - 1) (by omega), not_false_eq_true]
          · rw [gv]
            simp (disch := omega) only [xX12_order_182, xX12_order_184, xX12_order_187, xX12_order_189, xX12_order_192, xX12_order_194, xX12_order_197, xX12_order_199, xX12_order_202, xX12_order_203, xX12_order_206, xX12_order_208, xX12_order_209, xX12_order_210, xX12_order_211, kd_123, fi_123_67, kd_158, ln_158, fi_123_77, kd_165, ln_165, fi_123_78, kd_166, ln_166, ↓reduceIte, gd_t, hK_p, hN_p, hF_p, hI_p, hJ_p, hR_p, stI_p, stJ_p, stR_p, stA_p, va_rf_s, va_rf_n, clr_i, clr_l, clr_r, clr_n, clr_o, w8_0, w8_1i, w8_1r, w8_2ii, w8_2ri, w8_2ir, w8_2rr, w8_3, beq_self_eq_true, Bool.and_self, Bool.and_true, Bool.true_and, decide_true, Option.toList_some, Option.toList_none, List.cons_append, List.nil_append, Option.bind_some, if_true, if_false, Nat.reduceLeDiff, Nat.reduceLT, Nat.reduceBEq, Bool.or_false, Bool.false_or, Bool.or_true, Bool.true_or, inb_n, nI_clamp, m1, k0', km, gr2 (k - 1) (by omega), not_false_eq_true]
    · exact absurd ez z0
  · refine askP.ord h hc (askP.mk0 (v := -1) (w := -1) ?_ ?_ rfl)
    · rw [eX11_order]
      by_cases x1 : x < 1
      · simp (disch := omega) only [xX11_order_0, xX11_order_1, xX11_order_4, xX11_order_7, xX11_order_10, xX11_order_12, xX11_order_13, xX11_order_14, xX11_order_17, xX11_order_18, xX11_order_21, xX11_order_24, xX11_order_25, xX11_order_28, xX11_order_29, xX11_order_31, xX11_order_34, xX11_order_35, xX11_order_38, xX11_order_41, xX11_order_42, xX11_order_43, xX11_order_45, xX11_order_48, xX11_order_50, xX11_order_53, xX11_order_55, xX11_order_57, xX11_order_60, xX11_order_61, kd_0, fi_0_5, kd_60, fi_0_13, kd_117, te_k0 h.te, te_f0_3 h.te, te_k5 h.te, te_k1 h.te, te_k15 h.te, te_k5 h.te, ↓reduceIte, gd_t, hK_p, hN_p, hF_p, hI_p, hJ_p, hR_p, stI_p, stJ_p, stR_p, stA_p, va_rf_s, va_rf_n, clr_i, clr_l, clr_r, clr_n, clr_o, w8_0, w8_1i, w8_1r, w8_2ii, w8_2ri, w8_2ir, w8_2rr, w8_3, beq_self_eq_true, Bool.and_self, Bool.and_true, Bool.true_and, decide_true, Option.toList_some, Option.toList_none, List.cons_append, List.nil_append, Option.bind_some, if_true, if_false, Nat.reduceLeDiff, Nat.reduceLT, Nat.reduceBEq, Bool.or_false, Bool.false_or, Bool.or_true, Bool.true_or, h.r3, h.nc, x1]
      by_cases x3 : 300 < x
      · simp (disch := omega) only [xX11_order_0, xX11_order_1, xX11_order_4, xX11_order_7, xX11_order_10, xX11_order_12, xX11_order_13, xX11_order_14, xX11_order_17, xX11_order_18, xX11_order_21, xX11_order_24, xX11_order_25, xX11_order_28, xX11_order_29, xX11_order_31, xX11_order_34, xX11_order_35, xX11_order_38, xX11_order_41, xX11_order_42, xX11_order_43, xX11_order_45, xX11_order_48, xX11_order_50, xX11_order_53, xX11_order_55, xX11_order_57, xX11_order_60, xX11_order_61, kd_0, fi_0_5, kd_60, fi_0_13, kd_117, te_k0 h.te, te_f0_3 h.te, te_k5 h.te, te_k1 h.te, te_k15 h.te, te_k5 h.te, ↓reduceIte, gd_t, hK_p, hN_p, hF_p, hI_p, hJ_p, hR_p, stI_p, stJ_p, stR_p, stA_p, va_rf_s, va_rf_n, clr_i, clr_l, clr_r, clr_n, clr_o, w8_0, w8_1i, w8_1r, w8_2ii, w8_2ri, w8_2ir, w8_2rr, w8_3, beq_self_eq_true, Bool.and_self, Bool.and_true, Bool.true_and, decide_true, Option.toList_some, Option.toList_none, List.cons_append, List.nil_append, Option.bind_some, if_true, if_false, Nat.reduceLeDiff, Nat.reduceLT, Nat.reduceBEq, Bool.or_false, Bool.false_or, Bool.or_true, Bool.true_or, h.r3, h.nc, x1, x3]
      by_cases y0 : y < 0
      · simp (disch := omega) only [xX11_order_0, xX11_order_1, xX11_order_4, xX11_order_7, xX11_order_10, xX11_order_12, xX11_order_13, xX11_order_14, xX11_order_17, xX11_order_18, xX11_order_21, xX11_order_24, xX11_order_25, xX11_order_28, xX11_order_29, xX11_order_31, xX11_order_34, xX11_order_35, xX11_order_38, xX11_order_41, xX11_order_42, xX11_order_43, xX11_order_45, xX11_order_48, xX11_order_50, xX11_order_53, xX11_order_55, xX11_order_57, xX11_order_60, xX11_order_61, kd_0, fi_0_5, kd_60, fi_0_13, kd_117, te_k0 h.te, te_f0_3 h.te, te_k5 h.te, te_k1 h.te, te_k15 h.te, te_k5 h.te, ↓reduceIte, gd_t, hK_p, hN_p, hF_p, hI_p, hJ_p, hR_p, stI_p, stJ_p, stR_p, stA_p, va_rf_s, va_rf_n, clr_i, clr_l, clr_r, clr_n, clr_o, w8_0, w8_1i, w8_1r, w8_2ii, w8_2ri, w8_2ir, w8_2rr, w8_3, beq_self_eq_true, Bool.and_self, Bool.and_true, Bool.true_and, decide_true, Option.toList_some, Option.toList_none, List.cons_append, List.nil_append, Option.bind_some, if_true, if_false, Nat.reduceLeDiff, Nat.reduceLT, Nat.reduceBEq, Bool.or_false, Bool.false_or, Bool.or_true, Bool.true_or, h.r3, h.nc, x1, x3, y0]
      by_cases y9 : 99 < y
      · simp (disch := omega) only [xX11_order_0, xX11_order_1, xX11_order_4, xX11_order_7, xX11_order_10, xX11_order_12, xX11_order_13, xX11_order_14, xX11_order_17, xX11_order_18, xX11_order_21, xX11_order_24, xX11_order_25, xX11_order_28, xX11_order_29, xX11_order_31, xX11_order_34, xX11_order_35, xX11_order_38, xX11_order_41, xX11_order_42, xX11_order_43, xX11_order_45, xX11_order_48, xX11_order_50, xX11_order_53, xX11_order_55, xX11_order_57, xX11_order_60, xX11_order_61, kd_0, fi_0_5, kd_60, fi_0_13, kd_117, te_k0 h.te, te_f0_3 h.te, te_k5 h.te, te_k1 h.te, te_k15 h.te, te_k5 h.te, ↓reduceIte, gd_t, hK_p, hN_p, hF_p, hI_p, hJ_p, hR_p, stI_p, stJ_p, stR_p, stA_p, va_rf_s, va_rf_n, clr_i, clr_l, clr_r, clr_n, clr_o, w8_0, w8_1i, w8_1r, w8_2ii, w8_2ri, w8_2ir, w8_2rr, w8_3, beq_self_eq_true, Bool.and_self, Bool.and_true, Bool.true_and, decide_true, Option.toList_some, Option.toList_none, List.cons_append, List.nil_append, Option.bind_some, if_true, if_false, Nat.reduceLeDiff, Nat.reduceLT, Nat.reduceBEq, Bool.or_false, Bool.false_or, Bool.or_true, Bool.true_or, h.r3, h.nc, x1, x3, y0, y9]
      by_cases z0 : apR z = 0
      · simp (disch := omega) only [xX11_order_0, xX11_order_1, xX11_order_4, xX11_order_7, xX11_order_10, xX11_order_12, xX11_order_13, xX11_order_14, xX11_order_17, xX11_order_18, xX11_order_21, xX11_order_24, xX11_order_25, xX11_order_28, xX11_order_29, xX11_order_31, xX11_order_34, xX11_order_35, xX11_order_38, xX11_order_41, xX11_order_42, xX11_order_43, xX11_order_45, xX11_order_48, xX11_order_50, xX11_order_53, xX11_order_55, xX11_order_57, xX11_order_60, xX11_order_61, kd_0, fi_0_5, kd_60, fi_0_13, kd_117, te_k0 h.te, te_f0_3 h.te, te_k5 h.te, te_k1 h.te, te_k15 h.te, te_k5 h.te, ↓reduceIte, gd_t, hK_p, hN_p, hF_p, hI_p, hJ_p, hR_p, stI_p, stJ_p, stR_p, stA_p, va_rf_s, va_rf_n, clr_i, clr_l, clr_r, clr_n, clr_o, w8_0, w8_1i, w8_1r, w8_2ii, w8_2ri, w8_2ir, w8_2rr, w8_3, beq_self_eq_true, Bool.and_self, Bool.and_true, Bool.true_and, decide_true, Option.toList_some, Option.toList_none, List.cons_append, List.nil_append, Option.bind_some, if_true, if_false, Nat.reduceLeDiff, Nat.reduceLT, Nat.reduceBEq, Bool.or_false, Bool.false_or, Bool.or_true, Bool.true_or, h.r3, h.nc, x1, x3, y0, y9, isA_c, z0, not_true_eq_false]
      by_cases nz : nI n = 0
      · simp (disch := omega) only [xX11_order_0, xX11_order_1, xX11_order_4, xX11_order_7, xX11_order_10, xX11_order_12, xX11_order_13, xX11_order_14, xX11_order_17, xX11_order_18, xX11_order_21, xX11_order_24, xX11_order_25, xX11_order_28, xX11_order_29, xX11_order_31, xX11_order_34, xX11_order_35, xX11_order_38, xX11_order_41, xX11_order_42, xX11_order_43, xX11_order_45, xX11_order_48, xX11_order_50, xX11_order_53, xX11_order_55, xX11_order_57, xX11_order_60, xX11_order_61, kd_0, fi_0_5, kd_60, fi_0_13, kd_117, te_k0 h.te, te_f0_3 h.te, te_k5 h.te, te_k1 h.te, te_k15 h.te, te_k5 h.te, ↓reduceIte, gd_t, hK_p, hN_p, hF_p, hI_p, hJ_p, hR_p, stI_p, stJ_p, stR_p, stA_p, va_rf_s, va_rf_n, clr_i, clr_l, clr_r, clr_n, clr_o, w8_0, w8_1i, w8_1r, w8_2ii, w8_2ri, w8_2ir, w8_2rr, w8_3, beq_self_eq_true, Bool.and_self, Bool.and_true, Bool.true_and, decide_true, Option.toList_some, Option.toList_none, List.cons_append, List.nil_append, Option.bind_some, if_true, if_false, Nat.reduceLeDiff, Nat.reduceLT, Nat.reduceBEq, Bool.or_false, Bool.false_or, Bool.or_true, Bool.true_or, h.r3, h.nc, x1, x3, y0, y9, isA_c, z0, nz, not_false_eq_true]
      by_cases w0 : w < 0
      · simp (disch := omega) only [xX11_order_0, xX11_order_1, xX11_order_4, xX11_order_7, xX11_order_10, xX11_order_12, xX11_order_13, xX11_order_14, xX11_order_17, xX11_order_18, xX11_order_21, xX11_order_24, xX11_order_25, xX11_order_28, xX11_order_29, xX11_order_31, xX11_order_34, xX11_order_35, xX11_order_38, xX11_order_41, xX11_order_42, xX11_order_43, xX11_order_45, xX11_order_48, xX11_order_50, xX11_order_53, xX11_order_55, xX11_order_57, xX11_order_60, xX11_order_61, kd_0, fi_0_5, kd_60, fi_0_13, kd_117, te_k0 h.te, te_f0_3 h.te, te_k5 h.te, te_k1 h.te, te_k15 h.te, te_k5 h.te, ↓reduceIte, gd_t, hK_p, hN_p, hF_p, hI_p, hJ_p, hR_p, stI_p, stJ_p, stR_p, stA_p, va_rf_s, va_rf_n, clr_i, clr_l, clr_r, clr_n, clr_o, w8_0, w8_1i, w8_1r, w8_2ii, w8_2ri, w8_2ir, w8_2rr, w8_3, beq_self_eq_true, Bool.and_self, Bool.and_true, Bool.true_and, decide_true, Option.toList_some, Option.toList_none, List.cons_append, List.nil_append, Option.bind_some, if_true, if_false, Nat.reduceLeDiff, Nat.reduceLT, Nat.reduceBEq, Bool.or_false, Bool.false_or, Bool.or_true, Bool.true_or, h.r3, h.nc, x1, x3, y0, y9, isA_c, z0, nz, w0, not_false_eq_true]
      by_cases wn : w ≤ nI n
      · exact absurd ⟨x1, x3, y0, y9, z0, nz, w0, wn⟩ hv
      · simp (disch := omega) only [xX11_order_0, xX11_order_1, xX11_order_4, xX11_order_7, xX11_order_10, xX11_order_12, xX11_order_13, xX11_order_14, xX11_order_17, xX11_order_18, xX11_order_21, xX11_order_24, xX11_order_25, xX11_order_28, xX11_order_29, xX11_order_31, xX11_order_34, xX11_order_35, xX11_order_38, xX11_order_41, xX11_order_42, xX11_order_43, xX11_order_45, xX11_order_48, xX11_order_50, xX11_order_53, xX11_order_55, xX11_order_57, xX11_order_60, xX11_order_61, kd_0, fi_0_5, kd_60, fi_0_13, kd_117, te_k0 h.te, te_f0_3 h.te, te_k5 h.te, te_k1 h.te, te_k15 h.te, te_k5 h.te, ↓reduceIte, gd_t, hK_p, hN_p, hF_p, hI_p, hJ_p, hR_p, stI_p, stJ_p, stR_p, stA_p, va_rf_s, va_rf_n, clr_i, clr_l, clr_r, clr_n, clr_o, w8_0, w8_1i, w8_1r, w8_2ii, w8_2ri, w8_2ir, w8_2rr, w8_3, beq_self_eq_true, Bool.and_self, Bool.and_true, Bool.true_and, decide_true, Option.toList_some, Option.toList_none, List.cons_append, List.nil_append, Option.bind_some, if_true, if_false, Nat.reduceLeDiff, Nat.reduceLT, Nat.reduceBEq, Bool.or_false, Bool.false_or, Bool.or_true, Bool.true_or, h.r3, h.nc, x1, x3, y0, y9, isA_c, z0, nz, w0, wn, not_false_eq_true]
    · rw [eX12_order]
      by_cases nz : nI n = 0
      · simp (disch := omega) only [xX12_order_0, xX12_order_1, xX12_order_2, xX12_order_5, xX12_order_6, xX12_order_9, xX12_order_12, xX12_order_13, xX12_order_14, xX12_order_17, xX12_order_20, xX12_order_23, xX12_order_24, xX12_order_25, xX12_order_27, xX12_order_30, xX12_order_33, xX12_order_34, xX12_order_37, xX12_order_40, xX12_order_42, xX12_order_43, xX12_order_44, xX12_order_47, xX12_order_50, xX12_order_53, xX12_order_54, kd_123, fi_123_67, kd_158, ln_158, fi_123_77, kd_165, ln_165, fi_123_78, kd_166, ln_166, kd_123, ↓reduceIte, gd_t, hK_p, hN_p, hF_p, hI_p, hJ_p, hR_p, stI_p, stJ_p, stR_p, stA_p, va_rf_s, va_rf_n, clr_i, clr_l, clr_r, clr_n, clr_o, w8_0, w8_1i, w8_1r, w8_2ii, w8_2ri, w8_2ir, w8_2rr, w8_3, beq_self_eq_true, Bool.and_self, Bool.and_true, Bool.true_and, decide_true, Option.toList_some, Option.toList_none, List.cons_append, List.nil_append, Option.bind_some, if_true, if_false, Nat.reduceLeDiff, Nat.reduceLT, Nat.reduceBEq, Bool.or_false, Bool.false_or, Bool.or_true, Bool.true_or, up_s, pk_un, h.nd, nz]
      by_cases b1 : bi (¬ x < 1 ∧ ¬ 300 < x) = 0
      · simp (disch := omega) only [xX12_order_0, xX12_order_1, xX12_order_2, xX12_order_5, xX12_order_6, xX12_order_9, xX12_order_12, xX12_order_13, xX12_order_14, xX12_order_17, xX12_order_20, xX12_order_23, xX12_order_24, xX12_order_25, xX12_order_27, xX12_order_30, xX12_order_33, xX12_order_34, xX12_order_37, xX12_order_40, xX12_order_42, xX12_order_43, xX12_order_44, xX12_order_47, xX12_order_50, xX12_order_53, xX12_order_54, kd_123, fi_123_67, kd_158, ln_158, fi_123_77, kd_165, ln_165, fi_123_78, kd_166, ln_166, kd_123, ↓reduceIte, gd_t, hK_p, hN_p, hF_p, hI_p, hJ_p, hR_p, stI_p, stJ_p, stR_p, stA_p, va_rf_s, va_rf_n, clr_i, clr_l, clr_r, clr_n, clr_o, w8_0, w8_1i, w8_1r, w8_2ii, w8_2ri, w8_2ir, w8_2rr, w8_3, beq_self_eq_true, Bool.and_self, Bool.and_true, Bool.true_and, decide_true, Option.toList_some, Option.toList_none, List.cons_append, List.nil_append, Option.bind_some, if_true, if_false, Nat.reduceLeDiff, Nat.reduceLT, Nat.reduceBEq, Bool.or_false, Bool.false_or, Bool.or_true, Bool.true_or, up_s, pk_un, h.nd, nz, isI_spec, b1]
      by_cases b2 : bi (¬ y < 0 ∧ ¬ 99 < y) = 0
      · simp (disch := omega) only [xX12_order_0, xX12_order_1, xX12_order_2, xX12_order_5, xX12_order_6, xX12_order_9, xX12_order_12, xX12_order_13, xX12_order_14, xX12_order_17, xX12_order_20, xX12_order_23, xX12_order_24, xX12_order_25, xX12_order_27, xX12_order_30, xX12_order_33, xX12_order_34, xX12_order_37, xX12_order_40, xX12_order_42, xX12_order_43, xX12_order_44, xX12_order_47, xX12_order_50, xX12_order_53, xX12_order_54, kd_123, fi_123_67, kd_158, ln_158, fi_123_77, kd_165, ln_165, fi_123_78, kd_166, ln_166, kd_123, ↓reduceIte, gd_t, hK_p, hN_p, hF_p, hI_p, hJ_p, hR_p, stI_p, stJ_p, stR_p, stA_p, va_rf_s, va_rf_n, clr_i, clr_l, clr_r, clr_n, clr_o, w8_0, w8_1i, w8_1r, w8_2ii, w8_2ri, w8_2ir, w8_2rr, w8_3, beq_self_eq_true, Bool.and_self, Bool.and_true, Bool.true_and, decide_true, Option.toList_some, Option.toList_none, List.cons_append, List.nil_append, Option.bind_some, if_true, if_false, Nat.reduceLeDiff, Nat.reduceLT, Nat.reduceBEq, Bool.or_false, Bool.false_or, Bool.or_true, Bool.true_or, up_s, pk_un, h.nd, nz, isI_spec, b1, b2]
      by_cases z0 : apR z = 0
      · simp (disch := omega) only [xX12_order_0, xX12_order_1, xX12_order_2, xX12_order_5, xX12_order_6, xX12_order_9, xX12_order_12, xX12_order_13, xX12_order_14, xX12_order_17, xX12_order_20, xX12_order_23, xX12_order_24, xX12_order_25, xX12_order_27, xX12_order_30, xX12_order_33, xX12_order_34, xX12_order_37, xX12_order_40, xX12_order_42, xX12_order_43, xX12_order_44, xX12_order_47, xX12_order_50, xX12_order_53, xX12_order_54, kd_123, fi_123_67, kd_158, ln_158, fi_123_77, kd_165, ln_165, fi_123_78, kd_166, ln_166, kd_123, ↓reduceIte, gd_t, hK_p, hN_p, hF_p, hI_p, hJ_p, hR_p, stI_p, stJ_p, stR_p, stA_p, va_rf_s, va_rf_n, clr_i, clr_l, clr_r, clr_n, clr_o, w8_0, w8_1i, w8_1r, w8_2ii, w8_2ri, w8_2ir, w8_2rr, w8_3, beq_self_eq_true, Bool.and_self, Bool.and_true, Bool.true_and, decide_true, Option.toList_some, Option.toList_none, List.cons_append, List.nil_append, Option.bind_some, if_true, if_false, Nat.reduceLeDiff, Nat.reduceLT, Nat.reduceBEq, Bool.or_false, Bool.false_or, Bool.or_true, Bool.true_or, up_s, pk_un, h.nd, nz, isI_spec, b1, b2, isN_m, z0]
      by_cases b3 : bi (¬ w < 0 ∧ ¬ nI n < w) = 0
      · simp (disch := omega) only [xX12_order_0, xX12_order_1, xX12_order_2, xX12_order_5, xX12_order_6, xX12_order_9, xX12_order_12, xX12_order_13, xX12_order_14, xX12_order_17, xX12_order_20, xX12_order_23, xX12_order_24, xX12_order_25, xX12_order_27, xX12_order_30, xX12_order_33, xX12_order_34, xX12_order_37, xX12_order_40, xX12_order_42, xX12_order_43, xX12_order_44, xX12_order_47, xX12_order_50, xX12_order_53, xX12_order_54, kd_123, fi_123_67, kd_158, ln_158, fi_123_77, kd_165, ln_165, fi_123_78, kd_166, ln_166, kd_123, ↓reduceIte, gd_t, hK_p, hN_p, hF_p, hI_p, hJ_p, hR_p, stI_p, stJ_p, stR_p, stA_p, va_rf_s, va_rf_n, clr_i, clr_l, clr_r, clr_n, clr_o, w8_0, w8_1i, w8_1r, w8_2ii, w8_2ri, w8_2ir, w8_2rr, w8_3, beq_self_eq_true, Bool.and_self, Bool.and_true, Bool.true_and, decide_true, Option.toList_some, Option.toList_none, List.cons_append, List.nil_append, Option.bind_some, if_true, if_false, Nat.reduceLeDiff, Nat.reduceLT, Nat.reduceBEq, Bool.or_false, Bool.false_or, Bool.or_true, Bool.true_or, up_s, pk_un, h.nd, nz, isI_spec, b1, b2, isN_m, z0, b3, not_true_eq_false]
      · exfalso
        refine hv ?_
        have c1 : ¬ x < 1 ∧ ¬ 300 < x := Decidable.not_not.mp (fun q => b1 (if_neg q))
        have c2 : ¬ y < 0 ∧ ¬ 99 < y := Decidable.not_not.mp (fun q => b2 (if_neg q))
        have c3 : ¬ w < 0 ∧ ¬ nI n < w := Decidable.not_not.mp (fun q => b3 (if_neg q))
        exact ⟨c1.1, c1.2, c2.1, c2.2, z0, nz, c3.1, Int32.not_lt.mp c3.2⟩
end ORF

-- LEAST, 6: the model's search
section LEN
variable {I X : Mem} {J : MemL} {R R1 : MemR} {t t' n nb nm fL lL fG lG st : Nat}
theorem mL_hi {N : Nat} {bits : Int32} {f g : Nat → Int32} (m : mL I t lL lG n N bits X) (hf : ∀ k, k < 6 → f k = X 151 k) (hg : ∀ k, k < 6 → g k = X 152 k) : mL I t lL lG n N bits (va_up (va_up X 151 f) 152 g) := by
  obtain ⟨⟨k1, q61, q62, q63, q64, q65, q157, q158⟩, own⟩ := m
  refine ⟨⟨k1.tr ⟨fun a ha => ?_, fun k _ => ?_, fun a k h1 h2 h3 => ?_⟩, ?_, ?_, ?_, ?_, ?_, ?_, ?_⟩, ?_⟩
  · rw [up_n (by unfold kpA at ha; omega), up_n (by unfold kpA at ha; omega)]
  · rw [up_n (by decide), up_n (by decide)]
  · by_cases z2 : a = 152
    · rw [z2, up_s]; exact hg k h3
    · rw [up_n z2]
      by_cases z1 : a = 151
      · rw [z1, up_s]; exact hf k h3
      · rw [up_n z1]
  all_goals rw [up_n (by decide), up_n (by decide)]
  · exact q61
  · exact q62
  · exact q63
  · exact q64
  · exact q65
  · exact q157
  · exact q158
  · exact own
/-- beginsRun: all hung as now -/
theorem brn_L {d N : Nat} {bits : Int32} (h : cAll I R t t' n nb nm fL lL fG lG st) (m : mL I t lL lG n N bits X) : ∃ X1, C (d + 2) MX12_beginsRun [.ref 123] (hp X J R1) = some (none, hp X1 J R1) ∧ mL I t lL lG n N bits X1 ∧ X1 164 = X 164 ∧ (∀ c, c < n → X1 151 (6 + c) = I 62 c ∧ X1 152 (6 + c) = I 63 c) ∧ ∀ c, c < n → X1 151 c = I 62 c ∧ X1 152 c = I 63 c := by
  have hn6 := h.n6
  obtain ⟨p, own⟩ := m
  obtain ⟨s, k1, e13⟩ := plQ_lay h p
  have hw : ∀ (Y : Mem), kp I Y → ∀ c, c < n → Y 151 c = I 62 c ∧ Y 152 c = I 63 c := by
    intro Y ky c hc
    obtain ⟨a1, -, a3, -⟩ := h.now.2.2.2.2.2.2.2.2.1.1 c hc
    rw [Nat.zero_add] at a1 a3
    rw [ky.2.2 151 c (by omega) (by omega) (by omega), ky.2.2 152 c (by omega) (by omega) (by omega)]
    exact ⟨a1.symm, a3.symm⟩
  refine ⟨_, brn_spec (d := d) (n := n) (I := X) (J := J) (R := R1) e13 hn6, ⟨k1, by rw [bgq_o (by omega)]; exact own⟩, bgq_o (by omega), fun c hc => ?_, hw _ k1.1⟩
  rw [(bgq_151 hc hn6).1, (bgq_151 hc hn6).2]
  exact hw X p.1 c hc
/-- a clock is laid elsewhere -/
theorem lys_L {d N c to : Nat} {bits : Int32} {B P : Nat → Int32} (h : cAll I R t t' n nb nm fL lL fG lG st) (m : mL I t lL lG n N bits X) (hc : c < n) (ht : to < 1000) (eb : ∀ i, i < n → X 151 (6 + i) = B i) (ep : ∀ i, i < n → X 152 (6 + i) = P i) : ∃ X1, C (d + 1) MX12_lays [.ref 123, .int (nI c), .int (nI to)] (hp X J R1) = some (none, hp X1 J R1) ∧ mL I t lL lG n N bits X1 ∧ X1 164 = X 164 ∧ (∀ i, i < n → X1 151 (6 + i) = upd B c (nI (to / 10)) i) ∧ (∀ i, i < n → X1 152 (6 + i) = upd P c (nI (to % 10)) i) ∧ ∀ i, i < n → X1 151 i = X 151 i ∧ X1 152 i = X 152 i := by
  have hn6 := h.n6
  refine ⟨_, lys_m (d := d) (J := J) (R1 := R1) (by omega) ht, mL_hi m (fun k hk => pk_un (by omega)) (fun k hk => pk_un (by omega)), by rw [up_n (by decide), up_n (by decide)], fun i hi => ?_, fun i hi => ?_, fun i hi => ⟨?_, ?_⟩⟩
  · rw [up_n (by decide), up_s]
    by_cases z : i = c
    · rw [z, pk_us, pk_us]
    · rw [pk_un (by omega), pk_un z]; exact eb i hi
  · rw [up_s]
    by_cases z : i = c
    · rw [z, pk_us, pk_us]
    · rw [pk_un (by omega), pk_un z]; exact ep i hi
  · rw [up_n (by decide), up_s, pk_un (by omega)]
  · rw [up_s, pk_un (by omega)]
theorem up_ok {B : Nat → Int32} {c x : Nat} (hB : ∀ i, i < n → ∃ x, x < nb ∧ B i = nI x) (hx : x < nb) : ∀ i, i < n → ∃ y, y < nb ∧ upd B c (nI x) i = nI y := fun i hi => by
  by_cases z : i = c
  · rw [z, pk_us]; exact ⟨x, hx, rfl⟩
  · rw [pk_un z]; exact hB i hi
theorem up_ok2 {P : Nat → Int32} {c x : Nat} (hP : ∀ i, i < n → inN (P i) 0 30) (hx : x < 10) : ∀ i, i < n → inN (upd P c (nI x) i) 0 30 := fun i hi => by
  by_cases z : i = c
  · rw [z, pk_us]; exact ⟨x, by omega, by omega, rfl⟩
  · rw [pk_un z]; exact hP i hi
theorem hg_now (h : cAll I R t t' n nb nm fL lL fG lG st) : (∀ i, i < n → ∃ x, x < nb ∧ I 62 i = nI x) ∧ ∀ i, i < n → inN (I 63 i) 0 30 := ⟨fun i hi => (h.now.2.2.2.2.2.2.2.2.1.1 i hi).2.1, fun i hi => (h.now.2.2.2.2.2.2.2.2.1.1 i hi).2.2.2⟩
/-- one try of oneKeeps -/
theorem one_m {d N k c to : Nat} {bits : Int32} (h : cAll I R t t' n nb nm fL lL fG lG st) (m : mL I t lL lG n N bits X) (hN : N ≤ 60) (hc : c < n) (ht : to < nb * 10) : ∃ X1 J1, mL I t lL lG n N bits X1 ∧ (if ok1 I t lL lG n N k bits c to = true then E (C (d + 7)) MX12_oneKeeps 27 [some (.ref 123), some (.int bits), some (.int (nI N)), some (.int (nI k)), some (.int (nI c)), some (.int (nI to))] [] (hp X J R1) = some (some (.int 1), hp X1 J1 R1) ∧ X1 164 = upd (upd (upd (upd (X 164) 0 1) 1 (nI c)) 2 (nI (to / 10))) 3 (nI (to % 10)) else E (C (d + 7)) MX12_oneKeeps 27 [some (.ref 123), some (.int bits), some (.int (nI N)), some (.int (nI k)), some (.int (nI c)), some (.int (nI to))] [] (hp X J R1) = E (C (d + 7)) MX12_oneKeeps 88 [some (.ref 123), some (.int bits), some (.int (nI N)), some (.int (nI k)), some (.int (nI c)), some (.int (nI to))] [] (hp X1 J1 R1) ∧ X1 164 = X 164) := by
  have hn6 := h.n6
  have hb3 := h.txt.1.2.2
  have n1 : ¬ (1 : Int32) = 0 := by decide
  obtain ⟨X1, e1, m1, f1, r1, w1⟩ := brn_L (d := d + 5) (J := J) (R1 := R1) h m
  obtain ⟨X2, e2, m2, f2, b2, p2, w2⟩ := lys_L (d := d + 6) (J := J) (R1 := R1) h m1 hc (to := to) (by omega) (fun i hi => (r1 i hi).1) (fun i hi => (r1 i hi).2)
  have e3 := imv_m (d := d + 6) (c := c) (to := to) (I := I) (X := X2) (J := J) (R1 := R1) (by omega) (by omega) ((w2 c hc).1.trans (w1 c hc).1) ((w2 c hc).2.trans (w1 c hc).2)
  have y13 : X2 123 13 = nI n := by rw [m2.1.1.2.1 13 (by unfold kpK; omega)]; exact h.nd
  have e4 := fre_m (d := d + 5) (J := J) (R1 := R1) y13 hn6 b2 p2
  obtain ⟨X3, J3, e5, m3, f3⟩ := kps_m (d := d) (k := k) (J := J) (R1 := R1) h m2 hN b2 p2 (up_ok (hg_now h).1 (by omega)) (up_ok2 (hg_now h).2 (by omega))
  have g2 : X2 164 = X 164 := f2.trans f1
  have g3 : X3 164 = X 164 := f3.trans g2
  unfold ok1
  by_cases zm : mvd I c to = true
  · rw [if_pos zm] at e3
    by_cases zf : frV n (upd (I 62) c (nI (to / 10))) (upd (I 63) c (nI (to % 10))) = 0
    · refine ⟨X2, J, m2, ?_⟩
      rw [if_neg (by simp [zf])]
      refine ⟨?_, g2⟩
      simp (disch := omega) only [xX12_oneKeeps_27, xX12_oneKeeps_28, xX12_oneKeeps_31, xX12_oneKeeps_32, xX12_oneKeeps_34, xX12_oneKeeps_36, xX12_oneKeeps_39, xX12_oneKeeps_40, xX12_oneKeeps_42, xX12_oneKeeps_44, xX12_oneKeeps_47, xX12_oneKeeps_50, xX12_oneKeeps_51, xX12_oneKeeps_54, xX12_oneKeeps_57, xX12_oneKeeps_58, xX12_oneKeeps_59, xX12_oneKeeps_60, xX12_oneKeeps_61, xX12_oneKeeps_64, xX12_oneKeeps_67, kd_123, fi_123_76, kd_164, ln_164, kd_123, ↓reduceIte, gd_t, hK_p, hN_p, hF_p, hI_p, hJ_p, hR_p, stI_p, stJ_p, stR_p, stA_p, va_rf_s, va_rf_n, clr_i, clr_l, clr_r, clr_n, clr_o, w8_0, w8_1i, w8_1r, w8_2ii, w8_2ri, w8_2ir, w8_2rr, w8_3, beq_self_eq_true, Bool.and_self, Bool.and_true, Bool.true_and, decide_true, Option.toList_some, Option.toList_none, List.cons_append, List.nil_append, Option.bind_some, if_true, if_false, Nat.reduceLeDiff, Nat.reduceLT, Nat.reduceBEq, Bool.or_false, Bool.false_or, Bool.or_true, Bool.true_or, w8_4, e1, e2, e3, e4, zf, n1]
    · by_cases zk : kK I t lL lG n N k bits (upd (I 62) c (nI (to / 10))) (upd (I 63) c (nI (to % 10))) = 0
      · refine ⟨X3, J3, m3, ?_⟩
        rw [if_neg (by simp [zk])]
        refine ⟨?_, g3⟩
        simp (disch := omega) only [xX12_oneKeeps_27, xX12_oneKeeps_28, xX12_oneKeeps_31, xX12_oneKeeps_32, xX12_oneKeeps_34, xX12_oneKeeps_36, xX12_oneKeeps_39, xX12_oneKeeps_40, xX12_oneKeeps_42, xX12_oneKeeps_44, xX12_oneKeeps_47, xX12_oneKeeps_50, xX12_oneKeeps_51, xX12_oneKeeps_54, xX12_oneKeeps_57, xX12_oneKeeps_58, xX12_oneKeeps_59, xX12_oneKeeps_60, xX12_oneKeeps_61, xX12_oneKeeps_64, xX12_oneKeeps_67, kd_123, fi_123_76, kd_164, ln_164, kd_123, ↓reduceIte, gd_t, hK_p, hN_p, hF_p, hI_p, hJ_p, hR_p, stI_p, stJ_p, stR_p, stA_p, va_rf_s, va_rf_n, clr_i, clr_l, clr_r, clr_n, clr_o, w8_0, w8_1i, w8_1r, w8_2ii, w8_2ri, w8_2ir, w8_2rr, w8_3, beq_self_eq_true, Bool.and_self, Bool.and_true, Bool.true_and, decide_true, Option.toList_some, Option.toList_none, List.cons_append, List.nil_append, Option.bind_some, if_true, if_false, Nat.reduceLeDiff, Nat.reduceLT, Nat.reduceBEq, Bool.or_false, Bool.false_or, Bool.or_true, Bool.true_or, w8_4, e1, e2, e3, e4, zf, e5, zk, n1, not_true_eq_false]
      · have e6 := fds_m (d := d + 6) (c := c) (to := to) (f := 1) (X := va_up X3 164 (upd (X3 164) 0 1)) (J := J3) (R1 := R1) (by omega) (by omega)
        rw [show nI 1 = 1 from rfl, up_s, bx_uu] at e6
        refine ⟨va_up X3 164 (upd (upd (upd (upd (X3 164) 0 1) 1 (nI c)) (1 + 1) (nI (to / 10))) (1 + 2) (nI (to % 10))), J3, ⟨plQ_o m3.1 (by omega), by rw [up_n (by decide)]; exact m3.2⟩, ?_⟩
        rw [if_pos (by simp [zm, zf, zk])]
        refine ⟨?_, by rw [up_s, g3]⟩
        simp (disch := omega) only [xX12_oneKeeps_27, xX12_oneKeeps_28, xX12_oneKeeps_31, xX12_oneKeeps_32, xX12_oneKeeps_34, xX12_oneKeeps_36, xX12_oneKeeps_39, xX12_oneKeeps_40, xX12_oneKeeps_42, xX12_oneKeeps_44, xX12_oneKeeps_47, xX12_oneKeeps_50, xX12_oneKeeps_51, xX12_oneKeeps_54, xX12_oneKeeps_57, xX12_oneKeeps_58, xX12_oneKeeps_59, xX12_oneKeeps_60, xX12_oneKeeps_61, xX12_oneKeeps_64, xX12_oneKeeps_67, xX12_oneKeeps_70, xX12_oneKeeps_71, xX12_oneKeeps_74, xX12_oneKeeps_75, xX12_oneKeeps_76, xX12_oneKeeps_77, xX12_oneKeeps_78, xX12_oneKeeps_79, xX12_oneKeeps_81, xX12_oneKeeps_83, xX12_oneKeeps_86, xX12_oneKeeps_87, kd_123, fi_123_76, kd_164, ln_164, kd_123, ↓reduceIte, gd_t, hK_p, hN_p, hF_p, hI_p, hJ_p, hR_p, stI_p, stJ_p, stR_p, stA_p, va_rf_s, va_rf_n, clr_i, clr_l, clr_r, clr_n, clr_o, w8_0, w8_1i, w8_1r, w8_2ii, w8_2ri, w8_2ir, w8_2rr, w8_3, beq_self_eq_true, Bool.and_self, Bool.and_true, Bool.true_and, decide_true, Option.toList_some, Option.toList_none, List.cons_append, List.nil_append, Option.bind_some, if_true, if_false, Nat.reduceLeDiff, Nat.reduceLT, Nat.reduceBEq, Bool.or_false, Bool.false_or, Bool.or_true, Bool.true_or, nI_leI, nI_ltI, nI_eq, nI_clamp, inb_n, up_s, up_n, bx_uu, nI_1, ix6, nI_0n, pk_us, pk_un, ge_0n, w8_4, e1, e2, e3, e4, zf, e5, zk, n1, il_0, show (0 : Int32).toNatClampNeg = 0 from rfl, e6, z11, not_false_eq_true]
  · rw [if_neg zm] at e3
    have zm' : mvd I c to = false := by simpa using zm
    refine ⟨X2, J, m2, ?_⟩
    rw [if_neg (by simp [zm'])]
    refine ⟨?_, g2⟩
    simp (disch := omega) only [xX12_oneKeeps_27, xX12_oneKeeps_28, xX12_oneKeeps_31, xX12_oneKeeps_32, xX12_oneKeeps_34, xX12_oneKeeps_36, xX12_oneKeeps_39, xX12_oneKeeps_40, xX12_oneKeeps_42, xX12_oneKeeps_44, xX12_oneKeeps_47, xX12_oneKeeps_50, xX12_oneKeeps_51, xX12_oneKeeps_54, xX12_oneKeeps_57, xX12_oneKeeps_58, xX12_oneKeeps_59, xX12_oneKeeps_60, xX12_oneKeeps_61, xX12_oneKeeps_64, xX12_oneKeeps_67, kd_123, fi_123_76, kd_164, ln_164, kd_123, ↓reduceIte, gd_t, hK_p, hN_p, hF_p, hI_p, hJ_p, hR_p, stI_p, stJ_p, stR_p, stA_p, va_rf_s, va_rf_n, clr_i, clr_l, clr_r, clr_n, clr_o, w8_0, w8_1i, w8_1r, w8_2ii, w8_2ri, w8_2ir, w8_2rr, w8_3, beq_self_eq_true, Bool.and_self, Bool.and_true, Bool.true_and, decide_true, Option.toList_some, Option.toList_none, List.cons_append, List.nil_append, Option.bind_some, if_true, if_false, Nat.reduceLeDiff, Nat.reduceLT, Nat.reduceBEq, Bool.or_false, Bool.false_or, Bool.or_true, Bool.true_or, w8_4, e1, e2, e3]
theorem i10nb : (10 : Int32) * nI nb = nI (nb * 10) := by rw [show (10 : Int32) = nI 10 from rfl, pk_mul, Nat.mul_comm]
theorem on1_i {d N k c : Nat} {bits : Int32} (h : cAll I R t t' n nb nm fL lL fG lG st) (hN : N ≤ 60) (hc : c < n) : ∀ (q to : Nat) (X : Mem) (J : MemL), to + q = nb * 10 → mL I t lL lG n N bits X → ∃ X1 J1, mL I t lL lG n N bits X1 ∧ match sT (fun to => if ok1 I t lL lG n N k bits c to = true then some (c, to) else none) q to with
    | some r => E (C (d + 7)) MX12_oneKeeps 15 [some (.ref 123), some (.int bits), some (.int (nI N)), some (.int (nI k)), some (.int (nI c)), some (.int (nI to))] [] (hp X J R1) = some (some (.int 1), hp X1 J1 R1) ∧ X1 164 = upd (upd (upd (upd (X 164) 0 1) 1 (nI r.1)) 2 (nI (r.2 / 10))) 3 (nI (r.2 % 10))
    | none => E (C (d + 7)) MX12_oneKeeps 15 [some (.ref 123), some (.int bits), some (.int (nI N)), some (.int (nI k)), some (.int (nI c)), some (.int (nI to))] [] (hp X J R1) = E (C (d + 7)) MX12_oneKeeps 3 [some (.ref 123), some (.int bits), some (.int (nI N)), some (.int (nI k)), some (.int (nI (c + 1))), some (.int (nI (nb * 10)))] [] (hp X1 J1 R1) ∧ X1 164 = X 164 := by
  have hn6 := h.n6
  have hb3 := h.txt.1.2.2
  intro q
  induction q with
  | zero =>
    intro to X J hq m
    obtain rfl : to = nb * 10 := by omega
    have y12 : X 123 12 = nI nb := by rw [m.1.1.2.1 12 (by unfold kpK; omega)]; exact h.txt.1.2.1
    have c0 : nb * 10 ≤ nb * 10 := Nat.le_refl _
    refine ⟨X, J, m, ?_⟩
    unfold sT
    dsimp only
    refine ⟨?_, rfl⟩
    rw [xX12_oneKeeps_15]
    simp (disch := omega) only [xX12_oneKeeps_17, xX12_oneKeeps_19, xX12_oneKeeps_20, xX12_oneKeeps_23, xX12_oneKeeps_24, kd_123, fi_123_76, kd_164, ln_164, xX12_oneKeeps_94, xX12_oneKeeps_97, ↓reduceIte, gd_t, hK_p, hN_p, hF_p, hI_p, hJ_p, hR_p, stI_p, stJ_p, stR_p, stA_p, va_rf_s, va_rf_n, clr_i, clr_l, clr_r, clr_n, clr_o, w8_0, w8_1i, w8_1r, w8_2ii, w8_2ri, w8_2ir, w8_2rr, w8_3, beq_self_eq_true, Bool.and_self, Bool.and_true, Bool.true_and, decide_true, Option.toList_some, Option.toList_none, List.cons_append, List.nil_append, Option.bind_some, if_true, if_false, Nat.reduceLeDiff, Nat.reduceLT, Nat.reduceBEq, Bool.or_false, Bool.false_or, Bool.or_true, Bool.true_or, y12, i10nb, nI_leI, nI_1, c0]
  | succ q ih =>
    intro to X J hq m
    have y12 : X 123 12 = nI nb := by rw [m.1.1.2.1 12 (by unfold kpK; omega)]; exact h.txt.1.2.1
    have c0 : ¬ nb * 10 ≤ to := by omega
    have eh : E (C (d + 7)) MX12_oneKeeps 15 [some (.ref 123), some (.int bits), some (.int (nI N)), some (.int (nI k)), some (.int (nI c)), some (.int (nI to))] [] (hp X J R1) = E (C (d + 7)) MX12_oneKeeps 27 [some (.ref 123), some (.int bits), some (.int (nI N)), some (.int (nI k)), some (.int (nI c)), some (.int (nI to))] [] (hp X J R1) := by
      rw [xX12_oneKeeps_15]
      simp (disch := omega) only [xX12_oneKeeps_17, xX12_oneKeeps_19, xX12_oneKeeps_20, xX12_oneKeeps_23, xX12_oneKeeps_24, kd_123, fi_123_76, kd_164, ln_164, ↓reduceIte, gd_t, hK_p, hN_p, hF_p, hI_p, hJ_p, hR_p, stI_p, stJ_p, stR_p, stA_p, va_rf_s, va_rf_n, clr_i, clr_l, clr_r, clr_n, clr_o, w8_0, w8_1i, w8_1r, w8_2ii, w8_2ri, w8_2ir, w8_2rr, w8_3, beq_self_eq_true, Bool.and_self, Bool.and_true, Bool.true_and, decide_true, Option.toList_some, Option.toList_none, List.cons_append, List.nil_append, Option.bind_some, if_true, if_false, Nat.reduceLeDiff, Nat.reduceLT, Nat.reduceBEq, Bool.or_false, Bool.false_or, Bool.or_true, Bool.true_or, y12, i10nb, nI_leI, c0]
    obtain ⟨X1, J1, m1, e1⟩ := one_m (d := d) (k := k) (J := J) (R1 := R1) h m hN hc (to := to) (by omega)
    unfold sT
    by_cases z : ok1 I t lL lG n N k bits c to = true
    · rw [if_pos z] at e1
      simp only [z, if_true]
      exact ⟨X1, J1, m1, eh.trans e1.1, e1.2⟩
    · rw [if_neg z] at e1
      rw [if_neg z]
      obtain ⟨X2, J2, m2, e2⟩ := ih (to + 1) X1 J1 (by omega) m1
      rw [e1.2] at e2
      refine ⟨X2, J2, m2, ?_⟩
      have en : E (C (d + 7)) MX12_oneKeeps 15 [some (.ref 123), some (.int bits), some (.int (nI N)), some (.int (nI k)), some (.int (nI c)), some (.int (nI to))] [] (hp X J R1) = E (C (d + 7)) MX12_oneKeeps 15 [some (.ref 123), some (.int bits), some (.int (nI N)), some (.int (nI k)), some (.int (nI c)), some (.int (nI (to + 1)))] [] (hp X1 J1 R1) := by
        rw [eh, e1.1]
        simp (disch := omega) only [xX12_oneKeeps_88, xX12_oneKeeps_91, ↓reduceIte, gd_t, hK_p, hN_p, hF_p, hI_p, hJ_p, hR_p, stI_p, stJ_p, stR_p, stA_p, va_rf_s, va_rf_n, clr_i, clr_l, clr_r, clr_n, clr_o, w8_0, w8_1i, w8_1r, w8_2ii, w8_2ri, w8_2ir, w8_2rr, w8_3, beq_self_eq_true, Bool.and_self, Bool.and_true, Bool.true_and, decide_true, Option.toList_some, Option.toList_none, List.cons_append, List.nil_append, Option.bind_some, if_true, if_false, Nat.reduceLeDiff, Nat.reduceLT, Nat.reduceBEq, Bool.or_false, Bool.false_or, Bool.or_true, Bool.true_or, nI_1]
      dsimp only
      rw [en]
      exact e2
theorem on1_o {d N k : Nat} {bits : Int32} (h : cAll I R t t' n nb nm fL lL fG lG st) (hN : N ≤ 60) : ∀ (q c : Nat) (X : Mem) (J : MemL) (l5 : Option Value), c + q = n → mL I t lL lG n N bits X → ∃ X1 J1, mL I t lL lG n N bits X1 ∧ match sT (fun c => sT (fun to => if ok1 I t lL lG n N k bits c to = true then some (c, to) else none) (nb * 10) 0) q c with
    | some r => E (C (d + 7)) MX12_oneKeeps 3 [some (.ref 123), some (.int bits), some (.int (nI N)), some (.int (nI k)), some (.int (nI c)), l5] [] (hp X J R1) = some (some (.int 1), hp X1 J1 R1) ∧ X1 164 = upd (upd (upd (upd (X 164) 0 1) 1 (nI r.1)) 2 (nI (r.2 / 10))) 3 (nI (r.2 % 10))
    | none => E (C (d + 7)) MX12_oneKeeps 3 [some (.ref 123), some (.int bits), some (.int (nI N)), some (.int (nI k)), some (.int (nI c)), l5] [] (hp X J R1) = some (some (.int 0), hp X1 J1 R1) ∧ X1 164 = X 164 := by
  have hn6 := h.n6
  intro q
  induction q with
  | zero =>
    intro c X J l5 hq m
    obtain rfl : c = n := by omega
    have y13 : X 123 13 = nI c := by rw [m.1.1.2.1 13 (by unfold kpK; omega)]; exact h.nd
    have c0 : c ≤ c := Nat.le_refl c
    refine ⟨X, J, m, ?_⟩
    unfold sT
    dsimp only
    refine ⟨?_, rfl⟩
    rw [xX12_oneKeeps_3]
    simp (disch := omega) only [xX12_oneKeeps_5, xX12_oneKeeps_6, xX12_oneKeeps_9, xX12_oneKeeps_12, xX12_oneKeeps_13, kd_123, fi_123_76, kd_164, ln_164, xX12_oneKeeps_100, xX12_oneKeeps_101, ↓reduceIte, gd_t, hK_p, hN_p, hF_p, hI_p, hJ_p, hR_p, stI_p, stJ_p, stR_p, stA_p, va_rf_s, va_rf_n, clr_i, clr_l, clr_r, clr_n, clr_o, w8_0, w8_1i, w8_1r, w8_2ii, w8_2ri, w8_2ir, w8_2rr, w8_3, beq_self_eq_true, Bool.and_self, Bool.and_true, Bool.true_and, decide_true, Option.toList_some, Option.toList_none, List.cons_append, List.nil_append, Option.bind_some, if_true, if_false, Nat.reduceLeDiff, Nat.reduceLT, Nat.reduceBEq, Bool.or_false, Bool.false_or, Bool.or_true, Bool.true_or, nI_leI, nI_ltI, nI_eq, nI_clamp, inb_n, up_s, up_n, bx_uu, nI_1, ix6, nI_0n, pk_us, pk_un, ge_0n, y13, c0, z01]
  | succ q ih =>
    intro c X J l5 hq m
    have y13 : X 123 13 = nI n := by rw [m.1.1.2.1 13 (by unfold kpK; omega)]; exact h.nd
    have c0 : ¬ n ≤ c := by omega
    obtain ⟨X1, J1, m1, e1⟩ := on1_i (d := d) (k := k) (R1 := R1) h hN (c := c) (by omega) (nb * 10) 0 X J (by omega) m
    rw [nI_0] at e1
    have eh : E (C (d + 7)) MX12_oneKeeps 3 [some (.ref 123), some (.int bits), some (.int (nI N)), some (.int (nI k)), some (.int (nI c)), l5] [] (hp X J R1) = E (C (d + 7)) MX12_oneKeeps 15 [some (.ref 123), some (.int bits), some (.int (nI N)), some (.int (nI k)), some (.int (nI c)), some (.int 0)] [] (hp X J R1) := by
      rw [xX12_oneKeeps_3]
      simp (disch := omega) only [xX12_oneKeeps_5, xX12_oneKeeps_6, xX12_oneKeeps_9, xX12_oneKeeps_12, xX12_oneKeeps_13, kd_123, fi_123_76, kd_164, ln_164, ↓reduceIte, gd_t, hK_p, hN_p, hF_p, hI_p, hJ_p, hR_p, stI_p, stJ_p, stR_p, stA_p, va_rf_s, va_rf_n, clr_i, clr_l, clr_r, clr_n, clr_o, w8_0, w8_1i, w8_1r, w8_2ii, w8_2ri, w8_2ir, w8_2rr, w8_3, beq_self_eq_true, Bool.and_self, Bool.and_true, Bool.true_and, decide_true, Option.toList_some, Option.toList_none, List.cons_append, List.nil_append, Option.bind_some, if_true, if_false, Nat.reduceLeDiff, Nat.reduceLT, Nat.reduceBEq, Bool.or_false, Bool.false_or, Bool.or_true, Bool.true_or, nI_leI, nI_ltI, nI_eq, nI_clamp, inb_n, up_s, up_n, bx_uu, nI_1, ix6, nI_0n, pk_us, pk_un, ge_0n, y13, c0]
    unfold sT
    cases hs : sT (fun to => if ok1 I t lL lG n N k bits c to = true then some (c, to) else none) (nb * 10) 0 with
    | some r =>
      rw [hs] at e1
      exact ⟨X1, J1, m1, eh.trans e1.1, e1.2⟩
    | none =>
      rw [hs] at e1
      dsimp only at e1 ⊢
      obtain ⟨X2, J2, m2, e2⟩ := ih (c + 1) X1 J1 _ (by omega) m1
      rw [e1.2] at e2
      refine ⟨X2, J2, m2, ?_⟩
      rw [eh, e1.1]
      exact e2
/-- one try of otherKeeps -/
theorem two_m' {d N k a to b to2 : Nat} {bits : Int32} (h : cAll I R t t' n nb nm fL lL fG lG st) (m : mL I t lL lG n N bits X) (hN : N ≤ 60) (ha : a < n) (hb : b < n) (ht : to < nb * 10) (ht2 : to2 < nb * 10) : ∃ X1 J1, mL I t lL lG n N bits X1 ∧ (if ok2 I t lL lG n N k bits a to b to2 = true then E (C (d + 7)) MX12_otherKeeps 15 [some (.ref 123), some (.int bits), some (.int (nI N)), some (.int (nI k)), some (.int (nI a)), some (.int (nI to)), some (.int (nI b)), some (.int (nI to2))] [] (hp X J R1) = some (some (.int 1), hp X1 J1 R1) ∧ X1 164 = upd (upd (upd (upd (upd (upd (upd (X 164) 0 2) 1 (nI a)) 2 (nI (to / 10))) 3 (nI (to % 10))) 4 (nI b)) 5 (nI (to2 / 10))) 6 (nI (to2 % 10)) else E (C (d + 7)) MX12_otherKeeps 15 [some (.ref 123), some (.int bits), some (.int (nI N)), some (.int (nI k)), some (.int (nI a)), some (.int (nI to)), some (.int (nI b)), some (.int (nI to2))] [] (hp X J R1) = E (C (d + 7)) MX12_otherKeeps 93 [some (.ref 123), some (.int bits), some (.int (nI N)), some (.int (nI k)), some (.int (nI a)), some (.int (nI to)), some (.int (nI b)), some (.int (nI to2))] [] (hp X1 J1 R1) ∧ X1 164 = X 164) := by
  have hn6 := h.n6
  have hb3 := h.txt.1.2.2
  have n1 : ¬ (1 : Int32) = 0 := by decide
  obtain ⟨X1, e1, m1, f1, r1, w1⟩ := brn_L (d := d + 5) (J := J) (R1 := R1) h m
  obtain ⟨X2, e2, m2, f2, b2, p2, w2⟩ := lys_L (d := d + 6) (J := J) (R1 := R1) h m1 ha (to := to) (by omega) (fun i hi => (r1 i hi).1) (fun i hi => (r1 i hi).2)
  obtain ⟨Y, e2', mY, fY, bY, pY, wY⟩ := lys_L (d := d + 6) (J := J) (R1 := R1) h m2 hb (to := to2) (by omega) b2 p2
  have e3 := imv_m (d := d + 6) (c := b) (to := to2) (I := I) (X := Y) (J := J) (R1 := R1) (by omega) (by omega) ((wY b hb).1.trans ((w2 b hb).1.trans (w1 b hb).1)) ((wY b hb).2.trans ((w2 b hb).2.trans (w1 b hb).2))
  have y13 : Y 123 13 = nI n := by rw [mY.1.1.2.1 13 (by unfold kpK; omega)]; exact h.nd
  have e4 := fre_m (d := d + 5) (J := J) (R1 := R1) y13 hn6 bY pY
  obtain ⟨X3, J3, e5, m3, f3⟩ := kps_m (d := d) (k := k) (J := J) (R1 := R1) h mY hN bY pY (up_ok (up_ok (hg_now h).1 (by omega)) (by omega)) (up_ok2 (up_ok2 (hg_now h).2 (by omega)) (by omega))
  have g2 : Y 164 = X 164 := fY.trans (f2.trans f1)
  have g3 : X3 164 = X 164 := f3.trans g2
  unfold ok2
  by_cases zm : mvd I b to2 = true
  · rw [if_pos zm] at e3
    by_cases zf : frV n (upd (upd (I 62) a (nI (to / 10))) b (nI (to2 / 10))) (upd (upd (I 63) a (nI (to % 10))) b (nI (to2 % 10))) = 0
    · refine ⟨Y, J, mY, ?_⟩
      rw [if_neg (by simp [zf])]
      refine ⟨?_, g2⟩
      simp (disch := omega) only [xX12_otherKeeps_15, xX12_otherKeeps_16, xX12_otherKeeps_19, xX12_otherKeeps_20, xX12_otherKeeps_22, xX12_otherKeeps_24, xX12_otherKeeps_27, xX12_otherKeeps_28, xX12_otherKeeps_30, xX12_otherKeeps_32, xX12_otherKeeps_35, xX12_otherKeeps_36, xX12_otherKeeps_38, xX12_otherKeeps_40, xX12_otherKeeps_43, xX12_otherKeeps_46, xX12_otherKeeps_47, xX12_otherKeeps_50, xX12_otherKeeps_53, xX12_otherKeeps_54, xX12_otherKeeps_55, xX12_otherKeeps_56, xX12_otherKeeps_57, xX12_otherKeeps_60, xX12_otherKeeps_63, kd_123, fi_123_76, kd_164, ln_164, kd_123, ↓reduceIte, gd_t, hK_p, hN_p, hF_p, hI_p, hJ_p, hR_p, stI_p, stJ_p, stR_p, stA_p, va_rf_s, va_rf_n, clr_i, clr_l, clr_r, clr_n, clr_o, w8_0, w8_1i, w8_1r, w8_2ii, w8_2ri, w8_2ir, w8_2rr, w8_3, beq_self_eq_true, Bool.and_self, Bool.and_true, Bool.true_and, decide_true, Option.toList_some, Option.toList_none, List.cons_append, List.nil_append, Option.bind_some, if_true, if_false, Nat.reduceLeDiff, Nat.reduceLT, Nat.reduceBEq, Bool.or_false, Bool.false_or, Bool.or_true, Bool.true_or, w8_4, e1, e2, e2', e3, e4, zf, n1]
    · by_cases zk : kK I t lL lG n N k bits (upd (upd (I 62) a (nI (to / 10))) b (nI (to2 / 10))) (upd (upd (I 63) a (nI (to % 10))) b (nI (to2 % 10))) = 0
      · refine ⟨X3, J3, m3, ?_⟩
        rw [if_neg (by simp [zk])]
        refine ⟨?_, g3⟩
        simp (disch := omega) only [xX12_otherKeeps_15, xX12_otherKeeps_16, xX12_otherKeeps_19, xX12_otherKeeps_20, xX12_otherKeeps_22, xX12_otherKeeps_24, xX12_otherKeeps_27, xX12_otherKeeps_28, xX12_otherKeeps_30, xX12_otherKeeps_32, xX12_otherKeeps_35, xX12_otherKeeps_36, xX12_otherKeeps_38, xX12_otherKeeps_40, xX12_otherKeeps_43, xX12_otherKeeps_46, xX12_otherKeeps_47, xX12_otherKeeps_50, xX12_otherKeeps_53, xX12_otherKeeps_54, xX12_otherKeeps_55, xX12_otherKeeps_56, xX12_otherKeeps_57, xX12_otherKeeps_60, xX12_otherKeeps_63, kd_123, fi_123_76, kd_164, ln_164, kd_123, ↓reduceIte, gd_t, hK_p, hN_p, hF_p, hI_p, hJ_p, hR_p, stI_p, stJ_p, stR_p, stA_p, va_rf_s, va_rf_n, clr_i, clr_l, clr_r, clr_n, clr_o, w8_0, w8_1i, w8_1r, w8_2ii, w8_2ri, w8_2ir, w8_2rr, w8_3, beq_self_eq_true, Bool.and_self, Bool.and_true, Bool.true_and, decide_true, Option.toList_some, Option.toList_none, List.cons_append, List.nil_append, Option.bind_some, if_true, if_false, Nat.reduceLeDiff, Nat.reduceLT, Nat.reduceBEq, Bool.or_false, Bool.false_or, Bool.or_true, Bool.true_or, w8_4, e1, e2, e2', e3, e4, zf, e5, zk, n1, not_true_eq_false]
      · have e6 := fds_m (d := d + 6) (c := a) (to := to) (f := 1) (X := va_up X3 164 (upd (X3 164) 0 2)) (J := J3) (R1 := R1) (by omega) (by omega)
        rw [show nI 1 = 1 from rfl, up_s, bx_uu] at e6
        have e7 := fds_m (d := d + 6) (c := b) (to := to2) (f := 4) (X := va_up X3 164 (upd (upd (upd (upd (X3 164) 0 2) 1 (nI a)) (1 + 1) (nI (to / 10))) (1 + 2) (nI (to % 10)))) (J := J3) (R1 := R1) (by omega) (by omega)
        rw [show nI 4 = 4 from rfl, up_s, bx_uu] at e7
        refine ⟨va_up X3 164 (upd (upd (upd (upd (upd (upd (upd (X3 164) 0 2) 1 (nI a)) (1 + 1) (nI (to / 10))) (1 + 2) (nI (to % 10))) 4 (nI b)) (4 + 1) (nI (to2 / 10))) (4 + 2) (nI (to2 % 10))), J3, ⟨plQ_o m3.1 (by omega), by rw [up_n (by decide)]; exact m3.2⟩, ?_⟩
        rw [if_pos (by simp [zm, zf, zk])]
        refine ⟨?_, by rw [up_s, g3]⟩
        simp (disch := omega) only [xX12_otherKeeps_15, xX12_otherKeeps_16, xX12_otherKeeps_19, xX12_otherKeeps_20, xX12_otherKeeps_22, xX12_otherKeeps_24, xX12_otherKeeps_27, xX12_otherKeeps_28, xX12_otherKeeps_30, xX12_otherKeeps_32, xX12_otherKeeps_35, xX12_otherKeeps_36, xX12_otherKeeps_38, xX12_otherKeeps_40, xX12_otherKeeps_43, xX12_otherKeeps_46, xX12_otherKeeps_47, xX12_otherKeeps_50, xX12_otherKeeps_53, xX12_otherKeeps_54, xX12_otherKeeps_55, xX12_otherKeeps_56, xX12_otherKeeps_57, xX12_otherKeeps_60, xX12_otherKeeps_63, xX12_otherKeeps_66, xX12_otherKeeps_67, xX12_otherKeeps_70, xX12_otherKeeps_71, xX12_otherKeeps_72, xX12_otherKeeps_73, xX12_otherKeeps_74, xX12_otherKeeps_75, xX12_otherKeeps_77, xX12_otherKeeps_79, xX12_otherKeeps_82, xX12_otherKeeps_83, xX12_otherKeeps_84, xX12_otherKeeps_86, xX12_otherKeeps_88, xX12_otherKeeps_91, xX12_otherKeeps_92, kd_123, fi_123_76, kd_164, ln_164, kd_123, ↓reduceIte, gd_t, hK_p, hN_p, hF_p, hI_p, hJ_p, hR_p, stI_p, stJ_p, stR_p, stA_p, va_rf_s, va_rf_n, clr_i, clr_l, clr_r, clr_n, clr_o, w8_0, w8_1i, w8_1r, w8_2ii, w8_2ri, w8_2ir, w8_2rr, w8_3, beq_self_eq_true, Bool.and_self, Bool.and_true, Bool.true_and, decide_true, Option.toList_some, Option.toList_none, List.cons_append, List.nil_append, Option.bind_some, if_true, if_false, Nat.reduceLeDiff, Nat.reduceLT, Nat.reduceBEq, Bool.or_false, Bool.false_or, Bool.or_true, Bool.true_or, nI_leI, nI_ltI, nI_eq, nI_clamp, inb_n, up_s, up_n, bx_uu, nI_1, ix6, nI_0n, pk_us, pk_un, ge_0n, w8_4, e1, e2, e2', e3, e4, zf, e5, zk, n1, il_0, show (0 : Int32).toNatClampNeg = 0 from rfl, e6, e7, z11, not_false_eq_true]
  · rw [if_neg zm] at e3
    have zm' : mvd I b to2 = false := by simpa using zm
    refine ⟨Y, J, mY, ?_⟩
    rw [if_neg (by simp [zm'])]
    refine ⟨?_, g2⟩
    simp (disch := omega) only [xX12_otherKeeps_15, xX12_otherKeeps_16, xX12_otherKeeps_19, xX12_otherKeeps_20, xX12_otherKeeps_22, xX12_otherKeeps_24, xX12_otherKeeps_27, xX12_otherKeeps_28, xX12_otherKeeps_30, xX12_otherKeeps_32, xX12_otherKeeps_35, xX12_otherKeeps_36, xX12_otherKeeps_38, xX12_otherKeeps_40, xX12_otherKeeps_43, xX12_otherKeeps_46, xX12_otherKeeps_47, xX12_otherKeeps_50, xX12_otherKeeps_53, xX12_otherKeeps_54, xX12_otherKeeps_55, xX12_otherKeeps_56, xX12_otherKeeps_57, xX12_otherKeeps_60, xX12_otherKeeps_63, kd_123, fi_123_76, kd_164, ln_164, kd_123, ↓reduceIte, gd_t, hK_p, hN_p, hF_p, hI_p, hJ_p, hR_p, stI_p, stJ_p, stR_p, stA_p, va_rf_s, va_rf_n, clr_i, clr_l, clr_r, clr_n, clr_o, w8_0, w8_1i, w8_1r, w8_2ii, w8_2ri, w8_2ir, w8_2rr, w8_3, beq_self_eq_true, Bool.and_self, Bool.and_true, Bool.true_and, decide_true, Option.toList_some, Option.toList_none, List.cons_append, List.nil_append, Option.bind_some, if_true, if_false, Nat.reduceLeDiff, Nat.reduceLT, Nat.reduceBEq, Bool.or_false, Bool.false_or, Bool.or_true, Bool.true_or, w8_4, e1, e2, e2', e3]
end LEN

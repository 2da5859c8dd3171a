-- TEXT, 22: a may's line, both
def myR (X Y : Mem) (s b m : Nat) : Prop := nmR X Y (s + 15) 138 4 m ∧ Y 123 19 = nI m ∧ m ≤ 4 ∧ (∀ j, j < 6 * m → myE X Y s b j) ∧ ∀ j, 6 * m ≤ j → j < 24 → X (s + 17) j = -1
/-- what a line of mays leaves alone -/
def maF (s : Nat) (X X' Y Y' : Mem) : Prop := (∀ c, c ≠ 56 → c ≠ 57 → c < s + 15 ∨ s + 18 < c → X' c = X c) ∧ (∀ k, k ≠ 2 → k ≠ 3 → k ≠ 6 → X' 56 k = X 56 k) ∧ (∀ c, c ≠ 123 → c < 138 ∨ 140 < c → Y' c = Y c) ∧ ∀ k, k < 4 ∨ 11 < k → k ≠ 19 → Y' 123 k = Y 123 k
section MA
variable {X Y : Mem} {J J2 : MemL} {R R2 : MemR} {L p s b n m : Nat} {u : Nat → Nat}
theorem mal_p {d : Nat} (h : psR X Y L u p) (ht : isTe s) (hR : R 56 1 = some s) (hna : naR X Y s b n) (hm : myR X Y s b m) :
    (∃ X' Y', C (d + 7) MX7_mayLine [.ref 56] (hp X J R) = some (some (.int 0), hp X' J R) ∧ C (d + 5) MX12_mayLine [.ref 123] (hp Y J2 R2) = some (some (.int 0), hp Y' J2 R2) ∧ faR X' Y' ∧ fC s X X' ∧ fM Y Y') ∨
    (∃ X' Y' p', C (d + 7) MX7_mayLine [.ref 56] (hp X J R) = some (some (.int 1), hp X' J R) ∧ C (d + 5) MX12_mayLine [.ref 123] (hp Y J2 R2) = some (some (.int 1), hp Y' J2 R2) ∧ psR X' Y' L u p' ∧ p ≤ p' ∧ myR X' Y' s b (m + 1) ∧ maF s X X' Y Y' ∧ fC s X X' ∧ fM Y Y') := by
  have ht2 := te_hi ht
  obtain ⟨c1, c2, c3, c4, c5⟩ := hm
  have n1 : ¬ (1 : Int32) = 0 := by decide
  have q4 : nI 4 = 4 := rfl
  have q6 : nI 6 = 6 := rfl
  have q24 : nI 24 = 24 := rfl
  have q0 : nI 0 = 0 := rfl
  have hcc : X (s + 15) 1 = nI m := c1.1
  by_cases c6 : m = 4
  · subst c6
    obtain ⟨f1, f2, f3⟩ := ref_p (k := 2) h
    refine Or.inl ⟨_, _, ?_, ?_, f1, f2.fc, f3.fm⟩
    · have c0 : ¬ nI 4 < 4 := by decide
      rw [eX7_mayLine]
      simp (disch := omega) only [xX7_mayLine_0, xX7_mayLine_1, xX7_mayLine_4, xX7_mayLine_7, xX7_mayLine_10, xX7_mayLine_11, xX7_mayLine_12, xX7_mayLine_13, xX7_mayLine_16, xX7_mayLine_17, xX7_mayLine_18, xX7_mayLine_21, xX7_mayLine_22, xX7_mayLine_23, xX7_mayLine_26, xX7_mayLine_29, xX7_mayLine_30, kd_56, fi_56_0, kd_57, te_k0 ht, te_f0_13 ht, te_k15 ht, te_k1 ht, te_k5 ht, kd_56, ↓reduceIte, gd_t, hK_p, hN_p, hF_p, hI_p, hJ_p, hR_p, stI_p, stJ_p, stR_p, stA_p, va_rf_s, va_rf_n, clr_i, clr_l, clr_r, clr_n, clr_o, w8_0, w8_1i, w8_1r, w8_2ii, w8_2ri, w8_2ir, w8_2rr, w8_3, beq_self_eq_true, Bool.and_self, Bool.and_true, Bool.true_and, decide_true, Option.toList_some, Option.toList_none, List.cons_append, List.nil_append, Option.bind_some, if_true, if_false, Nat.reduceLeDiff, Nat.reduceLT, Nat.reduceBEq, Bool.or_false, Bool.false_or, Bool.or_true, Bool.true_or, hR, hcc, c0, ref_c, z01]
    · rw [eX12_mayLine]
      simp (disch := omega) only [xX12_mayLine_0, xX12_mayLine_1, xX12_mayLine_4, xX12_mayLine_5, xX12_mayLine_8, xX12_mayLine_9, xX12_mayLine_10, xX12_mayLine_13, xX12_mayLine_14, xX12_mayLine_15, xX12_mayLine_18, xX12_mayLine_19, xX12_mayLine_20, kd_123, fi_123_23, kd_126, ln_126, fi_123_26, kd_129, ln_129, fi_123_35, kd_138, ln_138, fi_123_36, kd_139, ln_139, fi_123_37, kd_140, ln_140, kd_123, ↓reduceIte, gd_t, hK_p, hN_p, hF_p, hI_p, hJ_p, hR_p, stI_p, stJ_p, stR_p, stA_p, va_rf_s, va_rf_n, clr_i, clr_l, clr_r, clr_n, clr_o, w8_0, w8_1i, w8_1r, w8_2ii, w8_2ri, w8_2ir, w8_2rr, w8_3, beq_self_eq_true, Bool.and_self, Bool.and_true, Bool.true_and, decide_true, Option.toList_some, Option.toList_none, List.cons_append, List.nil_append, Option.bind_some, if_true, if_false, Nat.reduceLeDiff, Nat.reduceLT, Nat.reduceBEq, Bool.or_false, Bool.false_or, Bool.or_true, Bool.true_or, c2, q4, wro_m, z01, not_true_eq_false]
  · have hm4 : m < 4 := by omega
    have d0 : nI m < 4 := (nI_ltI (a := m) (b := 4) (by omega) (by omega)).mpr hm4
    have d1 : ¬ nI m = 4 := fun q => c6 ((nI_eq (b := 4) (by omega) (by omega)).mp q)
    obtain ⟨X1, Y1, p1, e1, g1, s1, -, l1, o1, m1, m1'⟩ := nxt_p (d := d + 1) (J := J) (J2 := J2) (R := R) (R2 := R2) h
    have e1 := C_up _ _ _ _ _ (C_up _ _ _ _ _ e1)
    obtain ⟨fc1, fm1⟩ := nxt_fr (s := s) o1 m1 m1'
    have hn1 : nmR X1 Y1 (s + 15) 138 4 m := ⟨by rw [o1 _ (by omega)]; exact c1.1, fun i hi => by rw [o1 _ (by omega), m1 _ (by omega)]; exact c1.2 i hi⟩
    have y19 : Y1 123 19 = nI m := by rw [m1' 19 (by omega)]; exact c2
    have hN := new_p (d := d) (J := J) (J2 := J2) (R := R) (R2 := R2) s1 ht (Or.inr (Or.inr ⟨rfl, rfl, rfl⟩)) hn1 hm4
    rw [q4] at hN
    rcases hN with ⟨X2, Y2, e2, g2, f1, f2, f3⟩ | ⟨X2, Y2, p2, e2, g2, s2, l2, hn2, o2, m2, m2', m2h⟩
    · have e2 := C_up _ _ _ _ _ (C_up _ _ _ _ _ e2)
      refine Or.inl ⟨X2, Y2, ?_, ?_, f1, fc1.tr f2.fc, fm1.tr f3.fm⟩
      · rw [eX7_mayLine]
        simp (disch := omega) only [xX7_mayLine_0, xX7_mayLine_1, xX7_mayLine_4, xX7_mayLine_7, xX7_mayLine_10, xX7_mayLine_11, xX7_mayLine_12, xX7_mayLine_13, xX7_mayLine_16, xX7_mayLine_17, xX7_mayLine_18, xX7_mayLine_21, xX7_mayLine_22, xX7_mayLine_23, xX7_mayLine_26, xX7_mayLine_29, xX7_mayLine_30, xX7_mayLine_31, xX7_mayLine_34, xX7_mayLine_37, xX7_mayLine_40, xX7_mayLine_43, xX7_mayLine_44, xX7_mayLine_45, xX7_mayLine_46, kd_56, fi_56_0, kd_57, te_k0 ht, te_f0_13 ht, te_k15 ht, te_k1 ht, te_k5 ht, kd_56, kd_57, te_k15 ht, ↓reduceIte, gd_t, hK_p, hN_p, hF_p, hI_p, hJ_p, hR_p, stI_p, stJ_p, stR_p, stA_p, va_rf_s, va_rf_n, clr_i, clr_l, clr_r, clr_n, clr_o, w8_0, w8_1i, w8_1r, w8_2ii, w8_2ri, w8_2ir, w8_2rr, w8_3, beq_self_eq_true, Bool.and_self, Bool.and_true, Bool.true_and, decide_true, Option.toList_some, Option.toList_none, List.cons_append, List.nil_append, Option.bind_some, if_true, if_false, Nat.reduceLeDiff, Nat.reduceLT, Nat.reduceBEq, Bool.or_false, Bool.false_or, Bool.or_true, Bool.true_or, hR, hcc, d0, e1, e2, z01, not_true_eq_false]
      · rw [eX12_mayLine]
        simp (disch := omega) only [xX12_mayLine_0, xX12_mayLine_1, xX12_mayLine_4, xX12_mayLine_5, xX12_mayLine_8, xX12_mayLine_9, xX12_mayLine_10, xX12_mayLine_13, xX12_mayLine_14, xX12_mayLine_15, xX12_mayLine_18, xX12_mayLine_19, xX12_mayLine_20, xX12_mayLine_23, xX12_mayLine_24, xX12_mayLine_25, xX12_mayLine_28, xX12_mayLine_31, xX12_mayLine_34, xX12_mayLine_35, xX12_mayLine_36, kd_123, fi_123_23, kd_126, ln_126, fi_123_26, kd_129, ln_129, fi_123_35, kd_138, ln_138, fi_123_36, kd_139, ln_139, fi_123_37, kd_140, ln_140, kd_123, kd_138, ↓reduceIte, gd_t, hK_p, hN_p, hF_p, hI_p, hJ_p, hR_p, stI_p, stJ_p, stR_p, stA_p, va_rf_s, va_rf_n, clr_i, clr_l, clr_r, clr_n, clr_o, w8_0, w8_1i, w8_1r, w8_2ii, w8_2ri, w8_2ir, w8_2rr, w8_3, beq_self_eq_true, Bool.and_self, Bool.and_true, Bool.true_and, decide_true, Option.toList_some, Option.toList_none, List.cons_append, List.nil_append, Option.bind_some, if_true, if_false, Nat.reduceLeDiff, Nat.reduceLT, Nat.reduceBEq, Bool.or_false, Bool.false_or, Bool.or_true, Bool.true_or, c2, d1, g1, y19, g2, z01, not_false_eq_true, not_true_eq_false]
    · have e2 := C_up _ _ _ _ _ (C_up _ _ _ _ _ e2)
      have fc2 : fC s X X2 := fc1.tr (fun a h1 _ h3 _ => o2 a h3 (by omega) (by omega))
      have fm2 : fM Y Y2 := fm1.tr ⟨fun a h1 => m2 a (by omega) (by omega), fun a k h1 h2 hk => by
        by_cases w : a = 138
        · subst w
          exact m2h k hk
        · rw [m2 a (by omega) w], fun k hk => m2' k (by omega)⟩
      have y19b : Y2 123 19 = nI m := by rw [m2' 19 (by omega)]; exact y19
      have qm : (24 : Int32) + 6 * nI m = nI (24 + 6 * m) := by rw [← q24, ← q6, pk_mul, nI_add]
      obtain ⟨r, hr, g3⟩ := mai_m (d := d + 4) (Y := Y2) (J2 := J2) (R2 := R2) (l3 := none) (l4 := none) (l5 := none) hm4
      generalize hY3 : va_up Y2 139 r = Y3 at g3
      have y3o : ∀ c, c ≠ 139 → Y3 c = Y2 c := fun c hc => by rw [← hY3, up_n hc]
      have y139 : ∀ j, Y3 139 j = if 24 + 6 * m ≤ j ∧ j < 30 + 6 * m then -1 else Y 139 j := fun j => by
        rw [← hY3, up_s, hr j, m2 _ (by omega) (by omega), m1 _ (by omega)]
      have fm3 : fM Y Y3 := fm2.tr ⟨fun a h1 => y3o a (by omega), fun a k h1 h2 hk => by
        by_cases w : a = 139
        · subst w
          have : k < 24 := hk
          rw [← hY3, up_s, hr k, if_neg (by omega)]
        · rw [y3o a w], fun k _ => by rw [y3o 123 (by omega)]⟩
      have s3 : psR X2 Y3 L u p2 := psR_m s2 (y3o 124 (by omega)) (y3o 125 (by omega)) (fun k _ _ => by rw [y3o 123 (by omega)])
      have x2o : ∀ c, c ≠ 57 → c ≠ s + 15 → c ≠ s + 16 → X2 c = X c := fun c h1 h2 h3 => by rw [o2 c h1 h2 h3, o1 c h1]
      have na3 : naR X2 Y3 s b n := naR_f hna (fun c hc => x2o c (by omega) (by omega) (by omega)) (fun c hc => by rw [y3o c (by omega), m2 c (by omega) (by omega), m1 c (by omega)]) (fun k hk => by rw [y3o 123 (by omega), m2' k (by omega), m1' k (by omega)])
      have cn0 : cnY (X2 (s + 17)) (6 * m) 6 = 0 := cnY_0 6 (fun c hc => by rw [x2o _ (by omega) (by omega) (by omega)]; exact c5 _ (by omega) (by omega))
      have hE3 : ∀ c, c < 6 → myE X2 Y3 s b (6 * m + c) := fun c hc => by
        unfold myE
        rw [y139, if_pos (by omega), x2o _ (by omega) (by omega) (by omega), c5 _ (by omega) (by omega)]
        exact ⟨rfl, Or.inl rfl⟩
      have ec : C (d + 7) MX7_mayLine [.ref 56] (hp X J R) = E (C (d + 6)) MX7_mayLine 47 [some (.ref 56), some (.int (nI m)), some (.int (nI 0))] [] (hp X2 J R) := by
        rw [eX7_mayLine]
        simp (disch := omega) only [xX7_mayLine_0, xX7_mayLine_1, xX7_mayLine_4, xX7_mayLine_7, xX7_mayLine_10, xX7_mayLine_11, xX7_mayLine_12, xX7_mayLine_13, xX7_mayLine_16, xX7_mayLine_17, xX7_mayLine_18, xX7_mayLine_21, xX7_mayLine_22, xX7_mayLine_23, xX7_mayLine_26, xX7_mayLine_29, xX7_mayLine_30, xX7_mayLine_31, xX7_mayLine_34, xX7_mayLine_37, xX7_mayLine_40, xX7_mayLine_43, xX7_mayLine_44, xX7_mayLine_45, xX7_mayLine_46, kd_56, fi_56_0, kd_57, te_k0 ht, te_f0_13 ht, te_k15 ht, te_k1 ht, te_k5 ht, kd_56, kd_57, te_k15 ht, ↓reduceIte, gd_t, hK_p, hN_p, hF_p, hI_p, hJ_p, hR_p, stI_p, stJ_p, stR_p, stA_p, va_rf_s, va_rf_n, clr_i, clr_l, clr_r, clr_n, clr_o, w8_0, w8_1i, w8_1r, w8_2ii, w8_2ri, w8_2ir, w8_2rr, w8_3, beq_self_eq_true, Bool.and_self, Bool.and_true, Bool.true_and, decide_true, Option.toList_some, Option.toList_none, List.cons_append, List.nil_append, Option.bind_some, if_true, if_false, Nat.reduceLeDiff, Nat.reduceLT, Nat.reduceBEq, Bool.or_false, Bool.false_or, Bool.or_true, Bool.true_or, hR, hcc, d0, e1, e2, n1, q0, not_false_eq_true]
      have em : C (d + 5) MX12_mayLine [.ref 123] (hp Y J2 R2) = E (C (d + 4)) MX12_mayLine 70 [some (.ref 123), some (.int (nI (24 + 6 * m))), some (.int 6), none, none, none] [] (hp Y3 J2 R2) := by
        rw [← g3, eX12_mayLine]
        simp (disch := omega) only [xX12_mayLine_0, xX12_mayLine_1, xX12_mayLine_4, xX12_mayLine_5, xX12_mayLine_8, xX12_mayLine_9, xX12_mayLine_10, xX12_mayLine_13, xX12_mayLine_14, xX12_mayLine_15, xX12_mayLine_18, xX12_mayLine_19, xX12_mayLine_20, xX12_mayLine_23, xX12_mayLine_24, xX12_mayLine_25, xX12_mayLine_28, xX12_mayLine_31, xX12_mayLine_34, xX12_mayLine_35, xX12_mayLine_36, xX12_mayLine_38, xX12_mayLine_40, xX12_mayLine_41, xX12_mayLine_44, xX12_mayLine_45, xX12_mayLine_46, xX12_mayLine_47, xX12_mayLine_48, kd_123, fi_123_23, kd_126, ln_126, fi_123_26, kd_129, ln_129, fi_123_35, kd_138, ln_138, fi_123_36, kd_139, ln_139, fi_123_37, kd_140, ln_140, kd_123, kd_138, ↓reduceIte, gd_t, hK_p, hN_p, hF_p, hI_p, hJ_p, hR_p, stI_p, stJ_p, stR_p, stA_p, va_rf_s, va_rf_n, clr_i, clr_l, clr_r, clr_n, clr_o, w8_0, w8_1i, w8_1r, w8_2ii, w8_2ri, w8_2ir, w8_2rr, w8_3, beq_self_eq_true, Bool.and_self, Bool.and_true, Bool.true_and, decide_true, Option.toList_some, Option.toList_none, List.cons_append, List.nil_append, Option.bind_some, if_true, if_false, Nat.reduceLeDiff, Nat.reduceLT, Nat.reduceBEq, Bool.or_false, Bool.false_or, Bool.or_true, Bool.true_or, c2, d1, g1, y19, g2, y19b, qm, n1, not_false_eq_true]
      rw [ec, em]
      rcases mlp_p (d := d) (J := J) (J2 := J2) (R := R) (R2 := R2) hm4 ht hR 6 0 X2 Y3 p2 (some (.int 6)) none none none (by omega) cn0 s3 na3 (by rw [y3o 123 (by omega)]; exact y19b) hE3 with ⟨X', Y', z1, z2, z3, z4⟩ | ⟨X', Y', p', z1, z2, z3, z4, z5, z6, z7⟩
      · exact Or.inl ⟨X', Y', z1, z2, z3, fc2.tr z4.fc, fm3.tr z4.fm⟩
      · have fc' := fc2.tr z7.fc
        have fm' := fm3.tr z7.fm
        obtain ⟨k1, k2, k3, k4, k5, k6⟩ := z7
        refine Or.inr ⟨X', Y', p', z1, z2, z3, by omega, ⟨⟨?_, fun i hi => ?_⟩, z5, by omega, fun j hj => ?_, fun j h1 h2 => ?_⟩, ⟨fun c h1 h2 h3 => ?_, fun k h1 h2 h3 => ?_, fun c h1 h2 => ?_, fun k h1 h2 => ?_⟩, fc', fm'⟩
        · rw [k1 _ (by omega) (by omega) (by omega) (by omega)]; exact hn2.1
        · rw [k1 _ (by omega) (by omega) (by omega) (by omega), k4 _ (by omega) (by omega) (by omega), y3o _ (by omega)]; exact hn2.2 i hi
        · rcases Nat.lt_or_ge j (6 * m) with w | w
          · unfold myE
            rw [(k2 j (by omega)).1, (k2 j (by omega)).2, (k5 (24 + j) (by omega)).1, (k5 (24 + j) (by omega)).2, x2o _ (by omega) (by omega) (by omega), x2o _ (by omega) (by omega) (by omega), y139, if_neg (by omega), y3o 140 (by omega), m2 _ (by omega) (by omega), m1 _ (by omega)]
            exact c4 j w
          · have := z6 (j - 6 * m) (by omega)
            rw [show 6 * m + (j - 6 * m) = j by omega] at this
            exact this
        · rw [(k2 j (by omega)).1, x2o _ (by omega) (by omega) (by omega)]; exact c5 j (by omega) h2
        · rw [k1 c h1 h2 (by omega) (by omega), x2o c h2 (by omega) (by omega)]
        · rw [k3 k h1 h2 h3, x2o 56 (by omega) (by omega) (by omega)]
        · rw [k4 c h1 (by omega) (by omega), y3o c (by omega), m2 c h1 (by omega), m1 c h1]
        · rw [k6 k h1 h2, y3o 123 (by omega), m2' k (by omega), m1' k (by omega)]
end MA

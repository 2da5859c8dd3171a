-- TEXT, 33: both begin to read
section CR
variable {X Y : Mem} {J J2 : MemL} {R R2 : MemR} {L p s : Nat} {u : Nat → Nat}
theorem fgh_c {d : Nat} (ht : isTe s) : ∃ X', C (d + 1) MX9_forgetHangings [.ref s] (hp X J R) = some (none, hp X' J R) ∧ (∀ i, i < 6 → X' (s + 7) i = -1) ∧ (∀ j, j < 24 → X' (s + 17) j = -1) ∧ ∀ c, c ≠ s + 7 → c ≠ s + 17 → X' c = X c := by
  have ht2 := te_hi ht
  have h1 := for_loop (P := fun i (r : Nat → Int32) => E (C d) MX9_forgetHangings 2 [some (.ref s), some (.int (nI i))] [] (hp (va_up X (s + 7) r) J R)) (f := fun i r => upd r i (-1)) (fin := fun r => E (C d) MX9_forgetHangings 21 [some (.ref s), some (.int (nI 6))] [] (hp (va_up X (s + 7) r) J R)) (n := 6) (by
    intro i r hi
    have c0 : ¬ 6 ≤ nI i := fun q => absurd ((nI_leI (a := 6) (b := i) (by omega) (by omega)).mp q) (by omega)
    rw [xX9_forgetHangings_2]
    simp (disch := omega) only [xX9_forgetHangings_3, xX9_forgetHangings_5, xX9_forgetHangings_8, xX9_forgetHangings_9, xX9_forgetHangings_12, xX9_forgetHangings_13, xX9_forgetHangings_14, xX9_forgetHangings_15, xX9_forgetHangings_18, te_k0 ht, te_f0_4 ht, te_k7 ht, te_n7 ht, te_f0_14 ht, te_k17 ht, te_n17 ht, te_k0 ht, ↓reduceIte, gd_t, hK_p, hN_p, hF_p, hI_p, hJ_p, hR_p, stI_p, stJ_p, stR_p, stA_p, va_rf_s, va_rf_n, clr_i, clr_l, clr_r, clr_n, clr_o, w8_0, w8_1i, w8_1r, w8_2ii, w8_2ri, w8_2ir, w8_2rr, w8_3, beq_self_eq_true, Bool.and_self, Bool.and_true, Bool.true_and, decide_true, Option.toList_some, Option.toList_none, List.cons_append, List.nil_append, Option.bind_some, if_true, if_false, Nat.reduceLeDiff, Nat.reduceLT, Nat.reduceBEq, Bool.or_false, Bool.false_or, Bool.or_true, Bool.true_or, nI_1, inb_n, nI_clamp, c0, up_s, bx_uu]) (by
    intro r
    have c0 : (6 : Int32) ≤ nI 6 := by decide
    rw [xX9_forgetHangings_2]
    simp (disch := omega) only [xX9_forgetHangings_3, xX9_forgetHangings_5, te_k0 ht, te_f0_4 ht, te_k7 ht, te_n7 ht, te_f0_14 ht, te_k17 ht, te_n17 ht, ↓reduceIte, gd_t, hK_p, hN_p, hF_p, hI_p, hJ_p, hR_p, stI_p, stJ_p, stR_p, stA_p, va_rf_s, va_rf_n, clr_i, clr_l, clr_r, clr_n, clr_o, w8_0, w8_1i, w8_1r, w8_2ii, w8_2ri, w8_2ir, w8_2rr, w8_3, beq_self_eq_true, Bool.and_self, Bool.and_true, Bool.true_and, decide_true, Option.toList_some, Option.toList_none, List.cons_append, List.nil_append, Option.bind_some, if_true, if_false, Nat.reduceLeDiff, Nat.reduceLT, Nat.reduceBEq, Bool.or_false, Bool.false_or, Bool.or_true, Bool.true_or, c0]) 6 0 (X (s + 7)) (by omega)
  rw [up_self] at h1
  have q1 := itf_inv (f := fun i (r : Nat → Int32) => upd r i (-1)) (n := 6) (Q := fun i r => ∀ j, j < i → r j = -1) (by
    intro i r hi hq j hj
    by_cases w : j = i
    · rw [w, pk_us]
    · rw [pk_un w]; exact hq j (by omega)) 6 0 (X (s + 7)) (by omega) (fun j hj => absurd hj (by omega))
  generalize itf (fun i (r : Nat → Int32) => upd r i (-1)) 6 0 (X (s + 7)) = r1 at h1 q1
  generalize hX1 : va_up X (s + 7) r1 = X1 at h1
  have h2 := for_loop (P := fun i (r : Nat → Int32) => E (C d) MX9_forgetHangings 23 [some (.ref s), some (.int (nI i))] [] (hp (va_up X1 (s + 17) r) J R)) (f := fun i r => upd r i (-1)) (fin := fun r => some (none, hp (va_up X1 (s + 17) r) J R)) (n := 24) (by
    intro i r hi
    have c0 : ¬ 24 ≤ nI i := fun q => absurd ((nI_leI (a := 24) (b := i) (by omega) (by omega)).mp q) (by omega)
    rw [xX9_forgetHangings_23]
    simp (disch := omega) only [xX9_forgetHangings_24, xX9_forgetHangings_26, xX9_forgetHangings_29, xX9_forgetHangings_30, xX9_forgetHangings_33, xX9_forgetHangings_34, xX9_forgetHangings_35, xX9_forgetHangings_36, xX9_forgetHangings_39, te_k0 ht, te_f0_4 ht, te_k7 ht, te_n7 ht, te_f0_14 ht, te_k17 ht, te_n17 ht, te_k0 ht, ↓reduceIte, gd_t, hK_p, hN_p, hF_p, hI_p, hJ_p, hR_p, stI_p, stJ_p, stR_p, stA_p, va_rf_s, va_rf_n, clr_i, clr_l, clr_r, clr_n, clr_o, w8_0, w8_1i, w8_1r, w8_2ii, w8_2ri, w8_2ir, w8_2rr, w8_3, beq_self_eq_true, Bool.and_self, Bool.and_true, Bool.true_and, decide_true, Option.toList_some, Option.toList_none, List.cons_append, List.nil_append, Option.bind_some, if_true, if_false, Nat.reduceLeDiff, Nat.reduceLT, Nat.reduceBEq, Bool.or_false, Bool.false_or, Bool.or_true, Bool.true_or, nI_1, inb_n, nI_clamp, c0, up_s, bx_uu]) (by
    intro r
    have c0 : (24 : Int32) ≤ nI 24 := by decide
    rw [xX9_forgetHangings_23]
    simp (disch := omega) only [xX9_forgetHangings_24, xX9_forgetHangings_26, xX9_forgetHangings_29, xX9_forgetHangings_30, xX9_forgetHangings_33, xX9_forgetHangings_34, xX9_forgetHangings_35, xX9_forgetHangings_36, xX9_forgetHangings_39, xX9_forgetHangings_42, te_k0 ht, te_f0_4 ht, te_k7 ht, te_n7 ht, te_f0_14 ht, te_k17 ht, te_n17 ht, ↓reduceIte, gd_t, hK_p, hN_p, hF_p, hI_p, hJ_p, hR_p, stI_p, stJ_p, stR_p, stA_p, va_rf_s, va_rf_n, clr_i, clr_l, clr_r, clr_n, clr_o, w8_0, w8_1i, w8_1r, w8_2ii, w8_2ri, w8_2ir, w8_2rr, w8_3, beq_self_eq_true, Bool.and_self, Bool.and_true, Bool.true_and, decide_true, Option.toList_some, Option.toList_none, List.cons_append, List.nil_append, Option.bind_some, if_true, if_false, Nat.reduceLeDiff, Nat.reduceLT, Nat.reduceBEq, Bool.or_false, Bool.false_or, Bool.or_true, Bool.true_or, c0]) 24 0 (X1 (s + 17)) (by omega)
  rw [up_self] at h2
  have q2 := itf_inv (f := fun i (r : Nat → Int32) => upd r i (-1)) (n := 24) (Q := fun i r => ∀ j, j < i → r j = -1) (by
    intro i r hi hq j hj
    by_cases w : j = i
    · rw [w, pk_us]
    · rw [pk_un w]; exact hq j (by omega)) 24 0 (X1 (s + 17)) (by omega) (fun j hj => absurd hj (by omega))
  generalize itf (fun i (r : Nat → Int32) => upd r i (-1)) 24 0 (X1 (s + 17)) = r2 at h2 q2
  refine ⟨va_up X1 (s + 17) r2, ?_, fun i hi => ?_, fun j hj => ?_, fun c h3 h4 => ?_⟩
  · have e0 : (0 : Int32) = nI 0 := rfl
    rw [eX9_forgetHangings]
    have e1 : E (C d) MX9_forgetHangings 0 [some (.ref s), none] [] (hp X J R) = E (C d) MX9_forgetHangings 2 [some (.ref s), some (.int (nI 0))] [] (hp X J R) := by
      simp only [xX9_forgetHangings_0, xX9_forgetHangings_1, ↓reduceIte, gd_t, hK_p, hN_p, hF_p, hI_p, hJ_p, hR_p, stI_p, stJ_p, stR_p, stA_p, va_rf_s, va_rf_n, clr_i, clr_l, clr_r, clr_n, clr_o, w8_0, w8_1i, w8_1r, w8_2ii, w8_2ri, w8_2ir, w8_2rr, w8_3, beq_self_eq_true, Bool.and_self, Bool.and_true, Bool.true_and, decide_true, Option.toList_some, Option.toList_none, List.cons_append, List.nil_append, Option.bind_some, if_true, if_false, Nat.reduceLeDiff, Nat.reduceLT, Nat.reduceBEq, Bool.or_false, Bool.false_or, Bool.or_true, Bool.true_or, e0]
    have e2 : E (C d) MX9_forgetHangings 21 [some (.ref s), some (.int (nI 6))] [] (hp X1 J R) = E (C d) MX9_forgetHangings 23 [some (.ref s), some (.int (nI 0))] [] (hp X1 J R) := by
      simp only [xX9_forgetHangings_21, xX9_forgetHangings_22, ↓reduceIte, gd_t, hK_p, hN_p, hF_p, hI_p, hJ_p, hR_p, stI_p, stJ_p, stR_p, stA_p, va_rf_s, va_rf_n, clr_i, clr_l, clr_r, clr_n, clr_o, w8_0, w8_1i, w8_1r, w8_2ii, w8_2ri, w8_2ir, w8_2rr, w8_3, beq_self_eq_true, Bool.and_self, Bool.and_true, Bool.true_and, decide_true, Option.toList_some, Option.toList_none, List.cons_append, List.nil_append, Option.bind_some, if_true, if_false, Nat.reduceLeDiff, Nat.reduceLT, Nat.reduceBEq, Bool.or_false, Bool.false_or, Bool.or_true, Bool.true_or, e0]
    rw [e1, h1, e2, h2]
  · rw [up_n (by omega), ← hX1, up_s]; exact q1 i hi
  · rw [up_s]; exact q2 j hj
  · rw [up_n h4, ← hX1, up_n h3]
theorem lcl_c {d g : Nat} (hg : isLw g) : C (d + 1) MX2_clear [.ref g] (hp X J R) = some (none, hp (va_up X g (upd (upd (X g) 0 0) 1 0)) J R) := by
  rw [eX2_clear]
  simp (disch := omega) only [xX2_clear_0, xX2_clear_1, xX2_clear_2, xX2_clear_5, xX2_clear_6, xX2_clear_7, xX2_clear_10, lw_k0 hg, ↓reduceIte, gd_t, hK_p, hN_p, hF_p, hI_p, hJ_p, hR_p, stI_p, stJ_p, stR_p, stA_p, va_rf_s, va_rf_n, clr_i, clr_l, clr_r, clr_n, clr_o, w8_0, w8_1i, w8_1r, w8_2ii, w8_2ri, w8_2ir, w8_2rr, w8_3, beq_self_eq_true, Bool.and_self, Bool.and_true, Bool.true_and, decide_true, Option.toList_some, Option.toList_none, List.cons_append, List.nil_append, Option.bind_some, if_true, if_false, Nat.reduceLeDiff, Nat.reduceLT, Nat.reduceBEq, Bool.or_false, Bool.false_or, Bool.or_true, Bool.true_or, up_s, bx_uu]
theorem clr_c {d : Nat} (ht : isTe s) : ∃ X', C (d + 2) MX9_clear [.ref s] (hp X J R) = some (none, hp X' J R) ∧ X' (s + 1) 1 = 0 ∧ X' (s + 5) 1 = 0 ∧ X' (s + 15) 1 = 0 ∧ X' s 12 = 0 ∧ (X' (s + 19) 0 = 0 ∧ X' (s + 19) 1 = 0) ∧ (X' (s + 23) 0 = 0 ∧ X' (s + 23) 1 = 0) ∧ (∀ i, i < 6 → X' (s + 7) i = -1 ∧ X' (s + 11) i = 0 ∧ X' (s + 12) i = 0 ∧ X' (s + 13) i = 500 ∧ X' (s + 14) i = 0) ∧ (∀ j, j < 24 → X' (s + 17) j = -1) ∧ ∀ c, c < s ∨ s + 26 ≤ c → X' c = X c := by
  have ht2 := te_hi ht
  obtain ⟨lg1, lg2⟩ := lw_te ht
  generalize hX1 : va_up (va_up (va_up (va_up X (s + 1) (upd (X (s + 1)) 1 0)) (s + 5) (upd (X (s + 5)) 1 0)) (s + 15) (upd (X (s + 15)) 1 0)) s (upd (X s) 12 0) = X1
  have a1 : X1 (s + 1) 1 = 0 ∧ X1 (s + 5) 1 = 0 ∧ X1 (s + 15) 1 = 0 ∧ X1 s 12 = 0 := by
    rw [← hX1]
    refine ⟨?_, ?_, ?_, ?_⟩
    · rw [up_n (by omega), up_n (by omega), up_n (by omega), up_s, pk_us]
    · rw [up_n (by omega), up_n (by omega), up_s, pk_us]
    · rw [up_n (by omega), up_s, pk_us]
    · rw [up_s, pk_us]
  have a2 : ∀ c, c < s ∨ s + 26 ≤ c → X1 c = X c := fun c hc => by rw [← hX1, up_n (by omega), up_n (by omega), up_n (by omega), up_n (by omega)]
  have l1 := lcl_c (d := d) (X := X1) (J := J) (R := R) lg1
  generalize hX2 : va_up X1 (s + 19) (upd (upd (X1 (s + 19)) 0 0) 1 0) = X2 at l1
  have l2 := lcl_c (d := d) (X := X2) (J := J) (R := R) lg2
  generalize hX3 : va_up X2 (s + 23) (upd (upd (X2 (s + 23)) 0 0) 1 0) = X3 at l2
  have x3o : ∀ c, c ≠ s + 19 → c ≠ s + 23 → X3 c = X1 c := fun c h1 h2 => by rw [← hX3, up_n h2, ← hX2, up_n h1]
  have b1 : (X3 (s + 19) 0 = 0 ∧ X3 (s + 19) 1 = 0) ∧ X3 (s + 23) 0 = 0 ∧ X3 (s + 23) 1 = 0 := by
    rw [← hX3, up_n (by omega), up_s, ← hX2, up_s]
    exact ⟨⟨by rw [pk_un (by decide), pk_us], by rw [pk_us]⟩, by rw [pk_un (by decide), pk_us], by rw [pk_us]⟩
  obtain ⟨X4, l3, c1, c2, c3⟩ := fgh_c (d := d) (X := X3) (J := J) (R := R) ht
  have h1 := for_loop (P := fun i (Z : Mem) => E (C (d + 1)) MX9_clear 49 [some (.ref s), some (.int (nI i))] [] (hp Z J R)) (f := fun i Z => va_up (va_up (va_up (va_up Z (s + 11) (upd (Z (s + 11)) i 0)) (s + 12) (upd (Z (s + 12)) i 0)) (s + 13) (upd (Z (s + 13)) i 500)) (s + 14) (upd (Z (s + 14)) i 0)) (fin := fun Z => some (none, hp Z J R)) (n := 6) (by
    intro i Z hi
    have c0 : ¬ 6 ≤ nI i := fun q => absurd ((nI_leI (a := 6) (b := i) (by omega) (by omega)).mp q) (by omega)
    rw [xX9_clear_49]
    simp (disch := omega) only [xX9_clear_50, xX9_clear_52, xX9_clear_55, xX9_clear_56, xX9_clear_59, xX9_clear_60, xX9_clear_61, xX9_clear_62, xX9_clear_63, xX9_clear_66, xX9_clear_67, xX9_clear_68, xX9_clear_69, xX9_clear_70, xX9_clear_73, xX9_clear_74, xX9_clear_77, xX9_clear_78, xX9_clear_79, xX9_clear_82, xX9_clear_83, xX9_clear_84, xX9_clear_85, xX9_clear_88, te_k0 ht, te_f0_0 ht, te_k1 ht, te_f0_3 ht, te_k5 ht, te_f0_8 ht, te_k11 ht, te_n11 ht, te_f0_9 ht, te_k12 ht, te_n12 ht, te_f0_10 ht, te_k13 ht, te_n13 ht, te_f0_11 ht, te_k14 ht, te_n14 ht, te_f0_13 ht, te_k15 ht, te_f0_16 ht, te_k19 ht, te_f0_17 ht, te_k23 ht, te_k0 ht, ↓reduceIte, gd_t, hK_p, hN_p, hF_p, hI_p, hJ_p, hR_p, stI_p, stJ_p, stR_p, stA_p, va_rf_s, va_rf_n, clr_i, clr_l, clr_r, clr_n, clr_o, w8_0, w8_1i, w8_1r, w8_2ii, w8_2ri, w8_2ir, w8_2rr, w8_3, beq_self_eq_true, Bool.and_self, Bool.and_true, Bool.true_and, decide_true, Option.toList_some, Option.toList_none, List.cons_append, List.nil_append, Option.bind_some, if_true, if_false, Nat.reduceLeDiff, Nat.reduceLT, Nat.reduceBEq, Bool.or_false, Bool.false_or, Bool.or_true, Bool.true_or, nI_1, inb_n, nI_clamp, c0, up_n]) (by
    intro Z
    have c0 : (6 : Int32) ≤ nI 6 := by decide
    rw [xX9_clear_49]
    simp (disch := omega) only [xX9_clear_50, xX9_clear_52, xX9_clear_55, xX9_clear_56, xX9_clear_59, xX9_clear_60, xX9_clear_61, xX9_clear_62, xX9_clear_63, xX9_clear_66, xX9_clear_67, xX9_clear_68, xX9_clear_69, xX9_clear_70, xX9_clear_73, xX9_clear_74, xX9_clear_77, xX9_clear_78, xX9_clear_79, xX9_clear_82, xX9_clear_83, xX9_clear_84, xX9_clear_85, xX9_clear_88, xX9_clear_91, te_k0 ht, te_f0_0 ht, te_k1 ht, te_f0_3 ht, te_k5 ht, te_f0_8 ht, te_k11 ht, te_n11 ht, te_f0_9 ht, te_k12 ht, te_n12 ht, te_f0_10 ht, te_k13 ht, te_n13 ht, te_f0_11 ht, te_k14 ht, te_n14 ht, te_f0_13 ht, te_k15 ht, te_f0_16 ht, te_k19 ht, te_f0_17 ht, te_k23 ht, ↓reduceIte, gd_t, hK_p, hN_p, hF_p, hI_p, hJ_p, hR_p, stI_p, stJ_p, stR_p, stA_p, va_rf_s, va_rf_n, clr_i, clr_l, clr_r, clr_n, clr_o, w8_0, w8_1i, w8_1r, w8_2ii, w8_2ri, w8_2ir, w8_2rr, w8_3, beq_self_eq_true, Bool.and_self, Bool.and_true, Bool.true_and, decide_true, Option.toList_some, Option.toList_none, List.cons_append, List.nil_append, Option.bind_some, if_true, if_false, Nat.reduceLeDiff, Nat.reduceLT, Nat.reduceBEq, Bool.or_false, Bool.false_or, Bool.or_true, Bool.true_or, c0]) 6 0 X4 (by omega)
  have q1 := itf_inv (f := fun i (Z : Mem) => va_up (va_up (va_up (va_up Z (s + 11) (upd (Z (s + 11)) i 0)) (s + 12) (upd (Z (s + 12)) i 0)) (s + 13) (upd (Z (s + 13)) i 500)) (s + 14) (upd (Z (s + 14)) i 0)) (n := 6) (Q := fun i Z => (∀ c, c < s + 11 ∨ s + 14 < c → Z c = X4 c) ∧ ∀ j, j < i → Z (s + 11) j = 0 ∧ Z (s + 12) j = 0 ∧ Z (s + 13) j = 500 ∧ Z (s + 14) j = 0) (by
    intro i Z hi hq
    refine ⟨fun c hc => by rw [up_n (by omega), up_n (by omega), up_n (by omega), up_n (by omega)]; exact hq.1 c hc, fun j hj => ?_⟩
    simp (disch := omega) only [up_s, up_n]
    by_cases w : j = i
    · subst w
      rw [pk_us, pk_us, pk_us, pk_us]
      exact ⟨rfl, rfl, rfl, rfl⟩
    · rw [pk_un w, pk_un w, pk_un w, pk_un w]
      exact hq.2 j (by omega)) 6 0 X4 (by omega) ⟨fun _ _ => rfl, fun j hj => absurd hj (by omega)⟩
  generalize itf (fun i (Z : Mem) => va_up (va_up (va_up (va_up Z (s + 11) (upd (Z (s + 11)) i 0)) (s + 12) (upd (Z (s + 12)) i 0)) (s + 13) (upd (Z (s + 13)) i 500)) (s + 14) (upd (Z (s + 14)) i 0)) 6 0 X4 = X5 at h1 q1
  obtain ⟨q1, q2⟩ := q1
  have x5 : ∀ c, c < s + 11 ∨ s + 14 < c → c ≠ s + 7 → c ≠ s + 17 → X5 c = X3 c := fun c h1 h2 h3 => by rw [q1 c h1, c3 c h2 h3]
  have x51 : ∀ c, c < s + 11 ∨ s + 14 < c → c ≠ s + 7 → c ≠ s + 17 → c ≠ s + 19 → c ≠ s + 23 → X5 c = X1 c := fun c h1 h2 h3 h4 h5 => by rw [x5 c h1 h2 h3, x3o c h4 h5]
  refine ⟨X5, ?_, ?_, ?_, ?_, ?_, ?_, ?_, fun i hi => ?_, fun j hj => ?_, fun c hc => ?_⟩
  · have e0 : (0 : Int32) = nI 0 := rfl
    rw [← h1, eX9_clear]
    simp (disch := omega) only [xX9_clear_0, xX9_clear_1, xX9_clear_4, xX9_clear_5, xX9_clear_8, xX9_clear_9, xX9_clear_12, xX9_clear_13, xX9_clear_16, xX9_clear_17, xX9_clear_20, xX9_clear_21, xX9_clear_24, xX9_clear_25, xX9_clear_26, xX9_clear_29, xX9_clear_30, xX9_clear_33, xX9_clear_36, xX9_clear_37, xX9_clear_40, xX9_clear_43, xX9_clear_44, xX9_clear_47, xX9_clear_48, te_k0 ht, te_f0_0 ht, te_k1 ht, te_f0_3 ht, te_k5 ht, te_f0_8 ht, te_k11 ht, te_n11 ht, te_f0_9 ht, te_k12 ht, te_n12 ht, te_f0_10 ht, te_k13 ht, te_n13 ht, te_f0_11 ht, te_k14 ht, te_n14 ht, te_f0_13 ht, te_k15 ht, te_f0_16 ht, te_k19 ht, te_f0_17 ht, te_k23 ht, te_k0 ht, ↓reduceIte, gd_t, hK_p, hN_p, hF_p, hI_p, hJ_p, hR_p, stI_p, stJ_p, stR_p, stA_p, va_rf_s, va_rf_n, clr_i, clr_l, clr_r, clr_n, clr_o, w8_0, w8_1i, w8_1r, w8_2ii, w8_2ri, w8_2ir, w8_2rr, w8_3, beq_self_eq_true, Bool.and_self, Bool.and_true, Bool.true_and, decide_true, Option.toList_some, Option.toList_none, List.cons_append, List.nil_append, Option.bind_some, if_true, if_false, Nat.reduceLeDiff, Nat.reduceLT, Nat.reduceBEq, Bool.or_false, Bool.false_or, Bool.or_true, Bool.true_or, up_n, hX1, l1, l2, l3]
    rfl
  · rw [x51 _ (by omega) (by omega) (by omega) (by omega) (by omega)]; exact a1.1
  · rw [x51 _ (by omega) (by omega) (by omega) (by omega) (by omega)]; exact a1.2.1
  · rw [x51 _ (by omega) (by omega) (by omega) (by omega) (by omega)]; exact a1.2.2.1
  · rw [x51 _ (by omega) (by omega) (by omega) (by omega) (by omega)]; exact a1.2.2.2
  · rw [x5 _ (by omega) (by omega) (by omega)]; exact b1.1
  · rw [x5 _ (by omega) (by omega) (by omega)]; exact b1.2
  · rw [q1 _ (by omega)]
    exact ⟨c1 i hi, q2 i hi⟩
  · rw [q1 _ (by omega)]; exact c2 j hj
  · rw [x51 _ (by omega) (by omega) (by omega) (by omega) (by omega)]; exact a2 c hc
/-- the model begins -/
def plnM (Y : Mem) : Mem := va_up (va_up Y 123 (upd (upd (upd (upd (upd (upd (upd (Y 123) 17 0) 18 0) 19 0) 20 0) 49 0) 21 0) 22 0)) 141 (upd (upd (Y 141) 2 0) 3 0)
theorem pln_m {d : Nat} : C (d + 1) MX12_plain [.ref 123] (hp Y J2 R2) = some (none, hp (plnM Y) J2 R2) := by
  have e13 : ((17 : Nat) = 13) = False := eq_false (by decide)
  have e00 : (0 : Int32) &&& 1 = 0 := by decide
  have q2 : (2 : Int32) = nI 2 := rfl
  have q3 : (3 : Int32) = nI 3 := rfl
  rw [eX12_plain]
  unfold plnM
  simp (disch := omega) only [xX12_plain_0, xX12_plain_1, xX12_plain_2, xX12_plain_5, xX12_plain_6, xX12_plain_7, xX12_plain_10, xX12_plain_11, xX12_plain_12, xX12_plain_15, xX12_plain_16, xX12_plain_17, xX12_plain_20, xX12_plain_21, xX12_plain_22, xX12_plain_25, xX12_plain_26, xX12_plain_27, xX12_plain_30, xX12_plain_31, xX12_plain_32, xX12_plain_35, xX12_plain_36, xX12_plain_39, xX12_plain_40, xX12_plain_41, xX12_plain_42, xX12_plain_43, xX12_plain_46, xX12_plain_47, xX12_plain_48, xX12_plain_49, kd_123, fi_123_38, kd_141, ln_141, kd_123, kd_141, ln_141, ↓reduceIte, gd_t, hK_p, hN_p, hF_p, hI_p, hJ_p, hR_p, stI_p, stJ_p, stR_p, stA_p, va_rf_s, va_rf_n, clr_i, clr_l, clr_r, clr_n, clr_o, w8_0, w8_1i, w8_1r, w8_2ii, w8_2ri, w8_2ir, w8_2rr, w8_3, beq_self_eq_true, Bool.and_self, Bool.and_true, Bool.true_and, decide_true, Option.toList_some, Option.toList_none, List.cons_append, List.nil_append, Option.bind_some, if_true, if_false, Nat.reduceLeDiff, Nat.reduceLT, Nat.reduceBEq, Bool.or_false, Bool.false_or, Bool.or_true, Bool.true_or, up_s, up_n, bx_uu, e13, e00, q2, q3, inb_n, nI_clamp]
end CR

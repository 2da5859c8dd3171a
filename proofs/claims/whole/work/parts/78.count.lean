-- PAIRS, 6: count
theorem ask_c {d : Nat} {I : Mem} {J : MemL} {R : MemR} : C (d + 1) MX1_asked [.ref 107] (hp I J R) = some (some (.int (if I 107 5 = -1 then I 107 4 else I 107 5)), hp I J R) := by
  rw [eX1_asked]
  by_cases z : I 107 5 = -1 <;> simp only [xX1_asked_0, xX1_asked_1, xX1_asked_4, xX1_asked_5, xX1_asked_8, xX1_asked_9, xX1_asked_12, xX1_asked_15, xX1_asked_16, xX1_asked_19, kd_107, ↓reduceIte, gd_t, hK_p, hN_p, hF_p, hI_p, hJ_p, hR_p, stI_p, stJ_p, stR_p, stA_p, va_rf_s, va_rf_n, clr_i, clr_l, clr_r, clr_n, clr_o, w8_0, w8_1i, w8_1r, w8_2ii, w8_2ri, w8_2ir, w8_2rr, w8_3, beq_self_eq_true, Bool.and_self, Bool.and_true, Bool.true_and, decide_true, Option.toList_some, Option.toList_none, List.cons_append, List.nil_append, Option.bind_some, if_true, if_false, Nat.reduceLeDiff, Nat.reduceLT, Nat.reduceBEq, Bool.or_false, Bool.false_or, Bool.or_true, Bool.true_or, z, not_true_eq_false, not_false_eq_true]
theorem kno_m {d : Nat} {I : Mem} {J : MemL} {R : MemR} : C (d + 1) MX12_knownBy [.ref 123] (hp I J R) = some (some (.int (if 0 ≤ I 123 80 then I 123 80 else I 123 79)), hp I J R) := by
  rw [eX12_knownBy]
  by_cases z : 0 ≤ I 123 80 <;> simp only [xX12_knownBy_0, xX12_knownBy_1, xX12_knownBy_4, xX12_knownBy_7, xX12_knownBy_8, xX12_knownBy_11, xX12_knownBy_14, xX12_knownBy_15, xX12_knownBy_18, kd_123, ↓reduceIte, gd_t, hK_p, hN_p, hF_p, hI_p, hJ_p, hR_p, stI_p, stJ_p, stR_p, stA_p, va_rf_s, va_rf_n, clr_i, clr_l, clr_r, clr_n, clr_o, w8_0, w8_1i, w8_1r, w8_2ii, w8_2ri, w8_2ir, w8_2rr, w8_3, beq_self_eq_true, Bool.and_self, Bool.and_true, Bool.true_and, decide_true, Option.toList_some, Option.toList_none, List.cons_append, List.nil_append, Option.bind_some, if_true, if_false, Nat.reduceLeDiff, Nat.reduceLT, Nat.reduceBEq, Bool.or_false, Bool.false_or, Bool.or_true, Bool.true_or, z, not_true_eq_false, not_false_eq_true]
theorem ask_eq {I : Mem} {n : Nat} (h : cHea I n) : ∃ a, a ≤ 40 ∧ (if I 107 5 = -1 then I 107 4 else I 107 5) = nI a ∧ (if 0 ≤ I 123 80 then I 123 80 else I 123 79) = nI a ∧ ∃ hz, I 107 4 = nI hz ∧ a ≤ hz ∧ hz ≤ 40 := by
  obtain ⟨hz, h1, h2, h3, h4, h5, h6⟩ := h
  rcases h5 with h5 | ⟨p, -, h5, h7⟩
  · refine ⟨hz, h3, ?_, ?_, hz, h1, Nat.le_refl _, h3⟩
    · rw [if_pos h5, h1]
    · rw [← h4, h5, if_neg (by decide), h2]
  · refine ⟨p, by omega, ?_, ?_, hz, h1, h5, h3⟩
    · rw [if_neg, h7]
      intro q
      rw [h7] at q
      have := nI_pos (n := p) (by omega)
      rw [q] at this
      exact this (by decide)
    · rw [← h4, h7, if_pos (nI_pos' (by omega))]
theorem alc_c {d m n : Nat} {I : Mem} {J : MemL} {R : MemR} (hm : isMo m) (hn : I m 1 = nI n) (hn6 : n ≤ 6) : C (d + 1) MX4_allCounts [.ref m] (hp I J R) = some (some (.int (smI (I (m + 9)) n)), hp I J R) := by
  have h := for_0 (P := fun i (_ : Unit) => E (C d) MX4_allCounts 4 [some (.ref m), some (.int (smI (I (m + 9)) i)), some (.int (nI i))] [] (hp I J R)) (f := fun _ s => s) (fin := fun _ => some (some (.int (smI (I (m + 9)) n)), hp I J R)) (n := n) (s := ()) (by
    intro i s hi
    have c0 : ¬ n ≤ i := by omega
    rw [xX4_allCounts_4]
    simp (disch := omega) only [xX4_allCounts_5, xX4_allCounts_6, xX4_allCounts_9, xX4_allCounts_12, xX4_allCounts_13, xX4_allCounts_14, xX4_allCounts_17, xX4_allCounts_18, xX4_allCounts_19, xX4_allCounts_20, xX4_allCounts_21, xX4_allCounts_24, mo_k0 hm, mo_f0_13 hm, mo_k9 hm, mo_n9 hm, ↓reduceIte, gd_t, hK_p, hN_p, hF_p, hI_p, hJ_p, hR_p, stI_p, stJ_p, stR_p, stA_p, va_rf_s, va_rf_n, clr_i, clr_l, clr_r, clr_n, clr_o, w8_0, w8_1i, w8_1r, w8_2ii, w8_2ri, w8_2ir, w8_2rr, w8_3, beq_self_eq_true, Bool.and_self, Bool.and_true, Bool.true_and, decide_true, Option.toList_some, Option.toList_none, List.cons_append, List.nil_append, Option.bind_some, if_true, if_false, Nat.reduceLeDiff, Nat.reduceLT, Nat.reduceBEq, Bool.or_false, Bool.false_or, Bool.or_true, Bool.true_or, nI_leI, nI_ltI, nI_eq, nI_clamp, inb_n, up_s, up_n, bx_uu, nI_1, ix6, nI_0n, pk_us, pk_un, ge_0n, hn, c0]
    rfl) (by
    intro s
    have c0 : n ≤ n := Nat.le_refl n
    rw [xX4_allCounts_4]
    simp (disch := omega) only [xX4_allCounts_5, xX4_allCounts_6, xX4_allCounts_9, xX4_allCounts_12, xX4_allCounts_13, xX4_allCounts_14, xX4_allCounts_17, xX4_allCounts_18, xX4_allCounts_19, xX4_allCounts_20, xX4_allCounts_21, xX4_allCounts_24, xX4_allCounts_27, xX4_allCounts_28, mo_k0 hm, mo_f0_13 hm, mo_k9 hm, mo_n9 hm, ↓reduceIte, gd_t, hK_p, hN_p, hF_p, hI_p, hJ_p, hR_p, stI_p, stJ_p, stR_p, stA_p, va_rf_s, va_rf_n, clr_i, clr_l, clr_r, clr_n, clr_o, w8_0, w8_1i, w8_1r, w8_2ii, w8_2ri, w8_2ir, w8_2rr, w8_3, beq_self_eq_true, Bool.and_self, Bool.and_true, Bool.true_and, decide_true, Option.toList_some, Option.toList_none, List.cons_append, List.nil_append, Option.bind_some, if_true, if_false, Nat.reduceLeDiff, Nat.reduceLT, Nat.reduceBEq, Bool.or_false, Bool.false_or, Bool.or_true, Bool.true_or, nI_leI, nI_ltI, nI_eq, nI_clamp, inb_n, up_s, up_n, bx_uu, nI_1, ix6, nI_0n, pk_us, pk_un, ge_0n, hn, c0])
  rw [nI_0] at h
  rw [eX4_allCounts]
  simp only [xX4_allCounts_0, xX4_allCounts_1, xX4_allCounts_2, xX4_allCounts_3, clr_i, clr_r]
  exact h
theorem alc_m {d n : Nat} {I : Mem} {J : MemL} {R : MemR} (hn : I 123 13 = nI n) (hn6 : n ≤ 6) : C (d + 1) MX12_allCounts [.ref 123] (hp I J R) = some (some (.int (smI (I 155) n)), hp I J R) := by
  have h := for_0 (P := fun i (_ : Unit) => E (C d) MX12_allCounts 4 [some (.ref 123), some (.int (smI (I 155) i)), some (.int (nI i))] [] (hp I J R)) (f := fun _ s => s) (fin := fun _ => some (some (.int (smI (I 155) n)), hp I J R)) (n := n) (s := ()) (by
    intro i s hi
    have c0 : ¬ n ≤ i := by omega
    rw [xX12_allCounts_4]
    simp (disch := omega) only [xX12_allCounts_5, xX12_allCounts_6, xX12_allCounts_9, xX12_allCounts_12, xX12_allCounts_13, xX12_allCounts_14, xX12_allCounts_17, xX12_allCounts_18, xX12_allCounts_19, xX12_allCounts_20, xX12_allCounts_21, xX12_allCounts_24, kd_123, fi_123_59, kd_155, ln_155, ↓reduceIte, gd_t, hK_p, hN_p, hF_p, hI_p, hJ_p, hR_p, stI_p, stJ_p, stR_p, stA_p, va_rf_s, va_rf_n, clr_i, clr_l, clr_r, clr_n, clr_o, w8_0, w8_1i, w8_1r, w8_2ii, w8_2ri, w8_2ir, w8_2rr, w8_3, beq_self_eq_true, Bool.and_self, Bool.and_true, Bool.true_and, decide_true, Option.toList_some, Option.toList_none, List.cons_append, List.nil_append, Option.bind_some, if_true, if_false, Nat.reduceLeDiff, Nat.reduceLT, Nat.reduceBEq, Bool.or_false, Bool.false_or, Bool.or_true, Bool.true_or, nI_leI, nI_ltI, nI_eq, nI_clamp, inb_n, up_s, up_n, bx_uu, nI_1, ix6, nI_0n, pk_us, pk_un, ge_0n, hn, c0]
    rfl) (by
    intro s
    have c0 : n ≤ n := Nat.le_refl n
    rw [xX12_allCounts_4]
    simp (disch := omega) only [xX12_allCounts_5, xX12_allCounts_6, xX12_allCounts_9, xX12_allCounts_12, xX12_allCounts_13, xX12_allCounts_14, xX12_allCounts_17, xX12_allCounts_18, xX12_allCounts_19, xX12_allCounts_20, xX12_allCounts_21, xX12_allCounts_24, xX12_allCounts_27, xX12_allCounts_28, kd_123, fi_123_59, kd_155, ln_155, ↓reduceIte, gd_t, hK_p, hN_p, hF_p, hI_p, hJ_p, hR_p, stI_p, stJ_p, stR_p, stA_p, va_rf_s, va_rf_n, clr_i, clr_l, clr_r, clr_n, clr_o, w8_0, w8_1i, w8_1r, w8_2ii, w8_2ri, w8_2ir, w8_2rr, w8_3, beq_self_eq_true, Bool.and_self, Bool.and_true, Bool.true_and, decide_true, Option.toList_some, Option.toList_none, List.cons_append, List.nil_append, Option.bind_some, if_true, if_false, Nat.reduceLeDiff, Nat.reduceLT, Nat.reduceBEq, Bool.or_false, Bool.false_or, Bool.or_true, Bool.true_or, nI_leI, nI_ltI, nI_eq, nI_clamp, inb_n, up_s, up_n, bx_uu, nI_1, ix6, nI_0n, pk_us, pk_un, ge_0n, hn, c0])
  rw [nI_0] at h
  rw [eX12_allCounts]
  simp only [xX12_allCounts_0, xX12_allCounts_1, xX12_allCounts_2, xX12_allCounts_3, clr_i, clr_r]
  exact h
theorem mru_m {d n : Nat} {I : Mem} {J : MemL} {R : MemR} (hn : I 123 13 = nI n) (hn6 : n ≤ 6) : C (d + 1) MX12_manyRun [.ref 123] (hp I J R) = some (some (.int (smI (fun k => if I 156 k = 1 then 1 else 0) n)), hp I J R) := by
  have h := for_0 (P := fun i (_ : Unit) => E (C d) MX12_manyRun 4 [some (.ref 123), some (.int (smI (fun k => if I 156 k = 1 then 1 else 0) i)), some (.int (nI i))] [] (hp I J R)) (f := fun _ s => s) (fin := fun _ => some (some (.int (smI (fun k => if I 156 k = 1 then 1 else 0) n)), hp I J R)) (n := n) (s := ()) (by
    intro i s hi
    have c0 : ¬ n ≤ i := by omega
    have e : smI (fun k => if I 156 k = 1 then 1 else 0) (i + 1) = smI (fun k => if I 156 k = 1 then 1 else 0) i + (if I 156 i = 1 then 1 else 0) := rfl
    rw [xX12_manyRun_4, e]
    by_cases z : I 156 i = 1
    · simp (disch := omega) only [xX12_manyRun_5, xX12_manyRun_6, xX12_manyRun_9, xX12_manyRun_12, xX12_manyRun_13, xX12_manyRun_14, xX12_manyRun_17, xX12_manyRun_18, xX12_manyRun_19, xX12_manyRun_20, xX12_manyRun_23, xX12_manyRun_24, xX12_manyRun_27, xX12_manyRun_28, xX12_manyRun_29, xX12_manyRun_30, xX12_manyRun_33, kd_123, fi_123_60, kd_156, ln_156, ↓reduceIte, gd_t, hK_p, hN_p, hF_p, hI_p, hJ_p, hR_p, stI_p, stJ_p, stR_p, stA_p, va_rf_s, va_rf_n, clr_i, clr_l, clr_r, clr_n, clr_o, w8_0, w8_1i, w8_1r, w8_2ii, w8_2ri, w8_2ir, w8_2rr, w8_3, beq_self_eq_true, Bool.and_self, Bool.and_true, Bool.true_and, decide_true, Option.toList_some, Option.toList_none, List.cons_append, List.nil_append, Option.bind_some, if_true, if_false, Nat.reduceLeDiff, Nat.reduceLT, Nat.reduceBEq, Bool.or_false, Bool.false_or, Bool.or_true, Bool.true_or, nI_leI, nI_ltI, nI_eq, nI_clamp, inb_n, up_s, up_n, bx_uu, nI_1, ix6, nI_0n, pk_us, pk_un, ge_0n, hn, c0, z, not_true_eq_false]
    · simp (disch := omega) only [xX12_manyRun_5, xX12_manyRun_6, xX12_manyRun_9, xX12_manyRun_12, xX12_manyRun_13, xX12_manyRun_14, xX12_manyRun_17, xX12_manyRun_18, xX12_manyRun_19, xX12_manyRun_20, xX12_manyRun_23, xX12_manyRun_24, xX12_manyRun_27, xX12_manyRun_28, xX12_manyRun_29, xX12_manyRun_30, xX12_manyRun_33, kd_123, fi_123_60, kd_156, ln_156, ↓reduceIte, gd_t, hK_p, hN_p, hF_p, hI_p, hJ_p, hR_p, stI_p, stJ_p, stR_p, stA_p, va_rf_s, va_rf_n, clr_i, clr_l, clr_r, clr_n, clr_o, w8_0, w8_1i, w8_1r, w8_2ii, w8_2ri, w8_2ir, w8_2rr, w8_3, beq_self_eq_true, Bool.and_self, Bool.and_true, Bool.true_and, decide_true, Option.toList_some, Option.toList_none, List.cons_append, List.nil_append, Option.bind_some, if_true, if_false, Nat.reduceLeDiff, Nat.reduceLT, Nat.reduceBEq, Bool.or_false, Bool.false_or, Bool.or_true, Bool.true_or, nI_leI, nI_ltI, nI_eq, nI_clamp, inb_n, up_s, up_n, bx_uu, nI_1, ix6, nI_0n, pk_us, pk_un, ge_0n, hn, c0, z, not_false_eq_true]) (by
    intro s
    have c0 : n ≤ n := Nat.le_refl n
    rw [xX12_manyRun_4]
    simp (disch := omega) only [xX12_manyRun_5, xX12_manyRun_6, xX12_manyRun_9, xX12_manyRun_12, xX12_manyRun_13, xX12_manyRun_14, xX12_manyRun_17, xX12_manyRun_18, xX12_manyRun_19, xX12_manyRun_20, xX12_manyRun_23, xX12_manyRun_24, xX12_manyRun_27, xX12_manyRun_28, xX12_manyRun_29, xX12_manyRun_30, xX12_manyRun_33, xX12_manyRun_36, xX12_manyRun_37, kd_123, fi_123_60, kd_156, ln_156, ↓reduceIte, gd_t, hK_p, hN_p, hF_p, hI_p, hJ_p, hR_p, stI_p, stJ_p, stR_p, stA_p, va_rf_s, va_rf_n, clr_i, clr_l, clr_r, clr_n, clr_o, w8_0, w8_1i, w8_1r, w8_2ii, w8_2ri, w8_2ir, w8_2rr, w8_3, beq_self_eq_true, Bool.and_self, Bool.and_true, Bool.true_and, decide_true, Option.toList_some, Option.toList_none, List.cons_append, List.nil_append, Option.bind_some, if_true, if_false, Nat.reduceLeDiff, Nat.reduceLT, Nat.reduceBEq, Bool.or_false, Bool.false_or, Bool.or_true, Bool.true_or, nI_leI, nI_ltI, nI_eq, nI_clamp, inb_n, up_s, up_n, bx_uu, nI_1, ix6, nI_0n, pk_us, pk_un, ge_0n, hn, c0])
  rw [nI_0] at h
  rw [eX12_manyRun]
  simp only [xX12_manyRun_0, xX12_manyRun_1, xX12_manyRun_2, xX12_manyRun_3, clr_i, clr_r]
  exact h
theorem smI_up {f : Nat → Int32} {n : Nat} : ∀ e, (∀ k, n ≤ k → f k = 0) → smI f (n + e) = smI f n
  | 0, _ => rfl
  | e + 1, h => by
    show smI f (n + e) + f (n + e) = _
    rw [smI_up e h, h _ (by omega), Int32.add_zero]
def cnC (I : Mem) (t : Nat) (n : Nat) (x : Int32) : Int32 := if x = 0 then I (t + 1) 1 else if x = 1 then I (t + 5) 1 else if x = 2 then I (t + 15) 1 else if x = 3 then I (t + 19) 1 + I (t + 23) 1 else if x = 4 then I 60 2 else if x = 5 then I 107 4 else if x = 6 then (if I 107 5 = -1 then I 107 4 else I 107 5) else if x = 7 then I 105 1 else if x = 8 then bcE (bI (ruF (I 70) n)) else if x = 9 then smI (I 69) n else -1
def cnM (I : Mem) (n : Nat) (x : Int32) : Int32 := if x = 0 then I 123 12 else if x = 1 then I 123 13 else if x = 2 then I 123 14 else if x = 3 then I 123 15 else if x = 4 then I 123 70 else if x = 5 then I 123 79 else if x = 6 then (if 0 ≤ I 123 80 then I 123 80 else I 123 79) else if x = 7 then I 123 73 else if x = 8 then smI (fun k => if I 156 k = 1 then 1 else 0) n else if x = 9 then smI (I 155) n else -1
theorem tenI (x : Int32) : x = 0 ∨ x = 1 ∨ x = 2 ∨ x = 3 ∨ x = 4 ∨ x = 5 ∨ x = 6 ∨ x = 7 ∨ x = 8 ∨ x = 9 ∨ (¬ x = 0 ∧ ¬ x = 1 ∧ ¬ x = 2 ∧ ¬ x = 3 ∧ ¬ x = 4 ∧ ¬ x = 5 ∧ ¬ x = 6 ∧ ¬ x = 7 ∧ ¬ x = 8 ∧ ¬ x = 9) := by
  by_cases h0 : x = 0
  · exact Or.inl h0
  by_cases h1 : x = 1
  · simp [h1]
  by_cases h2 : x = 2
  · simp [h2]
  by_cases h3 : x = 3
  · simp [h3]
  by_cases h4 : x = 4
  · simp [h4]
  by_cases h5 : x = 5
  · simp [h5]
  by_cases h6 : x = 6
  · simp [h6]
  by_cases h7 : x = 7
  · simp [h7]
  by_cases h8 : x = 8
  · simp [h8]
  by_cases h9 : x = 9
  · simp [h9]
  simp [h0, h1, h2, h3, h4, h5, h6, h7, h8, h9]
theorem cou_c {d t n : Nat} {I : Mem} {J : MemL} {R : MemR} {x : Int32} (ht : isTe t) (hR : R 0 3 = some t) (hn : I 60 1 = nI n) (hn6 : n ≤ 6) : C (d + 2) MX11_count [.ref 0, .int x] (hp I J R) = some (some (.int (cnC I t n x)), hp I J R) := by
  have hr := run_c (d := d) (m := 60) (I := I) (J := J) (R := R) (Or.inl rfl) hn hn6
  have ha := alc_c (d := d) (m := 60) (I := I) (J := J) (R := R) (Or.inl rfl) hn hn6
  rw [eX11_count]
  unfold cnC
  rcases tenI x with rfl | rfl | rfl | rfl | rfl | rfl | rfl | rfl | rfl | rfl | ⟨h0, h1, h2, h3, h4, h5, h6, h7, h8, h9⟩
  case' inr.inr.inr.inr.inr.inr.inr.inr.inr.inr => simp only [xX11_count_0, xX11_count_1, xX11_count_56, xX11_count_57, xX11_count_60, xX11_count_63, xX11_count_66, xX11_count_67, xX11_count_68, xX11_count_71, xX11_count_74, xX11_count_77, xX11_count_78, xX11_count_79, xX11_count_82, xX11_count_85, xX11_count_88, xX11_count_89, xX11_count_90, xX11_count_93, xX11_count_96, xX11_count_99, xX11_count_100, xX11_count_103, xX11_count_106, xX11_count_109, xX11_count_110, xX11_count_111, xX11_count_112, xX11_count_115, xX11_count_118, xX11_count_119, xX11_count_120, xX11_count_123, xX11_count_126, xX11_count_127, xX11_count_128, xX11_count_131, xX11_count_134, xX11_count_135, xX11_count_136, xX11_count_139, xX11_count_142, xX11_count_143, xX11_count_144, xX11_count_147, xX11_count_150, xX11_count_153, xX11_count_154, xX11_count_155, xX11_count_158, xX11_count_161, xX11_count_162, xX11_count_163, kd_0, fi_0_5, kd_60, fi_0_10, kd_105, fi_0_11, kd_107, ↓reduceIte, gd_t, hK_p, hN_p, hF_p, hI_p, hJ_p, hR_p, stI_p, stJ_p, stR_p, stA_p, va_rf_s, va_rf_n, clr_i, clr_l, clr_r, clr_n, clr_o, w8_0, w8_1i, w8_1r, w8_2ii, w8_2ri, w8_2ir, w8_2rr, w8_3, beq_self_eq_true, Bool.and_self, Bool.and_true, Bool.true_and, decide_true, Option.toList_some, Option.toList_none, List.cons_append, List.nil_append, Option.bind_some, if_true, if_false, Nat.reduceLeDiff, Nat.reduceLT, Nat.reduceBEq, Bool.or_false, Bool.false_or, Bool.or_true, Bool.true_or, h0, h1, h2, h3, h4, h5, h6, h7, h8, h9]
  all_goals simp (decide := true) only [xX11_count_0, xX11_count_1, xX11_count_56, xX11_count_57, xX11_count_60, xX11_count_63, xX11_count_66, xX11_count_67, xX11_count_68, xX11_count_71, xX11_count_74, xX11_count_77, xX11_count_78, xX11_count_79, xX11_count_82, xX11_count_85, xX11_count_88, xX11_count_89, xX11_count_90, xX11_count_93, xX11_count_96, xX11_count_99, xX11_count_100, xX11_count_103, xX11_count_106, xX11_count_109, xX11_count_110, xX11_count_111, xX11_count_112, xX11_count_115, xX11_count_118, xX11_count_119, xX11_count_120, xX11_count_123, xX11_count_126, xX11_count_127, xX11_count_128, xX11_count_131, xX11_count_134, xX11_count_135, xX11_count_136, xX11_count_139, xX11_count_142, xX11_count_143, xX11_count_144, xX11_count_147, xX11_count_150, xX11_count_153, xX11_count_154, xX11_count_155, xX11_count_158, xX11_count_161, xX11_count_162, xX11_count_163, kd_0, fi_0_5, kd_60, fi_0_10, kd_105, fi_0_11, kd_107, te_k0 ht, te_f0_0 ht, te_k1 ht, te_f0_3 ht, te_k5 ht, te_f0_13 ht, te_k15 ht, te_f0_16 ht, te_k19 ht, te_f0_17 ht, te_k23 ht, te_k1 ht, te_k5 ht, te_k15 ht, te_k19 ht, te_k23 ht, ↓reduceIte, gd_t, hK_p, hN_p, hF_p, hI_p, hJ_p, hR_p, stI_p, stJ_p, stR_p, stA_p, va_rf_s, va_rf_n, clr_i, clr_l, clr_r, clr_n, clr_o, w8_0, w8_1i, w8_1r, w8_2ii, w8_2ri, w8_2ir, w8_2rr, w8_3, beq_self_eq_true, Bool.and_self, Bool.and_true, Bool.true_and, decide_true, Option.toList_some, Option.toList_none, List.cons_append, List.nil_append, Option.bind_some, if_true, if_false, Nat.reduceLeDiff, Nat.reduceLT, Nat.reduceBEq, Bool.or_false, Bool.false_or, Bool.or_true, Bool.true_or, hR, hr, ha, ask_c, bc_spec]
theorem cou_m {d n : Nat} {I : Mem} {J : MemL} {R : MemR} {x : Int32} (hn : I 123 13 = nI n) (hn6 : n ≤ 6) : C (d + 2) MX12_count [.ref 123, .int x] (hp I J R) = some (some (.int (cnM I n x)), hp (va_up I 123 (upd (I 123) 2 0)) J R) := by
  have e13 : va_up I 123 (upd (I 123) 2 0) 123 13 = nI n := by rw [up_s, pk_un (by decide)]; exact hn
  have hr := mru_m (d := d) (I := va_up I 123 (upd (I 123) 2 0)) (J := J) (R := R) e13 hn6
  have ha := alc_m (d := d) (I := va_up I 123 (upd (I 123) 2 0)) (J := J) (R := R) e13 hn6
  rw [up_n (by decide)] at hr ha
  rw [eX12_count]
  unfold cnM
  rcases tenI x with rfl | rfl | rfl | rfl | rfl | rfl | rfl | rfl | rfl | rfl | ⟨h0, h1, h2, h3, h4, h5, h6, h7, h8, h9⟩
  case' inr.inr.inr.inr.inr.inr.inr.inr.inr.inr => simp (disch := omega) only [xX12_count_0, xX12_count_1, xX12_count_2, xX12_count_5, xX12_count_6, xX12_count_60, xX12_count_61, xX12_count_64, xX12_count_65, xX12_count_66, xX12_count_69, xX12_count_70, xX12_count_71, xX12_count_74, xX12_count_75, xX12_count_76, xX12_count_79, xX12_count_80, xX12_count_81, xX12_count_84, xX12_count_85, xX12_count_86, xX12_count_89, xX12_count_90, xX12_count_91, xX12_count_94, xX12_count_95, xX12_count_96, xX12_count_99, xX12_count_100, xX12_count_101, xX12_count_104, xX12_count_105, xX12_count_106, xX12_count_109, xX12_count_110, xX12_count_111, kd_123, ↓reduceIte, gd_t, hK_p, hN_p, hF_p, hI_p, hJ_p, hR_p, stI_p, stJ_p, stR_p, stA_p, va_rf_s, va_rf_n, clr_i, clr_l, clr_r, clr_n, clr_o, w8_0, w8_1i, w8_1r, w8_2ii, w8_2ri, w8_2ir, w8_2rr, w8_3, beq_self_eq_true, Bool.and_self, Bool.and_true, Bool.true_and, decide_true, Option.toList_some, Option.toList_none, List.cons_append, List.nil_append, Option.bind_some, if_true, if_false, Nat.reduceLeDiff, Nat.reduceLT, Nat.reduceBEq, Bool.or_false, Bool.false_or, Bool.or_true, Bool.true_or, nI_leI, nI_ltI, nI_eq, nI_clamp, inb_n, up_s, up_n, bx_uu, nI_1, ix6, nI_0n, pk_us, pk_un, ge_0n, h0, h1, h2, h3, h4, h5, h6, h7, h8, h9]
  all_goals simp (decide := true) (disch := omega) only [xX12_count_0, xX12_count_1, xX12_count_2, xX12_count_5, xX12_count_6, xX12_count_60, xX12_count_61, xX12_count_64, xX12_count_65, xX12_count_66, xX12_count_69, xX12_count_70, xX12_count_71, xX12_count_74, xX12_count_75, xX12_count_76, xX12_count_79, xX12_count_80, xX12_count_81, xX12_count_84, xX12_count_85, xX12_count_86, xX12_count_89, xX12_count_90, xX12_count_91, xX12_count_94, xX12_count_95, xX12_count_96, xX12_count_99, xX12_count_100, xX12_count_101, xX12_count_104, xX12_count_105, xX12_count_106, xX12_count_109, xX12_count_110, xX12_count_111, kd_123, ↓reduceIte, gd_t, hK_p, hN_p, hF_p, hI_p, hJ_p, hR_p, stI_p, stJ_p, stR_p, stA_p, va_rf_s, va_rf_n, clr_i, clr_l, clr_r, clr_n, clr_o, w8_0, w8_1i, w8_1r, w8_2ii, w8_2ri, w8_2ir, w8_2rr, w8_3, beq_self_eq_true, Bool.and_self, Bool.and_true, Bool.true_and, decide_true, Option.toList_some, Option.toList_none, List.cons_append, List.nil_append, Option.bind_some, if_true, if_false, Nat.reduceLeDiff, Nat.reduceLT, Nat.reduceBEq, Bool.or_false, Bool.false_or, Bool.or_true, Bool.true_or, nI_leI, nI_ltI, nI_eq, nI_clamp, inb_n, up_s, up_n, bx_uu, nI_1, ix6, nI_0n, pk_us, pk_un, ge_0n, hr, ha, kno_m]
theorem count_p {I : Mem} {J : MemL} {R : MemR} {t t' n nb nm fL lL fG lG st : Nat} (h : cAll I R t t' n nb nm fL lL fG lG st) {x : Int32} : askP MX11_count MX12_count [.int x] I J R := by
  have hn6 := h.n6
  refine askP.mk0 (cou_c h.te h.r3 h.now.2.1 hn6) (cou_m h.nd hn6) ?_
  obtain ⟨a, -, e1, e2, -⟩ := ask_eq h.hea
  obtain ⟨hz, z1, z2, -⟩ := h.hea
  obtain ⟨hs, s1, s2, -⟩ := h.hnd
  have e8 : bcE (bI (ruF (I 70) n)) = smI (fun k => if I 156 k = 1 then 1 else 0) n := by
    rw [bI_bc, ru_eq h]
    have := smI_up (f := fun k => if ruF (I 156) n k = true then 1 else 0) (n := n) (6 - n) (fun k hk => if_neg (by simp [ruF, show ¬ k < n by omega]))
    rw [show n + (6 - n) = 6 by omega] at this
    rw [this]
    refine smI_cong (fun k hk => ?_)
    unfold ruF
    by_cases z : I 156 k = 1 <;> simp [hk, z]
  have e9 : smI (I 69) n = smI (I 155) n := smI_cong (fun k hk => (h.now.2.2.2.2.2.2.2.2.2.2.1 k hk).2.2.2.1)
  unfold cnC cnM
  rw [h.txt.1.1, h.txt.1.2.1, h.nc, h.nd, h.txt.2.2.1.1, h.txt.2.2.1.2.1, h.lws.2.1, h.lws.2.2.2.2.2.1, nI_add, h.kno, h.sc, h.sd, e1, e2, z1, z2, s1, s2, e8, e9]

-- TEXT, 4: words of the model
def wsL : List Nat := [0, 5, 11, 16, 20, 24, 30, 36, 42, 47, 52, 55, 59, 62, 66, 72, 78, 83, 90, 96, 101, 107]
def wlL : List Nat := [4, 5, 4, 3, 3, 5, 5, 5, 4, 4, 2, 3, 2, 3, 5, 5, 4, 6, 5, 4, 5]
def kcL : List Nat := [10, 11, 15, 16, 19, 12, 13, 14, 20, 17, 18, 1, 2, 0, 3, 4, 5, 6, 7, 8, 9]
theorem ws_next : ∀ k, k < 21 → wsL.getD (k + 1) 0 = wsL.getD k 0 + (wlL.getD k 0 + 1) ∧ wlL.getD k 0 ≤ 6 ∧ wsL.getD k 0 + wlL.getD k 0 < 107 ∧ wrdL.getD (wsL.getD k 0 + wlL.getD k 0) 0 = 32 := by decide
theorem ws_let : ∀ k, k < 21 → ∀ j, j < wlL.getD k 0 → 97 ≤ wrdL.getD (wsL.getD k 0 + j) 0 ∧ wrdL.getD (wsL.getD k 0 + j) 0 ≤ 122 := by decide
/-- word k of the language stands from p to e -/
def mtW (u : Nat → Nat) (p e k : Nat) : Prop := wlL.getD k 0 = e - p ∧ ∀ j, j < wlL.getD k 0 → wrdL.getD (wsL.getD k 0 + j) 0 = u (p + j)
section TON
variable {X Y : Mem} {J : MemL} {R : MemR} {L : Nat} {u : Nat → Nat}
theorem wat_m {d p e : Nat} (h : tpR X Y L u) (hpe : p ≤ e) (he : e ≤ L) (hw : ∀ k, k < 107 → Y 125 k = nI (wrdL.getD k 0)) : ∃ o : Option Nat, C (d + 1) MX12_wordAt [.ref 123, .int (nI p), .int (nI e)] (hp Y J R) = some (some (.int (an o (-1))), hp Y J R) ∧ (∀ k, o = some k → k < 21 ∧ mtW u p e k) ∧ (o = none → ∀ k, k < 21 → ¬ mtW u p e k) := by
  obtain ⟨h7, ht⟩ := h
  have n1 : ¬ (1 : Int32) = 0 := by decide
  have el : nI e - nI p = nI (e - p) := pk_sub hpe
  -- one word
  have one : ∀ (k : Nat), k < 21 → ∀ l5 l6 l7, (mtW u p e k → E (C d) MX12_wordAt 5 [some (.ref 123), some (.int (nI p)), some (.int (nI e)), some (.int (nI k)), some (.int (nI (wsL.getD k 0))), l5, l6, l7] [] (hp Y J R) = some (some (.int (nI k)), hp Y J R)) ∧ (¬ mtW u p e k → ∃ m5 m6 m7, E (C d) MX12_wordAt 5 [some (.ref 123), some (.int (nI p)), some (.int (nI e)), some (.int (nI k)), some (.int (nI (wsL.getD k 0))), l5, l6, l7] [] (hp Y J R) = E (C d) MX12_wordAt 5 [some (.ref 123), some (.int (nI p)), some (.int (nI e)), some (.int (nI (k + 1))), some (.int (nI (wsL.getD (k + 1) 0))), m5, m6, m7] [] (hp Y J R)) := by
    intro k hk l5 l6 l7
    obtain ⟨w1, w2, w3, w4⟩ := ws_next k hk
    have w5 := ws_let k hk
    unfold mtW
    generalize wsL.getD k 0 = f at *
    generalize wlL.getD k 0 = n at *
    -- its length
    have hc : ∀ (q j : Nat), j + q = n → E (C d) MX12_wordAt 18 [some (.ref 123), some (.int (nI p)), some (.int (nI e)), some (.int (nI k)), some (.int (nI f)), some (.int (nI j)), l6, l7] [] (hp Y J R) = E (C d) MX12_wordAt 39 [some (.ref 123), some (.int (nI p)), some (.int (nI e)), some (.int (nI k)), some (.int (nI f)), some (.int (nI n)), l6, l7] [] (hp Y J R) := by
      intro q
      induction q with
      | zero =>
        intro j hj
        obtain rfl : j = n := by omega
        have e1 := hw (f + j) (by omega)
        rw [w4] at e1
        rw [xX12_wordAt_18]
        simp (disch := omega) only [xX12_wordAt_19, xX12_wordAt_22, xX12_wordAt_24, xX12_wordAt_26, xX12_wordAt_27, xX12_wordAt_28, xX12_wordAt_30, xX12_wordAt_33, xX12_wordAt_36, kd_123, fi_123_0, kd_124, ln_124, fi_123_3, kd_125, ln_125, ↓reduceIte, gd_t, hK_p, hN_p, hF_p, hI_p, hJ_p, hR_p, stI_p, stJ_p, stR_p, stA_p, va_rf_s, va_rf_n, clr_i, clr_l, clr_r, clr_n, clr_o, w8_0, w8_1i, w8_1r, w8_2ii, w8_2ri, w8_2ir, w8_2rr, w8_3, beq_self_eq_true, Bool.and_self, Bool.and_true, Bool.true_and, decide_true, Option.toList_some, Option.toList_none, List.cons_append, List.nil_append, Option.bind_some, if_true, if_false, Nat.reduceLeDiff, Nat.reduceLT, Nat.reduceBEq, Bool.or_false, Bool.false_or, Bool.or_true, Bool.true_or, nI_add, inb_n, nI_clamp, e1, show nI 32 = 32 from rfl]
      | succ q ih =>
        intro j hj
        have e1 := hw (f + j) (by omega)
        have e2 := w5 j (by omega)
        have z : ¬ nI (wrdL.getD (f + j) 0) = 32 := fun q => absurd ((nI_eq (b := 32) (by omega) (by omega)).mp q) (by omega)
        rw [← ih (j + 1) (by omega), xX12_wordAt_18]
        simp (disch := omega) only [xX12_wordAt_19, xX12_wordAt_22, xX12_wordAt_24, xX12_wordAt_26, xX12_wordAt_27, xX12_wordAt_28, xX12_wordAt_30, xX12_wordAt_33, xX12_wordAt_36, kd_123, fi_123_0, kd_124, ln_124, fi_123_3, kd_125, ln_125, ↓reduceIte, gd_t, hK_p, hN_p, hF_p, hI_p, hJ_p, hR_p, stI_p, stJ_p, stR_p, stA_p, va_rf_s, va_rf_n, clr_i, clr_l, clr_r, clr_n, clr_o, w8_0, w8_1i, w8_1r, w8_2ii, w8_2ri, w8_2ir, w8_2rr, w8_3, beq_self_eq_true, Bool.and_self, Bool.and_true, Bool.true_and, decide_true, Option.toList_some, Option.toList_none, List.cons_append, List.nil_append, Option.bind_some, if_true, if_false, Nat.reduceLeDiff, Nat.reduceLT, Nat.reduceBEq, Bool.or_false, Bool.false_or, Bool.or_true, Bool.true_or, nI_add, nI_1, inb_n, nI_clamp, e1, z]
    have hc0 := hc n 0 (by omega)
    rw [nI_0] at hc0
    have c5 : ¬ (107 : Nat) ≤ f := by omega
    have e107 : ¬ nI 107 ≤ nI f := fun q => absurd ((nI_leI (by omega) (by omega)).mp q) (by omega)
    -- its letters
    have hl : n = e - p → ∀ (q j : Nat), j + q = n → ((∀ i, j ≤ i → i < n → wrdL.getD (f + i) 0 = u (p + i)) → ∃ m7, E (C d) MX12_wordAt 57 [some (.ref 123), some (.int (nI p)), some (.int (nI e)), some (.int (nI k)), some (.int (nI f)), some (.int (nI n)), some (.int 1), some (.int (nI j))] [] (hp Y J R) = E (C d) MX12_wordAt 104 [some (.ref 123), some (.int (nI p)), some (.int (nI e)), some (.int (nI k)), some (.int (nI f)), some (.int (nI n)), some (.int 1), m7] [] (hp Y J R)) ∧ (¬ (∀ i, j ≤ i → i < n → wrdL.getD (f + i) 0 = u (p + i)) → ∃ m7, E (C d) MX12_wordAt 57 [some (.ref 123), some (.int (nI p)), some (.int (nI e)), some (.int (nI k)), some (.int (nI f)), some (.int (nI n)), some (.int 1), some (.int (nI j))] [] (hp Y J R) = E (C d) MX12_wordAt 104 [some (.ref 123), some (.int (nI p)), some (.int (nI e)), some (.int (nI k)), some (.int (nI f)), some (.int (nI n)), some (.int 0), m7] [] (hp Y J R)) := by
      intro hne q
      induction q with
      | zero =>
        intro j hj
        obtain rfl : j = n := by omega
        have c0 : j ≤ j := Nat.le_refl j
        refine ⟨fun _ => ⟨some (.int (nI j)), ?_⟩, fun q => absurd (fun i h1 h2 => by omega) q⟩
        rw [xX12_wordAt_57]
        simp (disch := omega) only [xX12_wordAt_59, xX12_wordAt_61, xX12_wordAt_64, xX12_wordAt_66, xX12_wordAt_69, xX12_wordAt_70, xX12_wordAt_73, xX12_wordAt_75, xX12_wordAt_77, xX12_wordAt_78, xX12_wordAt_79, xX12_wordAt_80, xX12_wordAt_83, xX12_wordAt_84, xX12_wordAt_86, xX12_wordAt_87, xX12_wordAt_88, xX12_wordAt_91, xX12_wordAt_92, xX12_wordAt_95, xX12_wordAt_96, xX12_wordAt_98, xX12_wordAt_101, kd_123, fi_123_0, kd_124, ln_124, fi_123_3, kd_125, ln_125, ↓reduceIte, gd_t, hK_p, hN_p, hF_p, hI_p, hJ_p, hR_p, stI_p, stJ_p, stR_p, stA_p, va_rf_s, va_rf_n, clr_i, clr_l, clr_r, clr_n, clr_o, w8_0, w8_1i, w8_1r, w8_2ii, w8_2ri, w8_2ir, w8_2rr, w8_3, beq_self_eq_true, Bool.and_self, Bool.and_true, Bool.true_and, decide_true, Option.toList_some, Option.toList_none, List.cons_append, List.nil_append, Option.bind_some, if_true, if_false, Nat.reduceLeDiff, Nat.reduceLT, Nat.reduceBEq, Bool.or_false, Bool.false_or, Bool.or_true, Bool.true_or, nI_leI, nI_ltI, nI_eq, nI_clamp, inb_n, up_s, up_n, bx_uu, nI_1, ix6, nI_0n, pk_us, pk_un, ge_0n, c0]
      | succ q ih =>
        intro j hj
        have c0 : ¬ n ≤ j := by omega
        have e1 := hw (f + j) (by omega)
        obtain ⟨t1, t2, t3⟩ := ht (p + j) (by omega)
        have b := w5 j (by omega)
        obtain ⟨i1, i2⟩ := ih (j + 1) (by omega)
        by_cases z : wrdL.getD (f + j) 0 = u (p + j)
        · have en : E (C d) MX12_wordAt 57 [some (.ref 123), some (.int (nI p)), some (.int (nI e)), some (.int (nI k)), some (.int (nI f)), some (.int (nI n)), some (.int 1), some (.int (nI j))] [] (hp Y J R) = E (C d) MX12_wordAt 57 [some (.ref 123), some (.int (nI p)), some (.int (nI e)), some (.int (nI k)), some (.int (nI f)), some (.int (nI n)), some (.int 1), some (.int (nI (j + 1)))] [] (hp Y J R) := by
            rw [xX12_wordAt_57]
            simp (disch := omega) only [xX12_wordAt_59, xX12_wordAt_61, xX12_wordAt_64, xX12_wordAt_66, xX12_wordAt_69, xX12_wordAt_70, xX12_wordAt_73, xX12_wordAt_75, xX12_wordAt_77, xX12_wordAt_78, xX12_wordAt_79, xX12_wordAt_80, xX12_wordAt_83, xX12_wordAt_84, xX12_wordAt_86, xX12_wordAt_87, xX12_wordAt_88, xX12_wordAt_91, xX12_wordAt_92, xX12_wordAt_95, xX12_wordAt_96, xX12_wordAt_98, xX12_wordAt_101, kd_123, fi_123_0, kd_124, ln_124, fi_123_3, kd_125, ln_125, ↓reduceIte, gd_t, hK_p, hN_p, hF_p, hI_p, hJ_p, hR_p, stI_p, stJ_p, stR_p, stA_p, va_rf_s, va_rf_n, clr_i, clr_l, clr_r, clr_n, clr_o, w8_0, w8_1i, w8_1r, w8_2ii, w8_2ri, w8_2ir, w8_2rr, w8_3, beq_self_eq_true, Bool.and_self, Bool.and_true, Bool.true_and, decide_true, Option.toList_some, Option.toList_none, List.cons_append, List.nil_append, Option.bind_some, if_true, if_false, Nat.reduceLeDiff, Nat.reduceLT, Nat.reduceBEq, Bool.or_false, Bool.false_or, Bool.or_true, Bool.true_or, nI_leI, nI_ltI, nI_eq, nI_clamp, inb_n, up_s, up_n, bx_uu, nI_1, ix6, nI_0n, pk_us, pk_un, ge_0n, nI_add, n1, c0, e1, t2, z, not_true_eq_false]
          rw [en]
          refine ⟨fun q => i1 (fun i h1 h2 => q i (by omega) h2), fun q => i2 (fun w => q (fun i h1 h2 => ?_))⟩
          by_cases hi : i = j
          · rw [hi]; exact z
          · exact w i (by omega) h2
        · have z' : ¬ nI (wrdL.getD (f + j) 0) = nI (u (p + j)) := fun q => z ((nI_eq (by omega) (by omega)).mp q)
          refine ⟨fun q => absurd (q j (Nat.le_refl j) (by omega)) z, fun _ => ⟨some (.int (nI (j + 1))), ?_⟩⟩
          have en : E (C d) MX12_wordAt 57 [some (.ref 123), some (.int (nI p)), some (.int (nI e)), some (.int (nI k)), some (.int (nI f)), some (.int (nI n)), some (.int 1), some (.int (nI j))] [] (hp Y J R) = E (C d) MX12_wordAt 57 [some (.ref 123), some (.int (nI p)), some (.int (nI e)), some (.int (nI k)), some (.int (nI f)), some (.int (nI n)), some (.int 0), some (.int (nI (j + 1)))] [] (hp Y J R) := by
            rw [xX12_wordAt_57]
            simp (disch := omega) only [xX12_wordAt_59, xX12_wordAt_61, xX12_wordAt_64, xX12_wordAt_66, xX12_wordAt_69, xX12_wordAt_70, xX12_wordAt_73, xX12_wordAt_75, xX12_wordAt_77, xX12_wordAt_78, xX12_wordAt_79, xX12_wordAt_80, xX12_wordAt_83, xX12_wordAt_84, xX12_wordAt_86, xX12_wordAt_87, xX12_wordAt_88, xX12_wordAt_91, xX12_wordAt_92, xX12_wordAt_95, xX12_wordAt_96, xX12_wordAt_98, xX12_wordAt_101, kd_123, fi_123_0, kd_124, ln_124, fi_123_3, kd_125, ln_125, ↓reduceIte, gd_t, hK_p, hN_p, hF_p, hI_p, hJ_p, hR_p, stI_p, stJ_p, stR_p, stA_p, va_rf_s, va_rf_n, clr_i, clr_l, clr_r, clr_n, clr_o, w8_0, w8_1i, w8_1r, w8_2ii, w8_2ri, w8_2ir, w8_2rr, w8_3, beq_self_eq_true, Bool.and_self, Bool.and_true, Bool.true_and, decide_true, Option.toList_some, Option.toList_none, List.cons_append, List.nil_append, Option.bind_some, if_true, if_false, Nat.reduceLeDiff, Nat.reduceLT, Nat.reduceBEq, Bool.or_false, Bool.false_or, Bool.or_true, Bool.true_or, inb_n, nI_clamp, nI_leI, nI_1, nI_add, n1, c0, e1, t2, z', not_false_eq_true]
          rw [en, xX12_wordAt_57]
          by_cases y : n ≤ j + 1
          · simp (disch := omega) only [xX12_wordAt_59, xX12_wordAt_61, xX12_wordAt_64, xX12_wordAt_66, kd_123, fi_123_0, kd_124, ln_124, fi_123_3, kd_125, ln_125, ↓reduceIte, gd_t, hK_p, hN_p, hF_p, hI_p, hJ_p, hR_p, stI_p, stJ_p, stR_p, stA_p, va_rf_s, va_rf_n, clr_i, clr_l, clr_r, clr_n, clr_o, w8_0, w8_1i, w8_1r, w8_2ii, w8_2ri, w8_2ir, w8_2rr, w8_3, beq_self_eq_true, Bool.and_self, Bool.and_true, Bool.true_and, decide_true, Option.toList_some, Option.toList_none, List.cons_append, List.nil_append, Option.bind_some, if_true, if_false, Nat.reduceLeDiff, Nat.reduceLT, Nat.reduceBEq, Bool.or_false, Bool.false_or, Bool.or_true, Bool.true_or, nI_leI, y]
          · simp (disch := omega) only [xX12_wordAt_59, xX12_wordAt_61, xX12_wordAt_64, xX12_wordAt_66, kd_123, fi_123_0, kd_124, ln_124, fi_123_3, kd_125, ln_125, ↓reduceIte, gd_t, hK_p, hN_p, hF_p, hI_p, hJ_p, hR_p, stI_p, stJ_p, stR_p, stA_p, va_rf_s, va_rf_n, clr_i, clr_l, clr_r, clr_n, clr_o, w8_0, w8_1i, w8_1r, w8_2ii, w8_2ri, w8_2ir, w8_2rr, w8_3, beq_self_eq_true, Bool.and_self, Bool.and_true, Bool.true_and, decide_true, Option.toList_some, Option.toList_none, List.cons_append, List.nil_append, Option.bind_some, if_true, if_false, Nat.reduceLeDiff, Nat.reduceLT, Nat.reduceBEq, Bool.or_false, Bool.false_or, Bool.or_true, Bool.true_or, nI_leI, y]
    -- to the head of its letters
    have hh : ∀ b : Int32, (b = if n = e - p then 1 else 0) → E (C d) MX12_wordAt 5 [some (.ref 123), some (.int (nI p)), some (.int (nI e)), some (.int (nI k)), some (.int (nI f)), l5, l6, l7] [] (hp Y J R) = E (C d) MX12_wordAt 57 [some (.ref 123), some (.int (nI p)), some (.int (nI e)), some (.int (nI k)), some (.int (nI f)), some (.int (nI n)), some (.int b), some (.int 0)] [] (hp Y J R) := by
      intro b hb
      have h1 : E (C d) MX12_wordAt 5 [some (.ref 123), some (.int (nI p)), some (.int (nI e)), some (.int (nI k)), some (.int (nI f)), l5, l6, l7] [] (hp Y J R) = E (C d) MX12_wordAt 18 [some (.ref 123), some (.int (nI p)), some (.int (nI e)), some (.int (nI k)), some (.int (nI f)), some (.int 0), l6, l7] [] (hp Y J R) := by
        rw [xX12_wordAt_5]
        simp (disch := omega) only [xX12_wordAt_7, xX12_wordAt_8, xX12_wordAt_11, xX12_wordAt_12, xX12_wordAt_15, xX12_wordAt_16, kd_123, fi_123_0, kd_124, ln_124, fi_123_3, kd_125, ln_125, ↓reduceIte, gd_t, hK_p, hN_p, hF_p, hI_p, hJ_p, hR_p, stI_p, stJ_p, stR_p, stA_p, va_rf_s, va_rf_n, clr_i, clr_l, clr_r, clr_n, clr_o, w8_0, w8_1i, w8_1r, w8_2ii, w8_2ri, w8_2ir, w8_2rr, w8_3, beq_self_eq_true, Bool.and_self, Bool.and_true, Bool.true_and, decide_true, Option.toList_some, Option.toList_none, List.cons_append, List.nil_append, Option.bind_some, if_true, if_false, Nat.reduceLeDiff, Nat.reduceLT, Nat.reduceBEq, Bool.or_false, Bool.false_or, Bool.or_true, Bool.true_or, e107]
      rw [h1, hc0, hb]
      by_cases z : n = e - p
      · have z' : nI n = nI (e - p) := by rw [z]
        rw [if_pos z]
        simp (disch := omega) only [xX12_wordAt_39, xX12_wordAt_41, xX12_wordAt_42, xX12_wordAt_43, xX12_wordAt_44, xX12_wordAt_47, xX12_wordAt_48, xX12_wordAt_51, xX12_wordAt_52, xX12_wordAt_54, xX12_wordAt_55, ↓reduceIte, gd_t, hK_p, hN_p, hF_p, hI_p, hJ_p, hR_p, stI_p, stJ_p, stR_p, stA_p, va_rf_s, va_rf_n, clr_i, clr_l, clr_r, clr_n, clr_o, w8_0, w8_1i, w8_1r, w8_2ii, w8_2ri, w8_2ir, w8_2rr, w8_3, beq_self_eq_true, Bool.and_self, Bool.and_true, Bool.true_and, decide_true, Option.toList_some, Option.toList_none, List.cons_append, List.nil_append, Option.bind_some, if_true, if_false, Nat.reduceLeDiff, Nat.reduceLT, Nat.reduceBEq, Bool.or_false, Bool.false_or, Bool.or_true, Bool.true_or, el, z', not_true_eq_false]
      · have z' : ¬ nI n = nI (e - p) := fun q => z ((nI_eq (by omega) (by omega)).mp q)
        rw [if_neg z]
        simp (disch := omega) only [xX12_wordAt_39, xX12_wordAt_41, xX12_wordAt_42, xX12_wordAt_43, xX12_wordAt_44, xX12_wordAt_47, xX12_wordAt_48, xX12_wordAt_51, xX12_wordAt_52, xX12_wordAt_54, xX12_wordAt_55, ↓reduceIte, gd_t, hK_p, hN_p, hF_p, hI_p, hJ_p, hR_p, stI_p, stJ_p, stR_p, stA_p, va_rf_s, va_rf_n, clr_i, clr_l, clr_r, clr_n, clr_o, w8_0, w8_1i, w8_1r, w8_2ii, w8_2ri, w8_2ir, w8_2rr, w8_3, beq_self_eq_true, Bool.and_self, Bool.and_true, Bool.true_and, decide_true, Option.toList_some, Option.toList_none, List.cons_append, List.nil_append, Option.bind_some, if_true, if_false, Nat.reduceLeDiff, Nat.reduceLT, Nat.reduceBEq, Bool.or_false, Bool.false_or, Bool.or_true, Bool.true_or, el, z', not_false_eq_true]
    have fail : ∀ m7, E (C d) MX12_wordAt 104 [some (.ref 123), some (.int (nI p)), some (.int (nI e)), some (.int (nI k)), some (.int (nI f)), some (.int (nI n)), some (.int 0), m7] [] (hp Y J R) = E (C d) MX12_wordAt 5 [some (.ref 123), some (.int (nI p)), some (.int (nI e)), some (.int (nI (k + 1))), some (.int (nI (wsL.getD (k + 1) 0))), some (.int (nI n)), some (.int 0), m7] [] (hp Y J R) := by
      intro m7
      rw [w1]
      simp (disch := omega) only [xX12_wordAt_104, xX12_wordAt_106, xX12_wordAt_109, xX12_wordAt_110, xX12_wordAt_111, xX12_wordAt_113, xX12_wordAt_115, xX12_wordAt_116, xX12_wordAt_117, xX12_wordAt_118, xX12_wordAt_120, xX12_wordAt_123, ↓reduceIte, gd_t, hK_p, hN_p, hF_p, hI_p, hJ_p, hR_p, stI_p, stJ_p, stR_p, stA_p, va_rf_s, va_rf_n, clr_i, clr_l, clr_r, clr_n, clr_o, w8_0, w8_1i, w8_1r, w8_2ii, w8_2ri, w8_2ir, w8_2rr, w8_3, beq_self_eq_true, Bool.and_self, Bool.and_true, Bool.true_and, decide_true, Option.toList_some, Option.toList_none, List.cons_append, List.nil_append, Option.bind_some, if_true, if_false, Nat.reduceLeDiff, Nat.reduceLT, Nat.reduceBEq, Bool.or_false, Bool.false_or, Bool.or_true, Bool.true_or, nI_1, nI_add]
    refine ⟨fun hm => ?_, fun hm => ?_⟩
    · rw [hh 1 (by rw [if_pos hm.1])]
      obtain ⟨m7, e7⟩ := (hl hm.1 n 0 (by omega)).1 (fun i _ h2 => hm.2 i h2)
      rw [nI_0] at e7
      rw [e7]
      simp (disch := omega) only [xX12_wordAt_104, xX12_wordAt_106, xX12_wordAt_109, xX12_wordAt_110, ↓reduceIte, gd_t, hK_p, hN_p, hF_p, hI_p, hJ_p, hR_p, stI_p, stJ_p, stR_p, stA_p, va_rf_s, va_rf_n, clr_i, clr_l, clr_r, clr_n, clr_o, w8_0, w8_1i, w8_1r, w8_2ii, w8_2ri, w8_2ir, w8_2rr, w8_3, beq_self_eq_true, Bool.and_self, Bool.and_true, Bool.true_and, decide_true, Option.toList_some, Option.toList_none, List.cons_append, List.nil_append, Option.bind_some, if_true, if_false, Nat.reduceLeDiff, Nat.reduceLT, Nat.reduceBEq, Bool.or_false, Bool.false_or, Bool.or_true, Bool.true_or, n1]
    · by_cases z : n = e - p
      · rw [hh 1 (by rw [if_pos z])]
        obtain ⟨m7, e7⟩ := (hl z n 0 (by omega)).2 (fun q => hm ⟨z, fun j hj => q j (by omega) hj⟩)
        rw [nI_0] at e7
        rw [e7]
        exact ⟨_, _, m7, fail m7⟩
      · rw [hh 0 (by rw [if_neg z])]
        refine ⟨some (.int (nI n)), some (.int 0), some (.int 0), ?_⟩
        rw [← fail (some (.int 0)), xX12_wordAt_57]
        by_cases y : nI n ≤ 0
        · simp (disch := omega) only [xX12_wordAt_59, xX12_wordAt_61, xX12_wordAt_64, xX12_wordAt_66, kd_123, fi_123_0, kd_124, ln_124, fi_123_3, kd_125, ln_125, ↓reduceIte, gd_t, hK_p, hN_p, hF_p, hI_p, hJ_p, hR_p, stI_p, stJ_p, stR_p, stA_p, va_rf_s, va_rf_n, clr_i, clr_l, clr_r, clr_n, clr_o, w8_0, w8_1i, w8_1r, w8_2ii, w8_2ri, w8_2ir, w8_2rr, w8_3, beq_self_eq_true, Bool.and_self, Bool.and_true, Bool.true_and, decide_true, Option.toList_some, Option.toList_none, List.cons_append, List.nil_append, Option.bind_some, if_true, if_false, Nat.reduceLeDiff, Nat.reduceLT, Nat.reduceBEq, Bool.or_false, Bool.false_or, Bool.or_true, Bool.true_or, y]
        · simp (disch := omega) only [xX12_wordAt_59, xX12_wordAt_61, xX12_wordAt_64, xX12_wordAt_66, kd_123, fi_123_0, kd_124, ln_124, fi_123_3, kd_125, ln_125, ↓reduceIte, gd_t, hK_p, hN_p, hF_p, hI_p, hJ_p, hR_p, stI_p, stJ_p, stR_p, stA_p, va_rf_s, va_rf_n, clr_i, clr_l, clr_r, clr_n, clr_o, w8_0, w8_1i, w8_1r, w8_2ii, w8_2ri, w8_2ir, w8_2rr, w8_3, beq_self_eq_true, Bool.and_self, Bool.and_true, Bool.true_and, decide_true, Option.toList_some, Option.toList_none, List.cons_append, List.nil_append, Option.bind_some, if_true, if_false, Nat.reduceLeDiff, Nat.reduceLT, Nat.reduceBEq, Bool.or_false, Bool.false_or, Bool.or_true, Bool.true_or, y]
  -- all words
  have all : ∀ (q k : Nat) (l5 l6 l7 : Option Value), k + q = 21 → ∃ o : Option Nat, E (C d) MX12_wordAt 5 [some (.ref 123), some (.int (nI p)), some (.int (nI e)), some (.int (nI k)), some (.int (nI (wsL.getD k 0))), l5, l6, l7] [] (hp Y J R) = some (some (.int (an o (-1))), hp Y J R) ∧ (∀ i, o = some i → i < 21 ∧ mtW u p e i) ∧ (o = none → ∀ i, k ≤ i → i < 21 → ¬ mtW u p e i) := by
    intro q
    induction q with
    | zero =>
      intro k l5 l6 l7 hq
      obtain rfl : k = 21 := by omega
      refine ⟨none, ?_, (fun i hi => by cases hi), (fun _ i h1 h2 => by omega)⟩
      have e107 : nI 107 ≤ nI (wsL.getD 21 0) := by decide
      rw [xX12_wordAt_5]
      simp (disch := omega) only [xX12_wordAt_7, xX12_wordAt_8, xX12_wordAt_11, xX12_wordAt_12, kd_123, fi_123_0, kd_124, ln_124, fi_123_3, kd_125, ln_125, xX12_wordAt_126, xX12_wordAt_127, ↓reduceIte, gd_t, hK_p, hN_p, hF_p, hI_p, hJ_p, hR_p, stI_p, stJ_p, stR_p, stA_p, va_rf_s, va_rf_n, clr_i, clr_l, clr_r, clr_n, clr_o, w8_0, w8_1i, w8_1r, w8_2ii, w8_2ri, w8_2ir, w8_2rr, w8_3, beq_self_eq_true, Bool.and_self, Bool.and_true, Bool.true_and, decide_true, Option.toList_some, Option.toList_none, List.cons_append, List.nil_append, Option.bind_some, if_true, if_false, Nat.reduceLeDiff, Nat.reduceLT, Nat.reduceBEq, Bool.or_false, Bool.false_or, Bool.or_true, Bool.true_or, e107, an]
    | succ q ih =>
      intro k l5 l6 l7 hq
      obtain ⟨a1, a2⟩ := one k (by omega) l5 l6 l7
      by_cases z : mtW u p e k
      · exact ⟨some k, a1 z, fun i hi => by cases hi; exact ⟨by omega, z⟩, fun q => by cases q⟩
      · obtain ⟨m5, m6, m7, e1⟩ := a2 z
        obtain ⟨o, e2, b1, b2⟩ := ih (k + 1) m5 m6 m7 (by omega)
        refine ⟨o, e1.trans e2, b1, fun ho i h1 h2 => ?_⟩
        by_cases hi : i = k
        · rw [hi]; exact z
        · exact b2 ho i (by omega) h2
  obtain ⟨o, e1, b1, b2⟩ := all 21 0 none none none (by omega)
  rw [nI_0] at e1
  refine ⟨o, ?_, b1, fun ho k hk => b2 ho k (by omega) hk⟩
  rw [eX12_wordAt]
  simp only [xX12_wordAt_0, xX12_wordAt_1, xX12_wordAt_2, xX12_wordAt_3, ↓reduceIte, gd_t, hK_p, hN_p, hF_p, hI_p, hJ_p, hR_p, stI_p, stJ_p, stR_p, stA_p, va_rf_s, va_rf_n, clr_i, clr_l, clr_r, clr_n, clr_o, w8_0, w8_1i, w8_1r, w8_2ii, w8_2ri, w8_2ir, w8_2rr, w8_3, beq_self_eq_true, Bool.and_self, Bool.and_true, Bool.true_and, decide_true, Option.toList_some, Option.toList_none, List.cons_append, List.nil_append, Option.bind_some, if_true, if_false, Nat.reduceLeDiff, Nat.reduceLT, Nat.reduceBEq, Bool.or_false, Bool.false_or, Bool.or_true, Bool.true_or]
  exact e1
theorem pac_m {d p e : Nat} (h : tpR X Y L u) (hpe : p ≤ e) (he : e ≤ L) (hl : ∀ j, p ≤ j → j < e → isL u j = true) (h6 : e - p ≤ 6) : C (d + 1) MX12_packed [.ref 123, .int (nI p), .int (nI e)] (hp Y J R) = some (some (.int (nI (pkW u p e))), hp Y J R) := by
  obtain ⟨h7, ht⟩ := h
  have hwf : ∀ j, wF u p e j < 32 := fun j => by
    unfold wF
    split
    · have := of_decide_eq_true (hl (p + j) (by omega) (by omega))
      omega
    · omega
  have step : ∀ (q j : Nat), j + q = 6 → E (C d) MX12_packed 5 [some (.ref 123), some (.int (nI p)), some (.int (nI e)), some (.int (nI (hoN (wF u p e) j))), some (.int (nI (p + j)))] [] (hp Y J R) = some (some (.int (nI (pkW u p e))), hp Y J R) := by
    intro q
    induction q with
    | zero =>
      intro j hj
      obtain rfl : j = 6 := by omega
      have c0 : p + 6 ≤ p + 6 := Nat.le_refl _
      have a6 : nI p + 6 = nI (p + 6) := nI_add p 6
      rw [xX12_packed_5]
      simp (disch := omega) only [xX12_packed_7, xX12_packed_8, xX12_packed_10, xX12_packed_11, xX12_packed_14, xX12_packed_15, xX12_packed_16, xX12_packed_17, xX12_packed_19, xX12_packed_20, xX12_packed_23, xX12_packed_24, xX12_packed_27, xX12_packed_29, xX12_packed_30, xX12_packed_32, xX12_packed_33, xX12_packed_36, xX12_packed_37, xX12_packed_38, xX12_packed_39, xX12_packed_42, xX12_packed_45, xX12_packed_46, ↓reduceIte, gd_t, hK_p, hN_p, hF_p, hI_p, hJ_p, hR_p, stI_p, stJ_p, stR_p, stA_p, va_rf_s, va_rf_n, clr_i, clr_l, clr_r, clr_n, clr_o, w8_0, w8_1i, w8_1r, w8_2ii, w8_2ri, w8_2ir, w8_2rr, w8_3, beq_self_eq_true, Bool.and_self, Bool.and_true, Bool.true_and, decide_true, Option.toList_some, Option.toList_none, List.cons_append, List.nil_append, Option.bind_some, if_true, if_false, Nat.reduceLeDiff, Nat.reduceLT, Nat.reduceBEq, Bool.or_false, Bool.false_or, Bool.or_true, Bool.true_or, a6, nI_leI, c0]
      rfl
    | succ q ih =>
      intro j hj
      have a6 : nI p + 6 = nI (p + 6) := nI_add p 6
      have c0 : ¬ p + 6 ≤ p + j := by omega
      have hlt := hoN_lt hwf j
      have hle : 32 ^ j ≤ 32 ^ 5 := Nat.pow_le_pow_right (by omega) (by omega)
      have e5 : nI (hoN (wF u p e) j) <<< ((5 : Int32) &&& 31) = nI (2 ^ 5 * hoN (wF u p e) j) := by
        rw [pk_shlN _ 5 (by decide) (by omega), Nat.mul_comm]
      have eo : nI (2 ^ 5 * hoN (wF u p e) j) ||| nI (wF u p e j) = nI (hoN (wF u p e) (j + 1)) := by
        rw [tx_sum _ (hwf j), hoN_s, Nat.mul_comm]
      rw [← ih (j + 1) (by omega), xX12_packed_5, ← eo]
      by_cases z : p + j < e
      · have z' : ¬ e ≤ p + j := by omega
        obtain ⟨t1, t2, t3⟩ := ht (p + j) (by omega)
        have hll := of_decide_eq_true (hl (p + j) (by omega) z)
        have ew : nI (u (p + j)) - 96 = nI (wF u p e j) := by
          unfold wF
          rw [if_pos (by omega), show (96 : Int32) = nI 96 from rfl, pk_sub (by omega)]
        simp (disch := omega) only [xX12_packed_7, xX12_packed_8, xX12_packed_10, xX12_packed_11, xX12_packed_14, xX12_packed_15, xX12_packed_16, xX12_packed_17, xX12_packed_19, xX12_packed_20, xX12_packed_23, xX12_packed_24, xX12_packed_27, xX12_packed_29, xX12_packed_30, xX12_packed_32, xX12_packed_33, xX12_packed_36, xX12_packed_37, xX12_packed_38, xX12_packed_39, xX12_packed_42, kd_123, fi_123_0, kd_124, ln_124, ↓reduceIte, gd_t, hK_p, hN_p, hF_p, hI_p, hJ_p, hR_p, stI_p, stJ_p, stR_p, stA_p, va_rf_s, va_rf_n, clr_i, clr_l, clr_r, clr_n, clr_o, w8_0, w8_1i, w8_1r, w8_2ii, w8_2ri, w8_2ir, w8_2rr, w8_3, beq_self_eq_true, Bool.and_self, Bool.and_true, Bool.true_and, decide_true, Option.toList_some, Option.toList_none, List.cons_append, List.nil_append, Option.bind_some, if_true, if_false, Nat.reduceLeDiff, Nat.reduceLT, Nat.reduceBEq, Bool.or_false, Bool.false_or, Bool.or_true, Bool.true_or, a6, inb_n, nI_clamp, nI_leI, nI_1, c0, e5, z', t2, ew, Nat.add_assoc]
      · have z' : e ≤ p + j := by omega
        have ew : (0 : Int32) = nI (wF u p e j) := by
          unfold wF
          rw [if_neg (by omega)]
          rfl
        simp (disch := omega) only [xX12_packed_7, xX12_packed_8, xX12_packed_10, xX12_packed_11, xX12_packed_14, xX12_packed_15, xX12_packed_16, xX12_packed_17, xX12_packed_19, xX12_packed_20, xX12_packed_23, xX12_packed_24, xX12_packed_27, xX12_packed_29, xX12_packed_30, xX12_packed_32, xX12_packed_33, xX12_packed_36, xX12_packed_37, xX12_packed_38, xX12_packed_39, xX12_packed_42, kd_123, fi_123_0, kd_124, ln_124, ↓reduceIte, gd_t, hK_p, hN_p, hF_p, hI_p, hJ_p, hR_p, stI_p, stJ_p, stR_p, stA_p, va_rf_s, va_rf_n, clr_i, clr_l, clr_r, clr_n, clr_o, w8_0, w8_1i, w8_1r, w8_2ii, w8_2ri, w8_2ir, w8_2rr, w8_3, beq_self_eq_true, Bool.and_self, Bool.and_true, Bool.true_and, decide_true, Option.toList_some, Option.toList_none, List.cons_append, List.nil_append, Option.bind_some, if_true, if_false, Nat.reduceLeDiff, Nat.reduceLT, Nat.reduceBEq, Bool.or_false, Bool.false_or, Bool.or_true, Bool.true_or, a6, nI_leI, nI_1, c0, e5, z', ← ew, Nat.add_assoc]
  have h0 := step 6 0 (by omega)
  rw [show hoN (wF u p e) 0 = 0 from rfl, nI_0, Nat.add_zero] at h0
  rw [eX12_packed]
  simp only [xX12_packed_0, xX12_packed_1, xX12_packed_2, xX12_packed_3, ↓reduceIte, gd_t, hK_p, hN_p, hF_p, hI_p, hJ_p, hR_p, stI_p, stJ_p, stR_p, stA_p, va_rf_s, va_rf_n, clr_i, clr_l, clr_r, clr_n, clr_o, w8_0, w8_1i, w8_1r, w8_2ii, w8_2ri, w8_2ir, w8_2rr, w8_3, beq_self_eq_true, Bool.and_self, Bool.and_true, Bool.true_and, decide_true, Option.toList_some, Option.toList_none, List.cons_append, List.nil_append, Option.bind_some, if_true, if_false, Nat.reduceLeDiff, Nat.reduceLT, Nat.reduceBEq, Bool.or_false, Bool.false_or, Bool.or_true, Bool.true_or]
  exact h0
end TON

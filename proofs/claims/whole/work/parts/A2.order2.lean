-- ORDER, 2: the model's next order; from which step on
theorem trn_m {d i j : Nat} {X : Mem} {J : MemL} {R : MemR} (hi : i < 6) (hj : j < 6) : C (d + 1) MX12_turn [.ref 123, .int (nI i), .int (nI j)] (hp X J R) = some (none, hp (va_up X 165 (upd (upd (X 165) i (X 165 j)) j (X 165 i))) J R) := by
  rw [eX12_turn]
  simp (disch := omega) only [xX12_turn_0, xX12_turn_1, xX12_turn_4, xX12_turn_5, xX12_turn_6, xX12_turn_7, xX12_turn_8, xX12_turn_11, xX12_turn_12, xX12_turn_13, xX12_turn_16, xX12_turn_17, xX12_turn_18, xX12_turn_19, xX12_turn_20, xX12_turn_23, xX12_turn_24, xX12_turn_25, xX12_turn_26, kd_123, fi_123_77, kd_165, ln_165, ↓reduceIte, gd_t, hK_p, hN_p, hF_p, hI_p, hJ_p, hR_p, stI_p, stJ_p, stR_p, stA_p, va_rf_s, va_rf_n, clr_i, clr_l, clr_r, clr_n, clr_o, w8_0, w8_1i, w8_1r, w8_2ii, w8_2ri, w8_2ir, w8_2rr, w8_3, beq_self_eq_true, Bool.and_self, Bool.and_true, Bool.true_and, decide_true, Option.toList_some, Option.toList_none, List.cons_append, List.nil_append, Option.bind_some, if_true, if_false, Nat.reduceLeDiff, Nat.reduceLT, Nat.reduceBEq, Bool.or_false, Bool.false_or, Bool.or_true, Bool.true_or, nI_leI, nI_ltI, nI_eq, nI_clamp, inb_n, up_s, up_n, bx_uu, nI_1, ix6, nI_0n, pk_us, pk_un, ge_0n]
theorem nxl_m {d n : Nat} {X : Mem} {J : MemL} {R : MemR} {l : List Nat} (hl : l.length = n) (h6 : n ≤ 6) (h1 : 1 ≤ n) (hn : X 123 13 = nI n) (hr : rowL (X 165) l) (hlt : belL 6 l) : ∃ r', C (d + 2) MX12_nextOrder [.ref 123] (hp X J R) = some (some (.int (if (nextL n l).isSome = true then 1 else 0)), hp (va_up X 165 r') J R) ∧ rowL r' ((nextL n l).getD l) := by
  have hA2 : ∀ m, m ≤ n - 1 → E (C (d + 1)) MX12_nextOrder 7 [some (.ref 123), some (.int (nI m + (-1))), none, none, none] [] (hp X J R) = E (C (d + 1)) MX12_nextOrder 34 [some (.ref 123), some (.int (nI (fdA l m) + (-1))), none, none, none] [] (hp X J R) := by
    intro m
    induction m with
    | zero =>
      intro _
      have c0 : nI 0 + (-1) < (0 : Int32) := by decide
      unfold fdA
      rw [xX12_nextOrder_7]
      simp (disch := omega) only [xX12_nextOrder_8, xX12_nextOrder_11, xX12_nextOrder_12, xX12_nextOrder_15, xX12_nextOrder_16, xX12_nextOrder_17, xX12_nextOrder_18, xX12_nextOrder_21, xX12_nextOrder_22, xX12_nextOrder_23, xX12_nextOrder_24, xX12_nextOrder_25, xX12_nextOrder_28, xX12_nextOrder_31, kd_123, fi_123_77, kd_165, ln_165, ↓reduceIte, gd_t, hK_p, hN_p, hF_p, hI_p, hJ_p, hR_p, stI_p, stJ_p, stR_p, stA_p, va_rf_s, va_rf_n, clr_i, clr_l, clr_r, clr_n, clr_o, w8_0, w8_1i, w8_1r, w8_2ii, w8_2ri, w8_2ir, w8_2rr, w8_3, beq_self_eq_true, Bool.and_self, Bool.and_true, Bool.true_and, decide_true, Option.toList_some, Option.toList_none, List.cons_append, List.nil_append, Option.bind_some, if_true, if_false, Nat.reduceLeDiff, Nat.reduceLT, Nat.reduceBEq, Bool.or_false, Bool.false_or, Bool.or_true, Bool.true_or, c0]
    | succ m ih =>
      intro hm
      have r1 := hr m (by omega)
      have r2 := hr (m + 1) (by omega)
      have l1 := hlt m (by omega)
      have l2 := hlt (m + 1) (by omega)
      rw [nI_pm, xX12_nextOrder_7]
      unfold fdA
      by_cases z : l.getD (m + 1) 0 < l.getD m 0
      · have z' : ¬ l.getD m 0 ≤ l.getD (m + 1) 0 := by omega
        rw [if_pos z, ← ih (by omega)]
        simp (disch := omega) only [xX12_nextOrder_8, xX12_nextOrder_11, xX12_nextOrder_12, xX12_nextOrder_15, xX12_nextOrder_16, xX12_nextOrder_17, xX12_nextOrder_18, xX12_nextOrder_21, xX12_nextOrder_22, xX12_nextOrder_23, xX12_nextOrder_24, xX12_nextOrder_25, xX12_nextOrder_28, xX12_nextOrder_31, kd_123, fi_123_77, kd_165, ln_165, ↓reduceIte, gd_t, hK_p, hN_p, hF_p, hI_p, hJ_p, hR_p, stI_p, stJ_p, stR_p, stA_p, va_rf_s, va_rf_n, clr_i, clr_l, clr_r, clr_n, clr_o, w8_0, w8_1i, w8_1r, w8_2ii, w8_2ri, w8_2ir, w8_2rr, w8_3, beq_self_eq_true, Bool.and_self, Bool.and_true, Bool.true_and, decide_true, Option.toList_some, Option.toList_none, List.cons_append, List.nil_append, Option.bind_some, if_true, if_false, Nat.reduceLeDiff, Nat.reduceLT, Nat.reduceBEq, Bool.or_false, Bool.false_or, Bool.or_true, Bool.true_or, nI_leI, nI_ltI, nI_eq, nI_clamp, inb_n, up_s, up_n, bx_uu, nI_1, ix6, nI_0n, pk_us, pk_un, ge_0n, r1, r2, z']
      · have z' : l.getD m 0 ≤ l.getD (m + 1) 0 := by omega
        rw [if_neg z, nI_pm]
        simp (disch := omega) only [xX12_nextOrder_8, xX12_nextOrder_11, xX12_nextOrder_12, xX12_nextOrder_15, xX12_nextOrder_16, xX12_nextOrder_17, xX12_nextOrder_18, xX12_nextOrder_21, xX12_nextOrder_22, xX12_nextOrder_23, xX12_nextOrder_24, xX12_nextOrder_25, xX12_nextOrder_28, xX12_nextOrder_31, kd_123, fi_123_77, kd_165, ln_165, ↓reduceIte, gd_t, hK_p, hN_p, hF_p, hI_p, hJ_p, hR_p, stI_p, stJ_p, stR_p, stA_p, va_rf_s, va_rf_n, clr_i, clr_l, clr_r, clr_n, clr_o, w8_0, w8_1i, w8_1r, w8_2ii, w8_2ri, w8_2ir, w8_2rr, w8_3, beq_self_eq_true, Bool.and_self, Bool.and_true, Bool.true_and, decide_true, Option.toList_some, Option.toList_none, List.cons_append, List.nil_append, Option.bind_some, if_true, if_false, Nat.reduceLeDiff, Nat.reduceLT, Nat.reduceBEq, Bool.or_false, Bool.false_or, Bool.or_true, Bool.true_or, nI_leI, nI_ltI, nI_eq, nI_clamp, inb_n, up_s, up_n, bx_uu, nI_1, ix6, nI_0n, pk_us, pk_un, ge_0n, r1, r2, z']
  have eA := hA2 (n - 1) (Nat.le_refl _)
  have e2 : nI n - 2 = nI (n - 1) + (-1) := by
    rw [← m1p]
    have : nI (n - 1) = nI n - 1 := by rw [nI_m1 h1]
    rw [this, Int32.sub_sub]
    rfl
  have en : C (d + 2) MX12_nextOrder [.ref 123] (hp X J R) = E (C (d + 1)) MX12_nextOrder 34 [some (.ref 123), some (.int (nI (fdA l (n - 1)) + (-1))), none, none, none] [] (hp X J R) := by
    rw [eX12_nextOrder]
    simp only [xX12_nextOrder_0, xX12_nextOrder_1, xX12_nextOrder_4, xX12_nextOrder_5, xX12_nextOrder_6, kd_123, fi_123_77, kd_165, ln_165, ↓reduceIte, gd_t, hK_p, hN_p, hF_p, hI_p, hJ_p, hR_p, stI_p, stJ_p, stR_p, stA_p, va_rf_s, va_rf_n, clr_i, clr_l, clr_r, clr_n, clr_o, w8_0, w8_1i, w8_1r, w8_2ii, w8_2ri, w8_2ir, w8_2rr, w8_3, beq_self_eq_true, Bool.and_self, Bool.and_true, Bool.true_and, decide_true, Option.toList_some, Option.toList_none, List.cons_append, List.nil_append, Option.bind_some, if_true, if_false, Nat.reduceLeDiff, Nat.reduceLT, Nat.reduceBEq, Bool.or_false, Bool.false_or, Bool.or_true, Bool.true_or, hn, e2]
    exact eA
  rw [en]
  unfold nextL
  have hle := fdA_le (l := l) (n - 1)
  have hge := fdA_ge (l := l) (n - 1)
  generalize fdA l (n - 1) = K at *
  cases K with
  | zero =>
    refine ⟨X 165, ?_, hr⟩
    have c0 : ¬ (0 : Int32) ≤ nI 0 + (-1) := by decide
    rw [up_self]
    simp (disch := omega) only [xX12_nextOrder_34, xX12_nextOrder_35, xX12_nextOrder_38, xX12_nextOrder_39, kd_123, fi_123_77, kd_165, ln_165, ↓reduceIte, gd_t, hK_p, hN_p, hF_p, hI_p, hJ_p, hR_p, stI_p, stJ_p, stR_p, stA_p, va_rf_s, va_rf_n, clr_i, clr_l, clr_r, clr_n, clr_o, w8_0, w8_1i, w8_1r, w8_2ii, w8_2ri, w8_2ir, w8_2rr, w8_3, beq_self_eq_true, Bool.and_self, Bool.and_true, Bool.true_and, decide_true, Option.toList_some, Option.toList_none, List.cons_append, List.nil_append, Option.bind_some, if_true, if_false, Nat.reduceLeDiff, Nat.reduceLT, Nat.reduceBEq, Bool.or_false, Bool.false_or, Bool.or_true, Bool.true_or, c0, z01, Option.isSome_none, Bool.false_eq_true]
  | succ k =>
    dsimp only
    rw [nI_pm]
    have hk : k + 1 ≤ n - 1 := hle
    have hgk := hge k rfl
    have hW : ∀ m, m ≤ n - 1 → k + 1 ≤ m → E (C (d + 1)) MX12_nextOrder 47 [some (.ref 123), some (.int (nI k)), some (.int (nI m)), none, none] [] (hp X J R) = E (C (d + 1)) MX12_nextOrder 68 [some (.ref 123), some (.int (nI k)), some (.int (nI (fdW l k m))), none, none] [] (hp X J R) := by
      intro m
      induction m with
      | zero => intro _ hkm; omega
      | succ m ih =>
        intro hm hkm
        have r1 := hr (m + 1) (by omega)
        have r2 := hr k (by omega)
        have l1 := hlt (m + 1) (by omega)
        have l2 := hlt k (by omega)
        unfold fdW
        by_cases z : l.getD (m + 1) 0 < l.getD k 0
        · have z' : ¬ l.getD k 0 ≤ l.getD (m + 1) 0 := by omega
          have hkm2 : k + 1 ≤ m := by
            rcases Nat.lt_or_ge k m with w | w
            · exact w
            · have : m = k := by omega
              rw [this] at z
              exact absurd z hgk
          rw [if_pos ⟨by omega, z⟩, ← ih (by omega) hkm2, xX12_nextOrder_47]
          simp (disch := omega) only [xX12_nextOrder_48, xX12_nextOrder_51, xX12_nextOrder_52, xX12_nextOrder_53, xX12_nextOrder_54, xX12_nextOrder_57, xX12_nextOrder_58, xX12_nextOrder_59, xX12_nextOrder_62, xX12_nextOrder_65, kd_123, fi_123_77, kd_165, ln_165, ↓reduceIte, gd_t, hK_p, hN_p, hF_p, hI_p, hJ_p, hR_p, stI_p, stJ_p, stR_p, stA_p, va_rf_s, va_rf_n, clr_i, clr_l, clr_r, clr_n, clr_o, w8_0, w8_1i, w8_1r, w8_2ii, w8_2ri, w8_2ir, w8_2rr, w8_3, beq_self_eq_true, Bool.and_self, Bool.and_true, Bool.true_and, decide_true, Option.toList_some, Option.toList_none, List.cons_append, List.nil_append, Option.bind_some, if_true, if_false, Nat.reduceLeDiff, Nat.reduceLT, Nat.reduceBEq, Bool.or_false, Bool.false_or, Bool.or_true, Bool.true_or, nI_leI, nI_ltI, nI_eq, nI_clamp, inb_n, up_s, up_n, bx_uu, nI_1, ix6, nI_0n, pk_us, pk_un, ge_0n, r1, r2, z', nI_pm]
        · have z' : l.getD k 0 ≤ l.getD (m + 1) 0 := by omega
          rw [if_neg (fun q => z q.2), xX12_nextOrder_47]
          simp (disch := omega) only [xX12_nextOrder_48, xX12_nextOrder_51, xX12_nextOrder_52, xX12_nextOrder_53, xX12_nextOrder_54, xX12_nextOrder_57, xX12_nextOrder_58, xX12_nextOrder_59, xX12_nextOrder_62, xX12_nextOrder_65, kd_123, fi_123_77, kd_165, ln_165, ↓reduceIte, gd_t, hK_p, hN_p, hF_p, hI_p, hJ_p, hR_p, stI_p, stJ_p, stR_p, stA_p, va_rf_s, va_rf_n, clr_i, clr_l, clr_r, clr_n, clr_o, w8_0, w8_1i, w8_1r, w8_2ii, w8_2ri, w8_2ir, w8_2rr, w8_3, beq_self_eq_true, Bool.and_self, Bool.and_true, Bool.true_and, decide_true, Option.toList_some, Option.toList_none, List.cons_append, List.nil_append, Option.bind_some, if_true, if_false, Nat.reduceLeDiff, Nat.reduceLT, Nat.reduceBEq, Bool.or_false, Bool.false_or, Bool.or_true, Bool.true_or, nI_leI, nI_ltI, nI_eq, nI_clamp, inb_n, up_s, up_n, bx_uu, nI_1, ix6, nI_0n, pk_us, pk_un, ge_0n, r1, r2, z']
    have eW := hW (n - 1) (Nat.le_refl _) hk
    have hWn := fdW_le (l := l) (a := k) (n - 1)
    generalize fdW l k (n - 1) = W at *
    have eS := trn_m (d := d) (i := k) (j := W) (X := X) (J := J) (R := R) (by omega) (by omega)
    have hRs := rowL_sw hr (i := k) (j := W) (by omega) (by omega)
    have hV : ∀ (f : Nat) (r : Nat → Int32) (l : List Nat) (lo hi : Nat), l.length = n → rowL r l → 1 ≤ lo → lo ≤ n → hi < n → hi + 1 ≤ lo + 2 * f → ∃ r' lo' hi', E (C (d + 1)) MX12_nextOrder 86 [some (.ref 123), some (.int (nI k)), some (.int (nI W)), some (.int (nI lo)), some (.int (nI hi))] [] (hp (va_up X 165 r) J R) = E (C (d + 1)) MX12_nextOrder 108 [some (.ref 123), some (.int (nI k)), some (.int (nI W)), some (.int lo'), some (.int hi')] [] (hp (va_up X 165 r') J R) ∧ rowL r' (rvL f l lo hi) := by
      intro f
      induction f with
      | zero =>
        intro r l lo hi hl hr h1 h2 h3 h4
        have c0 : hi ≤ lo := by omega
        refine ⟨r, nI lo, nI hi, ?_, hr⟩
        rw [xX12_nextOrder_86]
        simp (disch := omega) only [xX12_nextOrder_87, xX12_nextOrder_89, xX12_nextOrder_92, xX12_nextOrder_93, xX12_nextOrder_94, xX12_nextOrder_96, xX12_nextOrder_99, xX12_nextOrder_102, xX12_nextOrder_105, kd_123, fi_123_77, kd_165, ln_165, ↓reduceIte, gd_t, hK_p, hN_p, hF_p, hI_p, hJ_p, hR_p, stI_p, stJ_p, stR_p, stA_p, va_rf_s, va_rf_n, clr_i, clr_l, clr_r, clr_n, clr_o, w8_0, w8_1i, w8_1r, w8_2ii, w8_2ri, w8_2ir, w8_2rr, w8_3, beq_self_eq_true, Bool.and_self, Bool.and_true, Bool.true_and, decide_true, Option.toList_some, Option.toList_none, List.cons_append, List.nil_append, Option.bind_some, if_true, if_false, Nat.reduceLeDiff, Nat.reduceLT, Nat.reduceBEq, Bool.or_false, Bool.false_or, Bool.or_true, Bool.true_or, nI_leI, nI_ltI, nI_eq, nI_clamp, inb_n, up_s, up_n, bx_uu, nI_1, ix6, nI_0n, pk_us, pk_un, ge_0n, c0]
      | succ f ih =>
        intro r l lo hi hl hr h1 h2 h3 h4
        unfold rvL
        by_cases z : lo < hi
        · have c0 : ¬ hi ≤ lo := by omega
          rw [if_pos z]
          obtain ⟨hi', rfl⟩ : ∃ q, hi = q + 1 := ⟨hi - 1, by omega⟩
          have es := trn_m (d := d) (i := lo) (j := hi' + 1) (X := va_up X 165 r) (J := J) (R := R) (by omega) (by omega)
          rw [up_s, bx_uu] at es
          have hRs := rowL_sw hr (i := lo) (j := hi' + 1) (by omega) (by omega)
          obtain ⟨r', lo', hi'', e, hR'⟩ := ih _ (swL l lo (hi' + 1)) (lo + 1) hi' (by rw [swL_len]; exact hl) hRs (by omega) (by omega) (by omega) (by omega)
          refine ⟨r', lo', hi'', ?_, hR'⟩
          rw [← e, xX12_nextOrder_86]
          simp (disch := omega) only [xX12_nextOrder_87, xX12_nextOrder_89, xX12_nextOrder_92, xX12_nextOrder_93, xX12_nextOrder_94, xX12_nextOrder_96, xX12_nextOrder_99, xX12_nextOrder_102, xX12_nextOrder_105, kd_123, fi_123_77, kd_165, ln_165, kd_123, ↓reduceIte, gd_t, hK_p, hN_p, hF_p, hI_p, hJ_p, hR_p, stI_p, stJ_p, stR_p, stA_p, va_rf_s, va_rf_n, clr_i, clr_l, clr_r, clr_n, clr_o, w8_0, w8_1i, w8_1r, w8_2ii, w8_2ri, w8_2ir, w8_2rr, w8_3, beq_self_eq_true, Bool.and_self, Bool.and_true, Bool.true_and, decide_true, Option.toList_some, Option.toList_none, List.cons_append, List.nil_append, Option.bind_some, if_true, if_false, Nat.reduceLeDiff, Nat.reduceLT, Nat.reduceBEq, Bool.or_false, Bool.false_or, Bool.or_true, Bool.true_or, nI_leI, nI_ltI, nI_eq, nI_clamp, inb_n, up_s, up_n, bx_uu, nI_1, ix6, nI_0n, pk_us, pk_un, ge_0n, c0, es, nI_pm]
        · have c0 : hi ≤ lo := by omega
          rw [if_neg z]
          refine ⟨r, nI lo, nI hi, ?_, hr⟩
          rw [xX12_nextOrder_86]
          simp (disch := omega) only [xX12_nextOrder_87, xX12_nextOrder_89, xX12_nextOrder_92, xX12_nextOrder_93, xX12_nextOrder_94, xX12_nextOrder_96, xX12_nextOrder_99, xX12_nextOrder_102, xX12_nextOrder_105, kd_123, fi_123_77, kd_165, ln_165, ↓reduceIte, gd_t, hK_p, hN_p, hF_p, hI_p, hJ_p, hR_p, stI_p, stJ_p, stR_p, stA_p, va_rf_s, va_rf_n, clr_i, clr_l, clr_r, clr_n, clr_o, w8_0, w8_1i, w8_1r, w8_2ii, w8_2ri, w8_2ir, w8_2rr, w8_3, beq_self_eq_true, Bool.and_self, Bool.and_true, Bool.true_and, decide_true, Option.toList_some, Option.toList_none, List.cons_append, List.nil_append, Option.bind_some, if_true, if_false, Nat.reduceLeDiff, Nat.reduceLT, Nat.reduceBEq, Bool.or_false, Bool.false_or, Bool.or_true, Bool.true_or, nI_leI, nI_ltI, nI_eq, nI_clamp, inb_n, up_s, up_n, bx_uu, nI_1, ix6, nI_0n, pk_us, pk_un, ge_0n, c0]
    obtain ⟨r', lo', hi', eV, hRV⟩ := hV 6 _ (swL l k W) (k + 1) (n - 1) (by rw [swL_len]; exact hl) hRs (by omega) (by omega) (by omega) (by omega)
    refine ⟨r', ?_, hRV⟩
    have c0 : (0 : Int32) ≤ nI k := nI_pos' (by omega)
    have en1 : nI n - 1 = nI (n - 1) := nI_m1 h1
    simp (disch := omega) only [xX12_nextOrder_34, xX12_nextOrder_35, xX12_nextOrder_38, xX12_nextOrder_39, xX12_nextOrder_40, xX12_nextOrder_41, xX12_nextOrder_44, xX12_nextOrder_45, xX12_nextOrder_46, kd_123, fi_123_77, kd_165, ln_165, ↓reduceIte, gd_t, hK_p, hN_p, hF_p, hI_p, hJ_p, hR_p, stI_p, stJ_p, stR_p, stA_p, va_rf_s, va_rf_n, clr_i, clr_l, clr_r, clr_n, clr_o, w8_0, w8_1i, w8_1r, w8_2ii, w8_2ri, w8_2ir, w8_2rr, w8_3, beq_self_eq_true, Bool.and_self, Bool.and_true, Bool.true_and, decide_true, Option.toList_some, Option.toList_none, List.cons_append, List.nil_append, Option.bind_some, if_true, if_false, Nat.reduceLeDiff, Nat.reduceLT, Nat.reduceBEq, Bool.or_false, Bool.false_or, Bool.or_true, Bool.true_or, c0, hn, en1]
    rw [eW]
    have hn' : va_up X 165 (upd (upd (X 165) k (X 165 W)) W (X 165 k)) 123 13 = nI n := by rw [up_n (by decide)]; exact hn
    simp (disch := omega) only [xX12_nextOrder_68, xX12_nextOrder_69, xX12_nextOrder_70, xX12_nextOrder_71, xX12_nextOrder_74, xX12_nextOrder_75, xX12_nextOrder_76, xX12_nextOrder_77, xX12_nextOrder_78, xX12_nextOrder_79, xX12_nextOrder_82, xX12_nextOrder_83, xX12_nextOrder_84, kd_123, fi_123_77, kd_165, ln_165, kd_123, ↓reduceIte, gd_t, hK_p, hN_p, hF_p, hI_p, hJ_p, hR_p, stI_p, stJ_p, stR_p, stA_p, va_rf_s, va_rf_n, clr_i, clr_l, clr_r, clr_n, clr_o, w8_0, w8_1i, w8_1r, w8_2ii, w8_2ri, w8_2ir, w8_2rr, w8_3, beq_self_eq_true, Bool.and_self, Bool.and_true, Bool.true_and, decide_true, Option.toList_some, Option.toList_none, List.cons_append, List.nil_append, Option.bind_some, if_true, if_false, Nat.reduceLeDiff, Nat.reduceLT, Nat.reduceBEq, Bool.or_false, Bool.false_or, Bool.or_true, Bool.true_or, nI_leI, nI_ltI, nI_eq, nI_clamp, inb_n, up_s, up_n, bx_uu, nI_1, ix6, nI_0n, pk_us, pk_un, ge_0n, eS, hn, en1]
    rw [eV]
    simp (disch := omega) only [xX12_nextOrder_108, xX12_nextOrder_109, kd_123, fi_123_77, kd_165, ln_165, ↓reduceIte, gd_t, hK_p, hN_p, hF_p, hI_p, hJ_p, hR_p, stI_p, stJ_p, stR_p, stA_p, va_rf_s, va_rf_n, clr_i, clr_l, clr_r, clr_n, clr_o, w8_0, w8_1i, w8_1r, w8_2ii, w8_2ri, w8_2ir, w8_2rr, w8_3, beq_self_eq_true, Bool.and_self, Bool.and_true, Bool.true_and, decide_true, Option.toList_some, Option.toList_none, List.cons_append, List.nil_append, Option.bind_some, if_true, if_false, Nat.reduceLeDiff, Nat.reduceLT, Nat.reduceBEq, Bool.or_false, Bool.false_or, Bool.or_true, Bool.true_or, z11, Option.isSome_some]
-- from which step on
def fsN (tg : Nat → Int32) : Nat → Nat → Option Nat → Option Nat
  | 0, _, s => s
  | q + 1, j, s => fsN tg q (j + 1) (if tg j = 0 then none else match s with
    | none => some j
    | some x => some x)
theorem fsN_ge {tg : Nat → Int32} : ∀ (q j : Nat) (s : Option Nat) (f m : Nat), m ≤ j → (∀ x, s = some x → m ≤ x) → fsN tg q j s = some f → m ≤ f
  | 0, _, s, f, m, _, hs, h => hs f h
  | q + 1, j, s, f, m, hm, hs, h => by
    unfold fsN at h
    refine fsN_ge q (j + 1) _ f m (by omega) ?_ h
    intro x hx
    split at hx
    · cases hx
    · split at hx
      · cases hx; exact hm
      · cases hx; exact hs _ rfl
theorem fsN_lt {tg : Nat → Int32} : ∀ (q j : Nat) (s : Option Nat) (f : Nat), (∀ x, s = some x → x < j + q) → fsN tg q j s = some f → f < j + q
  | 0, j, s, f, hs, h => hs f h
  | q + 1, j, s, f, hs, h => by
    unfold fsN at h
    have := fsN_lt q (j + 1) _ f ?_ h
    · omega
    intro x hx
    split at hx
    · cases hx
    · split at hx
      · cases hx; omega
      · cases hx; have := hs _ rfl; omega
theorem fsN_cong {tg tg' : Nat → Int32} : ∀ (q j : Nat) (s : Option Nat), (∀ i, i < j + q → tg i = tg' i) → fsN tg q j s = fsN tg' q j s
  | 0, _, _, _ => rfl
  | q + 1, j, s, h => by
    unfold fsN
    rw [h j (by omega)]
    exact fsN_cong q (j + 1) _ (fun i hi => h i (by omega))
/-- together at no end ahead of S: not from ahead of S on -/
theorem fsN_low {tg : Nat → Int32} {S : Nat} (hS : ∀ j, j < S → tg j = 0) : ∀ (q j : Nat) (s : Option Nat) (f : Nat), (∀ x, s = some x → S ≤ x) → fsN tg q j s = some f → S ≤ f
  | 0, _, s, f, hs, h => hs f h
  | q + 1, j, s, f, hs, h => by
    unfold fsN at h
    refine fsN_low hS q (j + 1) _ f ?_ h
    intro x hx
    split at hx
    · cases hx
    · next hz =>
      split at hx
      · cases hx
        rcases Nat.lt_or_ge j S with w | w
        · exact absurd (hS j w) hz
        · exact w
      · cases hx; exact hs _ rfl

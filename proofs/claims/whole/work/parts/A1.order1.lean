-- ORDER, 1: the next order, by lists
def swL (l : List Nat) (i j : Nat) : List Nat := (l.set i (l.getD j 0)).set j (l.getD i 0)
def fdA (l : List Nat) : Nat → Nat
  | 0 => 0
  | k + 1 => if l.getD (k + 1) 0 < l.getD k 0 then fdA l k else k + 1
def fdW (l : List Nat) (a : Nat) : Nat → Nat
  | 0 => 0
  | k + 1 => if a < k + 1 ∧ l.getD (k + 1) 0 < l.getD a 0 then fdW l a k else k + 1
def rvL : Nat → List Nat → Nat → Nat → List Nat
  | 0, l, _, _ => l
  | f + 1, l, lo, hi => if lo < hi then rvL f (swL l lo hi) (lo + 1) (hi - 1) else l
def nextL (n : Nat) (l : List Nat) : Option (List Nat) := match fdA l (n - 1) with
  | 0 => none
  | k + 1 => some (rvL 6 (swL l k (fdW l k (n - 1))) (k + 1) (n - 1))
def goodL (n : Nat) (l : List Nat) : Bool := decide (l.length = n) && l.all (fun x => decide (x < n)) && (List.range n).all (fun c => l.contains c)
def okS (n : Nat) : Nat → List Nat → Bool
  | 0, l => goodL n l && (nextL n l).isNone
  | f + 1, l => goodL n l && (match nextL n l with
    | none => true
    | some l' => okS n f l')
theorem okS_all : ∀ n, n ≤ 6 → okS n 719 (List.range n) = true := by decide +kernel
/-- a row that holds a list -/
def rowL (r : Nat → Int32) (l : List Nat) : Prop := ∀ i, i < l.length → r i = nI (l.getD i 0)
theorem goodL_len {n : Nat} {l : List Nat} (h : goodL n l = true) : l.length = n := by
  unfold goodL at h
  simp only [Bool.and_eq_true, decide_eq_true_eq] at h
  exact h.1.1
theorem goodL_lt {n : Nat} {l : List Nat} (h : goodL n l = true) {i : Nat} (hi : i < n) : l.getD i 0 < n := by
  have hl := goodL_len h
  unfold goodL at h
  simp only [Bool.and_eq_true, decide_eq_true_eq, List.all_eq_true] at h
  have : l.getD i 0 ∈ l := by
    rw [List.getD_eq_getElem?_getD, List.getElem?_eq_getElem (by omega)]
    exact List.getElem_mem _
  exact h.1.2 _ this
theorem goodL_mem {n : Nat} {l : List Nat} (h : goodL n l = true) {c : Nat} (hc : c < n) : ∃ i, i < n ∧ l.getD i 0 = c := by
  have hl := goodL_len h
  unfold goodL at h
  simp only [Bool.and_eq_true, decide_eq_true_eq, List.all_eq_true] at h
  have hm := h.2 c (List.mem_range.mpr hc)
  rw [List.contains_iff_mem] at hm
  obtain ⟨i, hi, e⟩ := List.getElem_of_mem hm
  exact ⟨i, by omega, by rw [List.getD_eq_getElem?_getD, List.getElem?_eq_getElem hi]; exact e⟩
theorem swL_len {l : List Nat} {i j : Nat} : (swL l i j).length = l.length := by
  unfold swL
  rw [List.length_set, List.length_set]
theorem swL_at {l : List Nat} {i j k : Nat} (hi : i < l.length) (hj : j < l.length) (hk : k < l.length) : (swL l i j).getD k 0 = if k = j then l.getD i 0 else if k = i then l.getD j 0 else l.getD k 0 := by
  unfold swL
  simp only [List.getD_eq_getElem?_getD, List.getElem?_set, List.length_set]
  by_cases h1 : k = j
  · subst h1
    simp [hj]
  · rw [if_neg (fun q => h1 q.symm), if_neg h1]
    by_cases h2 : k = i
    · subst h2
      simp [hi]
    · rw [if_neg (fun q => h2 q.symm), if_neg h2]
theorem rowL_sw {r : Nat → Int32} {l : List Nat} {i j : Nat} (h : rowL r l) (hi : i < l.length) (hj : j < l.length) : rowL (upd (upd r i (r j)) j (r i)) (swL l i j) := by
  intro k hk
  rw [swL_len] at hk
  rw [swL_at hi hj hk]
  by_cases h1 : k = j
  · rw [if_pos h1, h1, pk_us]; exact h i hi
  · rw [if_neg h1, pk_un h1]
    by_cases h2 : k = i
    · rw [if_pos h2, h2, pk_us]; exact h j hj
    · rw [if_neg h2, pk_un h2]; exact h k hk
def belL (m : Nat) (l : List Nat) : Prop := ∀ i, i < l.length → l.getD i 0 < m
theorem belL_sw {m : Nat} {l : List Nat} {i j : Nat} (h : belL m l) (hi : i < l.length) (hj : j < l.length) : belL m (swL l i j) := by
  intro k hk
  rw [swL_len] at hk
  rw [swL_at hi hj hk]
  split
  · exact h i hi
  · split
    · exact h j hj
    · exact h k hk
theorem fdA_le {l : List Nat} : ∀ m, fdA l m ≤ m
  | 0 => Nat.le_refl 0
  | k + 1 => by
    unfold fdA
    split
    · have := fdA_le (l := l) k; omega
    · exact Nat.le_refl _
theorem fdA_ge {l : List Nat} : ∀ m k, fdA l m = k + 1 → ¬ l.getD (k + 1) 0 < l.getD k 0
  | 0, k, h => by unfold fdA at h; omega
  | m + 1, k, h => by
    unfold fdA at h
    split at h
    · exact fdA_ge m k h
    · next hn =>
      have : m = k := by omega
      subst this
      exact hn
theorem fdW_le {l : List Nat} {a : Nat} : ∀ m, fdW l a m ≤ m
  | 0 => Nat.le_refl 0
  | k + 1 => by
    unfold fdW
    split
    · have := fdW_le (l := l) (a := a) k; omega
    · exact Nat.le_refl _
theorem rvL_len : ∀ (f : Nat) (l : List Nat) (lo hi : Nat), (rvL f l lo hi).length = l.length
  | 0, _, _, _ => rfl
  | f + 1, l, lo, hi => by
    unfold rvL
    split
    · rw [rvL_len f, swL_len]
    · rfl
-- the class
theorem swp_c {d i j : Nat} {X : Mem} {J : MemL} {R : MemR} (hi : i < 6) (hj : j < 6) : C (d + 1) MX6_swap [.ref 117, .int (nI i), .int (nI j)] (hp X J R) = some (none, hp (va_up X 118 (upd (upd (X 118) i (X 118 j)) j (X 118 i))) J R) := by
  rw [eX6_swap]
  simp (disch := omega) only [xX6_swap_0, xX6_swap_1, xX6_swap_4, xX6_swap_5, xX6_swap_6, xX6_swap_7, xX6_swap_8, xX6_swap_11, xX6_swap_12, xX6_swap_13, xX6_swap_16, xX6_swap_17, xX6_swap_18, xX6_swap_19, xX6_swap_20, xX6_swap_23, xX6_swap_24, xX6_swap_25, xX6_swap_26, kd_117, fi_117_1, kd_118, ln_118, ↓reduceIte, gd_t, hK_p, hN_p, hF_p, hI_p, hJ_p, hR_p, stI_p, stJ_p, stR_p, stA_p, va_rf_s, va_rf_n, clr_i, clr_l, clr_r, clr_n, clr_o, w8_0, w8_1i, w8_1r, w8_2ii, w8_2ri, w8_2ir, w8_2rr, w8_3, beq_self_eq_true, Bool.and_self, Bool.and_true, Bool.true_and, decide_true, Option.toList_some, Option.toList_none, List.cons_append, List.nil_append, Option.bind_some, if_true, if_false, Nat.reduceLeDiff, Nat.reduceLT, Nat.reduceBEq, Bool.or_false, Bool.false_or, Bool.or_true, Bool.true_or, nI_leI, nI_ltI, nI_eq, nI_clamp, inb_n, up_s, up_n, bx_uu, nI_1, ix6, nI_0n, pk_us, pk_un, ge_0n]
theorem m1p (k : Nat) : nI k - 1 = nI k + (-1) := Int32.sub_eq_add_neg ..
theorem nxl_c {d n : Nat} {X : Mem} {J : MemL} {R : MemR} {l : List Nat} (hl : l.length = n) (h6 : n ≤ 6) (h1 : 1 ≤ n) (hr : rowL (X 118) l) (hlt : belL 6 l) : ∃ r', C (d + 2) MX6_nextLine [.ref 117, .int (nI n)] (hp X J R) = some (some (.int (if (nextL n l).isSome = true then 1 else 0)), hp (va_up X 118 r') J R) ∧ rowL r' ((nextL n l).getD l) := by
  -- down to the place
  have hA := for_d (P := fun k (_ : Unit) => E (C (d + 1)) MX6_nextLine 4 [some (.ref 117), some (.int (nI n)), some (.int (nI k + (-1))), none, none, none] [] (hp X J R)) (fin := fun _ => E (C (d + 1)) MX6_nextLine 31 [some (.ref 117), some (.int (nI n)), some (.int (nI 0 + (-1))), none, none, none] [] (hp X J R)) (f := fun _ s => s) (n := 0) (fun k s hk => absurd hk (by omega)) (by
    intro s
    have c0 : nI 0 + (-1) < (0 : Int32) := by decide
    rw [xX6_nextLine_4]
    simp (disch := omega) only [xX6_nextLine_5, xX6_nextLine_8, xX6_nextLine_9, xX6_nextLine_12, xX6_nextLine_13, xX6_nextLine_14, xX6_nextLine_15, xX6_nextLine_18, xX6_nextLine_19, xX6_nextLine_20, xX6_nextLine_21, xX6_nextLine_22, xX6_nextLine_25, xX6_nextLine_28, kd_117, fi_117_1, kd_118, ln_118, ↓reduceIte, gd_t, hK_p, hN_p, hF_p, hI_p, hJ_p, hR_p, stI_p, stJ_p, stR_p, stA_p, va_rf_s, va_rf_n, clr_i, clr_l, clr_r, clr_n, clr_o, w8_0, w8_1i, w8_1r, w8_2ii, w8_2ri, w8_2ir, w8_2rr, w8_3, beq_self_eq_true, Bool.and_self, Bool.and_true, Bool.true_and, decide_true, Option.toList_some, Option.toList_none, List.cons_append, List.nil_append, Option.bind_some, if_true, if_false, Nat.reduceLeDiff, Nat.reduceLT, Nat.reduceBEq, Bool.or_false, Bool.false_or, Bool.or_true, Bool.true_or, c0])
  have hA2 : ∀ m, m ≤ n - 1 → E (C (d + 1)) MX6_nextLine 4 [some (.ref 117), some (.int (nI n)), some (.int (nI m + (-1))), none, none, none] [] (hp X J R) = E (C (d + 1)) MX6_nextLine 31 [some (.ref 117), some (.int (nI n)), some (.int (nI (fdA l m) + (-1))), none, none, none] [] (hp X J R) := by
    intro m
    induction m with
    | zero => intro _; exact hA 0 () (Nat.le_refl 0)
    | succ m ih =>
      intro hm
      have r1 := hr m (by omega)
      have r2 := hr (m + 1) (by omega)
      have l1 := hlt m (by omega)
      have l2 := hlt (m + 1) (by omega)
      rw [nI_pm, xX6_nextLine_4]
      unfold fdA
      by_cases z : l.getD (m + 1) 0 < l.getD m 0
      · have z' : ¬ l.getD m 0 ≤ l.getD (m + 1) 0 := by omega
        rw [if_pos z, ← ih (by omega)]
        simp (disch := omega) only [xX6_nextLine_5, xX6_nextLine_8, xX6_nextLine_9, xX6_nextLine_12, xX6_nextLine_13, xX6_nextLine_14, xX6_nextLine_15, xX6_nextLine_18, xX6_nextLine_19, xX6_nextLine_20, xX6_nextLine_21, xX6_nextLine_22, xX6_nextLine_25, xX6_nextLine_28, kd_117, fi_117_1, kd_118, ln_118, ↓reduceIte, gd_t, hK_p, hN_p, hF_p, hI_p, hJ_p, hR_p, stI_p, stJ_p, stR_p, stA_p, va_rf_s, va_rf_n, clr_i, clr_l, clr_r, clr_n, clr_o, w8_0, w8_1i, w8_1r, w8_2ii, w8_2ri, w8_2ir, w8_2rr, w8_3, beq_self_eq_true, Bool.and_self, Bool.and_true, Bool.true_and, decide_true, Option.toList_some, Option.toList_none, List.cons_append, List.nil_append, Option.bind_some, if_true, if_false, Nat.reduceLeDiff, Nat.reduceLT, Nat.reduceBEq, Bool.or_false, Bool.false_or, Bool.or_true, Bool.true_or, nI_leI, nI_ltI, nI_eq, nI_clamp, inb_n, up_s, up_n, bx_uu, nI_1, ix6, nI_0n, pk_us, pk_un, ge_0n, r1, r2, z']
      · have z' : l.getD m 0 ≤ l.getD (m + 1) 0 := by omega
        rw [if_neg z, nI_pm]
        simp (disch := omega) only [xX6_nextLine_5, xX6_nextLine_8, xX6_nextLine_9, xX6_nextLine_12, xX6_nextLine_13, xX6_nextLine_14, xX6_nextLine_15, xX6_nextLine_18, xX6_nextLine_19, xX6_nextLine_20, xX6_nextLine_21, xX6_nextLine_22, xX6_nextLine_25, xX6_nextLine_28, kd_117, fi_117_1, kd_118, ln_118, ↓reduceIte, gd_t, hK_p, hN_p, hF_p, hI_p, hJ_p, hR_p, stI_p, stJ_p, stR_p, stA_p, va_rf_s, va_rf_n, clr_i, clr_l, clr_r, clr_n, clr_o, w8_0, w8_1i, w8_1r, w8_2ii, w8_2ri, w8_2ir, w8_2rr, w8_3, beq_self_eq_true, Bool.and_self, Bool.and_true, Bool.true_and, decide_true, Option.toList_some, Option.toList_none, List.cons_append, List.nil_append, Option.bind_some, if_true, if_false, Nat.reduceLeDiff, Nat.reduceLT, Nat.reduceBEq, Bool.or_false, Bool.false_or, Bool.or_true, Bool.true_or, nI_leI, nI_ltI, nI_eq, nI_clamp, inb_n, up_s, up_n, bx_uu, nI_1, ix6, nI_0n, pk_us, pk_un, ge_0n, r1, r2, z']
  have eA := hA2 (n - 1) (Nat.le_refl _)
  have e2 : nI n - 2 = nI (n - 1) + (-1) := by
    rw [← m1p]
    have : nI (n - 1) = nI n - 1 := by rw [nI_m1 h1]
    rw [this, Int32.sub_sub]
    rfl
  have en : C (d + 2) MX6_nextLine [.ref 117, .int (nI n)] (hp X J R) = E (C (d + 1)) MX6_nextLine 31 [some (.ref 117), some (.int (nI n)), some (.int (nI (fdA l (n - 1)) + (-1))), none, none, none] [] (hp X J R) := by
    rw [eX6_nextLine]
    simp only [xX6_nextLine_0, xX6_nextLine_1, xX6_nextLine_2, xX6_nextLine_3, ↓reduceIte, gd_t, hK_p, hN_p, hF_p, hI_p, hJ_p, hR_p, stI_p, stJ_p, stR_p, stA_p, va_rf_s, va_rf_n, clr_i, clr_l, clr_r, clr_n, clr_o, w8_0, w8_1i, w8_1r, w8_2ii, w8_2ri, w8_2ir, w8_2rr, w8_3, beq_self_eq_true, Bool.and_self, Bool.and_true, Bool.true_and, decide_true, Option.toList_some, Option.toList_none, List.cons_append, List.nil_append, Option.bind_some, if_true, if_false, Nat.reduceLeDiff, Nat.reduceLT, Nat.reduceBEq, Bool.or_false, Bool.false_or, Bool.or_true, Bool.true_or, e2]
    exact eA
  rw [en]
  unfold nextL
  have hle := fdA_le (l := l) (n - 1)
  have hge := fdA_ge (l := l) (n - 1)
  generalize fdA l (n - 1) = K at *
  cases K with
  | zero =>
    refine ⟨X 118, ?_, hr⟩
    have c0 : ¬ (0 : Int32) ≤ nI 0 + (-1) := by decide
    rw [up_self]
    simp (disch := omega) only [xX6_nextLine_31, xX6_nextLine_32, xX6_nextLine_35, xX6_nextLine_36, kd_117, fi_117_1, kd_118, ln_118, ↓reduceIte, gd_t, hK_p, hN_p, hF_p, hI_p, hJ_p, hR_p, stI_p, stJ_p, stR_p, stA_p, va_rf_s, va_rf_n, clr_i, clr_l, clr_r, clr_n, clr_o, w8_0, w8_1i, w8_1r, w8_2ii, w8_2ri, w8_2ir, w8_2rr, w8_3, beq_self_eq_true, Bool.and_self, Bool.and_true, Bool.true_and, decide_true, Option.toList_some, Option.toList_none, List.cons_append, List.nil_append, Option.bind_some, if_true, if_false, Nat.reduceLeDiff, Nat.reduceLT, Nat.reduceBEq, Bool.or_false, Bool.false_or, Bool.or_true, Bool.true_or, c0, z01, Option.isSome_none, Bool.false_eq_true]
  | succ k =>
    dsimp only
    rw [nI_pm]
    have hk : k + 1 ≤ n - 1 := hle
    -- down to the one to change with
    have hW : ∀ m, m ≤ n - 1 → k ≤ m → E (C (d + 1)) MX6_nextLine 41 [some (.ref 117), some (.int (nI n)), some (.int (nI k)), some (.int (nI m)), none, none] [] (hp X J R) = E (C (d + 1)) MX6_nextLine 67 [some (.ref 117), some (.int (nI n)), some (.int (nI k)), some (.int (nI (fdW l k m))), none, none] [] (hp X J R) ∧ k ≤ fdW l k m := by
      intro m
      induction m with
      | zero =>
        intro _ hkm
        have c0 : (0 : Nat) ≤ k := by omega
        refine ⟨?_, by unfold fdW; exact hkm⟩
        unfold fdW
        rw [xX6_nextLine_41]
        simp (disch := omega) only [xX6_nextLine_42, xX6_nextLine_43, xX6_nextLine_46, xX6_nextLine_47, xX6_nextLine_50, xX6_nextLine_51, xX6_nextLine_52, xX6_nextLine_53, xX6_nextLine_56, xX6_nextLine_57, xX6_nextLine_58, xX6_nextLine_61, xX6_nextLine_64, kd_117, fi_117_1, kd_118, ln_118, ↓reduceIte, gd_t, hK_p, hN_p, hF_p, hI_p, hJ_p, hR_p, stI_p, stJ_p, stR_p, stA_p, va_rf_s, va_rf_n, clr_i, clr_l, clr_r, clr_n, clr_o, w8_0, w8_1i, w8_1r, w8_2ii, w8_2ri, w8_2ir, w8_2rr, w8_3, beq_self_eq_true, Bool.and_self, Bool.and_true, Bool.true_and, decide_true, Option.toList_some, Option.toList_none, List.cons_append, List.nil_append, Option.bind_some, if_true, if_false, Nat.reduceLeDiff, Nat.reduceLT, Nat.reduceBEq, Bool.or_false, Bool.false_or, Bool.or_true, Bool.true_or, nI_leI, nI_ltI, nI_eq, nI_clamp, inb_n, up_s, up_n, bx_uu, nI_1, ix6, nI_0n, pk_us, pk_un, ge_0n, c0]
      | succ m ih =>
        intro hm hkm
        have r1 := hr (m + 1) (by omega)
        have r2 := hr k (by omega)
        have l1 := hlt (m + 1) (by omega)
        have l2 := hlt k (by omega)
        unfold fdW
        by_cases z0 : k < m + 1
        · have c0 : ¬ m + 1 ≤ k := by omega
          by_cases z : l.getD (m + 1) 0 < l.getD k 0
          · have z' : ¬ l.getD k 0 ≤ l.getD (m + 1) 0 := by omega
            rw [if_pos ⟨z0, z⟩, ← (ih (by omega) (by omega)).1]
            refine ⟨?_, (ih (by omega) (by omega)).2⟩
            rw [xX6_nextLine_41]
            simp (disch := omega) only [xX6_nextLine_42, xX6_nextLine_43, xX6_nextLine_46, xX6_nextLine_47, xX6_nextLine_50, xX6_nextLine_51, xX6_nextLine_52, xX6_nextLine_53, xX6_nextLine_56, xX6_nextLine_57, xX6_nextLine_58, xX6_nextLine_61, xX6_nextLine_64, kd_117, fi_117_1, kd_118, ln_118, ↓reduceIte, gd_t, hK_p, hN_p, hF_p, hI_p, hJ_p, hR_p, stI_p, stJ_p, stR_p, stA_p, va_rf_s, va_rf_n, clr_i, clr_l, clr_r, clr_n, clr_o, w8_0, w8_1i, w8_1r, w8_2ii, w8_2ri, w8_2ir, w8_2rr, w8_3, beq_self_eq_true, Bool.and_self, Bool.and_true, Bool.true_and, decide_true, Option.toList_some, Option.toList_none, List.cons_append, List.nil_append, Option.bind_some, if_true, if_false, Nat.reduceLeDiff, Nat.reduceLT, Nat.reduceBEq, Bool.or_false, Bool.false_or, Bool.or_true, Bool.true_or, nI_leI, nI_ltI, nI_eq, nI_clamp, inb_n, up_s, up_n, bx_uu, nI_1, ix6, nI_0n, pk_us, pk_un, ge_0n, r1, r2, c0, z', nI_pm]
          · have z' : l.getD k 0 ≤ l.getD (m + 1) 0 := by omega
            rw [if_neg (fun q => z q.2)]
            refine ⟨?_, hkm⟩
            rw [xX6_nextLine_41]
            simp (disch := omega) only [xX6_nextLine_42, xX6_nextLine_43, xX6_nextLine_46, xX6_nextLine_47, xX6_nextLine_50, xX6_nextLine_51, xX6_nextLine_52, xX6_nextLine_53, xX6_nextLine_56, xX6_nextLine_57, xX6_nextLine_58, xX6_nextLine_61, xX6_nextLine_64, kd_117, fi_117_1, kd_118, ln_118, ↓reduceIte, gd_t, hK_p, hN_p, hF_p, hI_p, hJ_p, hR_p, stI_p, stJ_p, stR_p, stA_p, va_rf_s, va_rf_n, clr_i, clr_l, clr_r, clr_n, clr_o, w8_0, w8_1i, w8_1r, w8_2ii, w8_2ri, w8_2ir, w8_2rr, w8_3, beq_self_eq_true, Bool.and_self, Bool.and_true, Bool.true_and, decide_true, Option.toList_some, Option.toList_none, List.cons_append, List.nil_append, Option.bind_some, if_true, if_false, Nat.reduceLeDiff, Nat.reduceLT, Nat.reduceBEq, Bool.or_false, Bool.false_or, Bool.or_true, Bool.true_or, nI_leI, nI_ltI, nI_eq, nI_clamp, inb_n, up_s, up_n, bx_uu, nI_1, ix6, nI_0n, pk_us, pk_un, ge_0n, r1, r2, c0, z']
        · have c0 : m + 1 ≤ k := by omega
          rw [if_neg (fun q => z0 q.1)]
          refine ⟨?_, hkm⟩
          rw [xX6_nextLine_41]
          simp (disch := omega) only [xX6_nextLine_42, xX6_nextLine_43, xX6_nextLine_46, xX6_nextLine_47, xX6_nextLine_50, xX6_nextLine_51, xX6_nextLine_52, xX6_nextLine_53, xX6_nextLine_56, xX6_nextLine_57, xX6_nextLine_58, xX6_nextLine_61, xX6_nextLine_64, kd_117, fi_117_1, kd_118, ln_118, ↓reduceIte, gd_t, hK_p, hN_p, hF_p, hI_p, hJ_p, hR_p, stI_p, stJ_p, stR_p, stA_p, va_rf_s, va_rf_n, clr_i, clr_l, clr_r, clr_n, clr_o, w8_0, w8_1i, w8_1r, w8_2ii, w8_2ri, w8_2ir, w8_2rr, w8_3, beq_self_eq_true, Bool.and_self, Bool.and_true, Bool.true_and, decide_true, Option.toList_some, Option.toList_none, List.cons_append, List.nil_append, Option.bind_some, if_true, if_false, Nat.reduceLeDiff, Nat.reduceLT, Nat.reduceBEq, Bool.or_false, Bool.false_or, Bool.or_true, Bool.true_or, nI_leI, nI_ltI, nI_eq, nI_clamp, inb_n, up_s, up_n, bx_uu, nI_1, ix6, nI_0n, pk_us, pk_un, ge_0n, c0]
    obtain ⟨eW, hkW⟩ := hW (n - 1) (Nat.le_refl _) (by omega)
    have hWn := fdW_le (l := l) (a := k) (n - 1)
    generalize fdW l k (n - 1) = W at *
    have eS := swp_c (d := d) (i := k) (j := W) (X := X) (J := J) (R := R) (by omega) (by omega)
    have hRs := rowL_sw hr (i := k) (j := W) (by omega) (by omega)
    -- turn the rest round
    have hV : ∀ (f : Nat) (r : Nat → Int32) (l : List Nat) (lo hi : Nat), l.length = n → rowL r l → 1 ≤ lo → lo ≤ n → hi < n → hi + 1 ≤ lo + 2 * f → ∃ r' lo' hi', E (C (d + 1)) MX6_nextLine 83 [some (.ref 117), some (.int (nI n)), some (.int (nI k)), some (.int (nI W)), some (.int (nI lo)), some (.int (nI hi))] [] (hp (va_up X 118 r) J R) = E (C (d + 1)) MX6_nextLine 107 [some (.ref 117), some (.int (nI n)), some (.int (nI k)), some (.int (nI W)), some (.int lo'), some (.int hi')] [] (hp (va_up X 118 r') J R) ∧ rowL r' (rvL f l lo hi) := by
      intro f
      induction f with
      | zero =>
        intro r l lo hi hl hr h1 h2 h3 h4
        have c0 : hi ≤ lo := by omega
        refine ⟨r, nI lo, nI hi, ?_, hr⟩
        rw [xX6_nextLine_83]
        simp (disch := omega) only [xX6_nextLine_85, xX6_nextLine_87, xX6_nextLine_90, xX6_nextLine_91, xX6_nextLine_93, xX6_nextLine_95, xX6_nextLine_98, xX6_nextLine_101, xX6_nextLine_104, kd_117, fi_117_1, kd_118, ln_118, ↓reduceIte, gd_t, hK_p, hN_p, hF_p, hI_p, hJ_p, hR_p, stI_p, stJ_p, stR_p, stA_p, va_rf_s, va_rf_n, clr_i, clr_l, clr_r, clr_n, clr_o, w8_0, w8_1i, w8_1r, w8_2ii, w8_2ri, w8_2ir, w8_2rr, w8_3, beq_self_eq_true, Bool.and_self, Bool.and_true, Bool.true_and, decide_true, Option.toList_some, Option.toList_none, List.cons_append, List.nil_append, Option.bind_some, if_true, if_false, Nat.reduceLeDiff, Nat.reduceLT, Nat.reduceBEq, Bool.or_false, Bool.false_or, Bool.or_true, Bool.true_or, nI_leI, nI_ltI, nI_eq, nI_clamp, inb_n, up_s, up_n, bx_uu, nI_1, ix6, nI_0n, pk_us, pk_un, ge_0n, c0]
      | succ f ih =>
        intro r l lo hi hl hr h1 h2 h3 h4
        unfold rvL
        by_cases z : lo < hi
        · have c0 : ¬ hi ≤ lo := by omega
          rw [if_pos z]
          obtain ⟨hi', rfl⟩ : ∃ q, hi = q + 1 := ⟨hi - 1, by omega⟩
          have es := swp_c (d := d) (i := lo) (j := hi' + 1) (X := va_up X 118 r) (J := J) (R := R) (by omega) (by omega)
          rw [up_s, bx_uu] at es
          have hRs := rowL_sw hr (i := lo) (j := hi' + 1) (by omega) (by omega)
          obtain ⟨r', lo', hi'', e, hR'⟩ := ih _ (swL l lo (hi' + 1)) (lo + 1) hi' (by rw [swL_len]; exact hl) hRs (by omega) (by omega) (by omega) (by omega)
          refine ⟨r', lo', hi'', ?_, hR'⟩
          rw [← e, xX6_nextLine_83]
          simp (disch := omega) only [xX6_nextLine_85, xX6_nextLine_87, xX6_nextLine_90, xX6_nextLine_91, xX6_nextLine_93, xX6_nextLine_95, xX6_nextLine_98, xX6_nextLine_101, xX6_nextLine_104, kd_117, fi_117_1, kd_118, ln_118, kd_117, ↓reduceIte, gd_t, hK_p, hN_p, hF_p, hI_p, hJ_p, hR_p, stI_p, stJ_p, stR_p, stA_p, va_rf_s, va_rf_n, clr_i, clr_l, clr_r, clr_n, clr_o, w8_0, w8_1i, w8_1r, w8_2ii, w8_2ri, w8_2ir, w8_2rr, w8_3, beq_self_eq_true, Bool.and_self, Bool.and_true, Bool.true_and, decide_true, Option.toList_some, Option.toList_none, List.cons_append, List.nil_append, Option.bind_some, if_true, if_false, Nat.reduceLeDiff, Nat.reduceLT, Nat.reduceBEq, Bool.or_false, Bool.false_or, Bool.or_true, Bool.true_or, nI_leI, nI_ltI, nI_eq, nI_clamp, inb_n, up_s, up_n, bx_uu, nI_1, ix6, nI_0n, pk_us, pk_un, ge_0n, c0, es, nI_pm]
        · have c0 : hi ≤ lo := by omega
          rw [if_neg z]
          refine ⟨r, nI lo, nI hi, ?_, hr⟩
          rw [xX6_nextLine_83]
          simp (disch := omega) only [xX6_nextLine_85, xX6_nextLine_87, xX6_nextLine_90, xX6_nextLine_91, xX6_nextLine_93, xX6_nextLine_95, xX6_nextLine_98, xX6_nextLine_101, xX6_nextLine_104, kd_117, fi_117_1, kd_118, ln_118, ↓reduceIte, gd_t, hK_p, hN_p, hF_p, hI_p, hJ_p, hR_p, stI_p, stJ_p, stR_p, stA_p, va_rf_s, va_rf_n, clr_i, clr_l, clr_r, clr_n, clr_o, w8_0, w8_1i, w8_1r, w8_2ii, w8_2ri, w8_2ir, w8_2rr, w8_3, beq_self_eq_true, Bool.and_self, Bool.and_true, Bool.true_and, decide_true, Option.toList_some, Option.toList_none, List.cons_append, List.nil_append, Option.bind_some, if_true, if_false, Nat.reduceLeDiff, Nat.reduceLT, Nat.reduceBEq, Bool.or_false, Bool.false_or, Bool.or_true, Bool.true_or, nI_leI, nI_ltI, nI_eq, nI_clamp, inb_n, up_s, up_n, bx_uu, nI_1, ix6, nI_0n, pk_us, pk_un, ge_0n, c0]
    obtain ⟨r', lo', hi', eV, hRV⟩ := hV 6 _ (swL l k W) (k + 1) (n - 1) (by rw [swL_len]; exact hl) hRs (by omega) (by omega) (by omega) (by omega)
    refine ⟨r', ?_, hRV⟩
    have c0 : (0 : Int32) ≤ nI k := nI_pos' (by omega)
    have en1 : nI n - 1 = nI (n - 1) := nI_m1 h1
    simp (disch := omega) only [xX6_nextLine_31, xX6_nextLine_32, xX6_nextLine_35, xX6_nextLine_36, xX6_nextLine_37, xX6_nextLine_38, xX6_nextLine_39, xX6_nextLine_40, kd_117, fi_117_1, kd_118, ln_118, ↓reduceIte, gd_t, hK_p, hN_p, hF_p, hI_p, hJ_p, hR_p, stI_p, stJ_p, stR_p, stA_p, va_rf_s, va_rf_n, clr_i, clr_l, clr_r, clr_n, clr_o, w8_0, w8_1i, w8_1r, w8_2ii, w8_2ri, w8_2ir, w8_2rr, w8_3, beq_self_eq_true, Bool.and_self, Bool.and_true, Bool.true_and, decide_true, Option.toList_some, Option.toList_none, List.cons_append, List.nil_append, Option.bind_some, if_true, if_false, Nat.reduceLeDiff, Nat.reduceLT, Nat.reduceBEq, Bool.or_false, Bool.false_or, Bool.or_true, Bool.true_or, c0, en1]
    rw [eW]
    simp (disch := omega) only [xX6_nextLine_67, xX6_nextLine_68, xX6_nextLine_69, xX6_nextLine_70, xX6_nextLine_73, xX6_nextLine_74, xX6_nextLine_75, xX6_nextLine_76, xX6_nextLine_78, xX6_nextLine_79, xX6_nextLine_80, xX6_nextLine_81, kd_117, fi_117_1, kd_118, ln_118, kd_117, ↓reduceIte, gd_t, hK_p, hN_p, hF_p, hI_p, hJ_p, hR_p, stI_p, stJ_p, stR_p, stA_p, va_rf_s, va_rf_n, clr_i, clr_l, clr_r, clr_n, clr_o, w8_0, w8_1i, w8_1r, w8_2ii, w8_2ri, w8_2ir, w8_2rr, w8_3, beq_self_eq_true, Bool.and_self, Bool.and_true, Bool.true_and, decide_true, Option.toList_some, Option.toList_none, List.cons_append, List.nil_append, Option.bind_some, if_true, if_false, Nat.reduceLeDiff, Nat.reduceLT, Nat.reduceBEq, Bool.or_false, Bool.false_or, Bool.or_true, Bool.true_or, nI_leI, nI_ltI, nI_eq, nI_clamp, inb_n, up_s, up_n, bx_uu, nI_1, ix6, nI_0n, pk_us, pk_un, ge_0n, eS, en1]
    rw [eV]
    simp (disch := omega) only [xX6_nextLine_107, xX6_nextLine_108, kd_117, fi_117_1, kd_118, ln_118, ↓reduceIte, gd_t, hK_p, hN_p, hF_p, hI_p, hJ_p, hR_p, stI_p, stJ_p, stR_p, stA_p, va_rf_s, va_rf_n, clr_i, clr_l, clr_r, clr_n, clr_o, w8_0, w8_1i, w8_1r, w8_2ii, w8_2ri, w8_2ir, w8_2rr, w8_3, beq_self_eq_true, Bool.and_self, Bool.and_true, Bool.true_and, decide_true, Option.toList_some, Option.toList_none, List.cons_append, List.nil_append, Option.bind_some, if_true, if_false, Nat.reduceLeDiff, Nat.reduceLT, Nat.reduceBEq, Bool.or_false, Bool.false_or, Bool.or_true, Bool.true_or, z11, Option.isSome_some]

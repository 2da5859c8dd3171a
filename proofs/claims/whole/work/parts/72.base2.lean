-- PAIRS, 1: what is kept; searches; who is a clock; names, counts
/-- a search: the first turn at which c holds, and what was carried up to there -/
def srF {σ : Type} (c : Nat → σ → Bool) (f : Nat → σ → σ) : Nat → Nat → σ → Option Nat × σ
  | 0, _, s => (none, s)
  | k + 1, i, s => if c i s = true then (some i, s) else srF c f k (i + 1) (f i s)
theorem for_s {σ : Type} {P : Nat → σ → Option Rs} {F : Option Nat × σ → Option Rs} {c : Nat → σ → Bool} {f : Nat → σ → σ} {n : Nat} (hs : ∀ i s, i < n → P i s = if c i s = true then F (some i, s) else P (i + 1) (f i s)) (he : ∀ s, P n s = F (none, s)) : ∀ k i s, i + k = n → P i s = F (srF c f k i s)
  | 0, i, s, h => by
    obtain rfl : i = n := by omega
    exact he s
  | k + 1, i, s, h => by
    rw [hs i s (by omega)]
    unfold srF
    by_cases z : c i s = true
    · rw [if_pos z, if_pos z]
    · rw [if_neg z, if_neg z]
      exact for_s hs he k (i + 1) (f i s) (by omega)
theorem srF_sim {σ τ : Type} {c : Nat → σ → Bool} {f : Nat → σ → σ} {c' : Nat → τ → Bool} {f' : Nat → τ → τ} {Rl : Nat → σ → τ → Prop} {n : Nat} (hc : ∀ i s t, i < n → Rl i s t → c i s = c' i t) (hf : ∀ i s t, i < n → Rl i s t → ¬ c i s = true → Rl (i + 1) (f i s) (f' i t)) : ∀ k i s t, i + k = n → Rl i s t → (srF c f k i s).1 = (srF c' f' k i t).1 ∧ ((srF c f k i s).1 = none → Rl n (srF c f k i s).2 (srF c' f' k i t).2)
  | 0, i, s, t, h, r => by
    obtain rfl : i = n := by omega
    exact ⟨rfl, fun _ => r⟩
  | k + 1, i, s, t, h, r => by
    unfold srF
    have e := hc i s t (by omega) r
    by_cases z : c i s = true
    · rw [if_pos z, if_pos (by rw [← e]; exact z)]
      exact ⟨rfl, fun q => absurd q (by simp)⟩
    · rw [if_neg z, if_neg (by rw [← e]; exact z)]
      exact srF_sim hc hf k (i + 1) _ _ (by omega) (hf i s t (by omega) r z)
theorem srF_lt {σ : Type} {c : Nat → σ → Bool} {f : Nat → σ → σ} : ∀ {k i : Nat} {s : σ} {j : Nat}, (srF c f k i s).1 = some j → i ≤ j ∧ j < i + k
  | 0, i, s, j, h => by simp [srF] at h
  | k + 1, i, s, j, h => by
    unfold srF at h
    by_cases z : c i s = true
    · rw [if_pos z] at h
      simp at h
      omega
    · rw [if_neg z] at h
      have := srF_lt h
      omega
/-- the number that a search answers -/
def an (o : Option Nat) (e : Int32) : Int32 := match o with
  | some i => nI i
  | none => e
/-- what the calls that only ask keep -/
def kpA (a : Nat) : Prop := (a < 88 ∧ a ≠ 72) ∨ (102 ≤ a ∧ a ≤ 111) ∨ a = 112 ∨ a = 116 ∨ a = 117 ∨ a = 119 ∨ (124 ≤ a ∧ a ≤ 146) ∨ (160 ≤ a ∧ a ≤ 162) ∨ a = 167 ∨ a = 170
def kpK (k : Nat) : Prop := k ≠ 2 ∧ k ≠ 54 ∧ k ≠ 61 ∧ k ≠ 62 ∧ k ≠ 63 ∧ k ≠ 64 ∧ k ≠ 65 ∧ k ≠ 69
def kp (I I' : Mem) : Prop := (∀ a, kpA a → I' a = I a) ∧ (∀ k, kpK k → I' 123 k = I 123 k) ∧ ∀ a k, 151 ≤ a → a ≤ 156 → k < 6 → I' a k = I a k
theorem kp.rf {I : Mem} : kp I I := ⟨fun _ _ => rfl, fun _ _ => rfl, fun _ _ _ _ _ => rfl⟩
theorem kp.tr {I I' I'' : Mem} (h : kp I I') (g : kp I' I'') : kp I I'' := ⟨fun a k => (g.1 a k).trans (h.1 a k), fun k q => (g.2.1 k q).trans (h.2.1 k q), fun a k x y z => (g.2.2 a k x y z).trans (h.2.2 a k x y z)⟩
theorem kp.thr {I : Mem} {v : Int32} : kp I (va_up I 123 (upd (I 123) 2 v)) := by
  refine ⟨fun a h => ?_, fun k h => ?_, fun a k h1 h2 h3 => ?_⟩
  · unfold kpA at h
    exact up_n (by omega)
  · rw [up_s, pk_un h.1]
  · rw [up_n (by omega)]
theorem cAll_kp {I I' : Mem} {R R' : MemR} {t t' n nb nm fL lL fG lG st : Nat} (h : cAll I R t t' n nb nm fL lL fG lG st) (k : kp I I') (r0 : R' 0 = R 0) (r60 : R' 60 = R 60) (r74 : R' 74 = R 74) : cAll I' R' t t' n nb nm fL lL fG lG st := by
  have ht2 := te_hi h.1
  obtain ⟨k1, k2, k3⟩ := k
  have e : ∀ a, kpA a → I' a = I a := k1
  have e1 : ∀ a, a < 60 → I' a = I a := fun a q => k1 a (by unfold kpA; omega)
  have e2 : ∀ a, 73 ≤ a → a < 88 → I' a = I a := fun a q q2 => k1 a (by unfold kpA; omega)
  have e3 : ∀ a, 60 ≤ a → a < 72 → I' a = I a := fun a q q2 => k1 a (by unfold kpA; omega)
  have e4 : ∀ a, 102 ≤ a → a ≤ 111 → I' a = I a := fun a q q2 => k1 a (by unfold kpA; omega)
  have e5 : ∀ a, 124 ≤ a → a ≤ 146 → I' a = I a := fun a q q2 => k1 a (by unfold kpA; omega)
  have e6 : ∀ a, 160 ≤ a → a ≤ 162 → I' a = I a := fun a q q2 => k1 a (by unfold kpA; omega)
  have e7 := k1 167 (by unfold kpA; omega)
  have e8 := k1 170 (by unfold kpA; omega)
  have f : ∀ k, k ≠ 2 → k ≠ 54 → k ≠ 61 → k ≠ 62 → k ≠ 63 → k ≠ 64 → k ≠ 65 → k ≠ 69 → I' 123 k = I 123 k := fun k a b c d e f g i => k2 k ⟨a, b, c, d, e, f, g, i⟩
  obtain ⟨a1, a2, a3, a4, a5, a6, a7, a8, a9, a10, a11, a12, a13, a14, a15⟩ := h
  refine ⟨a1, a2, a3, by rw [r0]; exact a4, by rw [r0]; exact a5, ?_, ?_, ?_, ?_, ?_, ?_, ?_, ?_, ?_, ?_⟩
  · unfold cTxt at a6 ⊢
    simp (disch := omega) only [e1, e5, f]
    exact a6
  · unfold cLws at a7 ⊢
    simp (disch := omega) only [e1, e5, f]
    exact a7
  · rw [f 15 (by decide) (by decide) (by decide) (by decide) (by decide) (by decide) (by decide) (by decide)]
    exact a8
  · unfold cNow cHg at a9 ⊢
    obtain ⟨b1, b2, b3, b4, b5, b6, b7, b8, ⟨b9, b10⟩, b11, b12, b13⟩ := a9
    refine ⟨by rw [r60]; exact b1, ?_, ?_, ?_, b5, ?_, ?_, ?_, ⟨?_, ?_⟩, ?_, ?_, ?_⟩
    · rw [e3 60 (by decide) (by decide)]; exact b2
    · rw [e3 60 (by decide) (by decide)]; exact b3
    · rw [f 70 (by decide) (by decide) (by decide) (by decide) (by decide) (by decide) (by decide) (by decide)]; exact b4
    · rw [e3 60 (by decide) (by decide), e1 t (by omega)]; exact b6
    · rw [e3 60 (by decide) (by decide)]; exact b7
    · rw [e3 61 (by decide) (by decide), e1 (t + 4) (by omega)]; exact b8
    · intro i hi
      have hn := a6.2.1.2.2
      rw [e3 62 (by decide) (by decide), e3 63 (by decide) (by decide), k3 151 (0 + i) (by decide) (by decide) (by omega), k3 152 (0 + i) (by decide) (by decide) (by omega)]
      exact b9 i hi
    · rw [e3 62 (by decide) (by decide)]; exact b10
    · simp (disch := omega) only [e1, e3]
      exact b11
    · intro i hi
      have hn := a6.2.1.2.2
      rw [e3 67 (by decide) (by decide), e3 68 (by decide) (by decide), e3 69 (by decide) (by decide), e3 70 (by decide) (by decide), k3 153 i (by decide) (by decide) (by omega), k3 154 i (by decide) (by decide) (by omega), k3 155 i (by decide) (by decide) (by omega), k3 156 i (by decide) (by decide) (by omega)]
      exact b12 i hi
    · simp (disch := omega) only [e1, e3]
      exact b13
  · unfold cImg at a10 ⊢
    rw [e1 0 (by decide), f 84 (by decide) (by decide) (by decide) (by decide) (by decide) (by decide) (by decide) (by decide), f 85 (by decide) (by decide) (by decide) (by decide) (by decide) (by decide) (by decide) (by decide), r74, e8]
    simp (disch := omega) only [e2]
    exact a10
  · unfold cSto at a11 ⊢
    simp (disch := omega) only [e4, e6]
    exact a11
  · unfold cHnd at a12 ⊢
    simp (disch := omega) only [e4, e6, f]
    exact a12
  · unfold cHea at a13 ⊢
    rw [e7]
    simp (disch := omega) only [e4, f]
    exact a13
  · unfold cTap at a14 ⊢
    simp (disch := omega) only [e1, e5, f]
    exact a14
  · unfold cFau at a15 ⊢
    simp (disch := omega) only [e1, e5, f]
    exact a15
-- who is a clock
def icF (n x : Int32) : Int32 := bi (¬ x < 0 ∧ ¬ n ≤ x)
theorem icl_c {d t : Nat} {I : Mem} {J : MemL} {R : MemR} {x : Int32} (ht : isTe t) (hR : R 0 3 = some t) : C (d + 1) MX11_isClock [.ref 0, .int x] (hp I J R) = some (some (.int (icF (I (t + 5) 1) x)), hp I J R) := by
  rw [eX11_isClock]
  unfold icF bi
  by_cases z : x < 0 <;> by_cases y : I (t + 5) 1 ≤ x <;> simp only [xX11_isClock_0, xX11_isClock_1, xX11_isClock_4, xX11_isClock_5, xX11_isClock_6, xX11_isClock_9, xX11_isClock_12, xX11_isClock_15, xX11_isClock_18, xX11_isClock_19, xX11_isClock_22, xX11_isClock_23, kd_0, te_k0 ht, te_f0_3 ht, te_k5 ht, te_k1 ht, te_k15 ht, ↓reduceIte, gd_t, hK_p, hN_p, hF_p, hI_p, hJ_p, hR_p, stI_p, stJ_p, stR_p, stA_p, va_rf_s, va_rf_n, clr_i, clr_l, clr_r, clr_n, clr_o, w8_0, w8_1i, w8_1r, w8_2ii, w8_2ri, w8_2ir, w8_2rr, w8_3, beq_self_eq_true, Bool.and_self, Bool.and_true, Bool.true_and, decide_true, Option.toList_some, Option.toList_none, List.cons_append, List.nil_append, Option.bind_some, if_true, if_false, Nat.reduceLeDiff, Nat.reduceLT, Nat.reduceBEq, Bool.or_false, Bool.false_or, Bool.or_true, Bool.true_or, hR, z, y, z01, z11, not_true_eq_false, not_false_eq_true, and_true, and_self, and_false]
theorem icl_m {d : Nat} {I : Mem} {J : MemL} {R : MemR} {x : Int32} : C (d + 1) MX12_isClock [.ref 123, .int x] (hp I J R) = some (some (.int (icF (I 123 13) x)), hp I J R) := by
  rw [eX12_isClock]
  unfold icF bi
  by_cases z : x < 0 <;> by_cases y : I 123 13 ≤ x <;> simp only [xX12_isClock_0, xX12_isClock_1, xX12_isClock_4, xX12_isClock_5, xX12_isClock_6, xX12_isClock_9, xX12_isClock_12, xX12_isClock_13, xX12_isClock_16, xX12_isClock_17, kd_123, ↓reduceIte, gd_t, hK_p, hN_p, hF_p, hI_p, hJ_p, hR_p, stI_p, stJ_p, stR_p, stA_p, va_rf_s, va_rf_n, clr_i, clr_l, clr_r, clr_n, clr_o, w8_0, w8_1i, w8_1r, w8_2ii, w8_2ri, w8_2ir, w8_2rr, w8_3, beq_self_eq_true, Bool.and_self, Bool.and_true, Bool.true_and, decide_true, Option.toList_some, Option.toList_none, List.cons_append, List.nil_append, Option.bind_some, if_true, if_false, Nat.reduceLeDiff, Nat.reduceLT, Nat.reduceBEq, Bool.or_false, Bool.false_or, Bool.or_true, Bool.true_or, z, y, z01, z11, not_true_eq_false, not_false_eq_true, and_true, and_self, and_false]
theorem ic_or {n : Nat} {x : Int32} (hn : n ≤ 6) : (∃ c, c < n ∧ x = nI c ∧ icF (nI n) x = 1) ∨ icF (nI n) x = 0 := by
  unfold icF bi
  by_cases h : ¬ x < 0 ∧ ¬ nI n ≤ x
  · obtain ⟨c, hc, rfl⟩ := nI_of h.1
    refine Or.inl ⟨c, ?_, rfl, if_pos h⟩
    rcases Nat.lt_or_ge c n with w | w
    · exact w
    · exact absurd (nI_le w hc) h.2
  · exact Or.inr (if_neg h)
def twF (n x y : Int32) : Int32 := if icF n x = 0 then 0 else if icF n y = 0 then 0 else if x = y then 0 else 1
theorem two_c {d t : Nat} {I : Mem} {J : MemL} {R : MemR} {x y : Int32} (ht : isTe t) (hR : R 0 3 = some t) : C (d + 2) MX11_areTwoClocks [.ref 0, .int x, .int y] (hp I J R) = some (some (.int (twF (I (t + 5) 1) x y)), hp I J R) := by
  rw [eX11_areTwoClocks]
  unfold twF
  by_cases z : icF (I (t + 5) 1) x = 0 <;> by_cases w : icF (I (t + 5) 1) y = 0 <;> by_cases v : x = y <;> simp only [xX11_areTwoClocks_0, xX11_areTwoClocks_1, xX11_areTwoClocks_2, xX11_areTwoClocks_5, xX11_areTwoClocks_8, xX11_areTwoClocks_9, xX11_areTwoClocks_10, xX11_areTwoClocks_13, xX11_areTwoClocks_16, xX11_areTwoClocks_17, xX11_areTwoClocks_18, xX11_areTwoClocks_21, xX11_areTwoClocks_22, xX11_areTwoClocks_25, xX11_areTwoClocks_26, kd_0, kd_0, ↓reduceIte, gd_t, hK_p, hN_p, hF_p, hI_p, hJ_p, hR_p, stI_p, stJ_p, stR_p, stA_p, va_rf_s, va_rf_n, clr_i, clr_l, clr_r, clr_n, clr_o, w8_0, w8_1i, w8_1r, w8_2ii, w8_2ri, w8_2ir, w8_2rr, w8_3, beq_self_eq_true, Bool.and_self, Bool.and_true, Bool.true_and, decide_true, Option.toList_some, Option.toList_none, List.cons_append, List.nil_append, Option.bind_some, if_true, if_false, Nat.reduceLeDiff, Nat.reduceLT, Nat.reduceBEq, Bool.or_false, Bool.false_or, Bool.or_true, Bool.true_or, icl_c ht hR, z, w, v, z01, z11, not_true_eq_false, not_false_eq_true]
theorem two_m {d : Nat} {I : Mem} {J : MemL} {R : MemR} {x y : Int32} : C (d + 2) MX12_areTwo [.ref 123, .int x, .int y] (hp I J R) = some (some (.int (twF (I 123 13) x y)), hp I J R) := by
  rw [eX12_areTwo]
  unfold twF
  by_cases z : icF (I 123 13) x = 0 <;> by_cases w : icF (I 123 13) y = 0 <;> by_cases v : x = y <;> simp only [xX12_areTwo_0, xX12_areTwo_1, xX12_areTwo_2, xX12_areTwo_5, xX12_areTwo_8, xX12_areTwo_9, xX12_areTwo_10, xX12_areTwo_13, xX12_areTwo_16, xX12_areTwo_17, xX12_areTwo_18, xX12_areTwo_21, xX12_areTwo_22, xX12_areTwo_25, xX12_areTwo_26, kd_123, kd_123, ↓reduceIte, gd_t, hK_p, hN_p, hF_p, hI_p, hJ_p, hR_p, stI_p, stJ_p, stR_p, stA_p, va_rf_s, va_rf_n, clr_i, clr_l, clr_r, clr_n, clr_o, w8_0, w8_1i, w8_1r, w8_2ii, w8_2ri, w8_2ir, w8_2rr, w8_3, beq_self_eq_true, Bool.and_self, Bool.and_true, Bool.true_and, decide_true, Option.toList_some, Option.toList_none, List.cons_append, List.nil_append, Option.bind_some, if_true, if_false, Nat.reduceLeDiff, Nat.reduceLT, Nat.reduceBEq, Bool.or_false, Bool.false_or, Bool.or_true, Bool.true_or, icl_m, z, w, v, z01, z11, not_true_eq_false, not_false_eq_true]
theorem tw_or {n : Nat} {x y : Int32} (hn : n ≤ 6) : (∃ a b, a < n ∧ b < n ∧ a ≠ b ∧ x = nI a ∧ y = nI b ∧ twF (nI n) x y = 1) ∨ twF (nI n) x y = 0 := by
  have n1 : ¬ (1 : Int32) = 0 := by decide
  rcases ic_or (x := x) hn with ⟨a, ha, rfl, ea⟩ | ea
  · rcases ic_or (x := y) hn with ⟨b, hb, rfl, eb⟩ | eb
    · unfold twF
      by_cases h : a = b
      · subst h
        rw [ea, if_neg n1, if_neg n1, if_pos rfl]
        exact Or.inr rfl
      · refine Or.inl ⟨a, b, ha, hb, h, rfl, rfl, ?_⟩
        rw [ea, eb, if_neg n1, if_neg n1, if_neg (fun q => h ((nI_eq (by omega) (by omega)).mp q))]
    · unfold twF
      rw [ea, eb, if_neg n1, if_pos rfl]
      exact Or.inr rfl
  · unfold twF
    rw [ea, if_pos rfl]
    exact Or.inr rfl
def apR (x : Int32) : Int32 := bi (¬ x < 0 ∧ ¬ 500 < x)
theorem isA_c {d : Nat} {h : Hp} {x : Int32} : C (d + 1) MX11_isApart [.int x] h = some (some (.int (apR x)), h) := by
  rw [eX11_isApart]
  unfold apR bi
  have e : ∀ y : Int32, (¬ y ≤ 500) = (500 < y) := fun y => propext Int32.not_le
  by_cases z : x < 0 <;> by_cases y : x ≤ 500 <;> simp only [xX11_isApart_0, xX11_isApart_1, xX11_isApart_4, xX11_isApart_5, xX11_isApart_8, xX11_isApart_11, xX11_isApart_12, xX11_isApart_15, xX11_isApart_16, ↓reduceIte, gd_t, hK_p, hN_p, hF_p, hI_p, hJ_p, hR_p, stI_p, stJ_p, stR_p, stA_p, va_rf_s, va_rf_n, clr_i, clr_l, clr_r, clr_n, clr_o, w8_0, w8_1i, w8_1r, w8_2ii, w8_2ri, w8_2ir, w8_2rr, w8_3, beq_self_eq_true, Bool.and_self, Bool.and_true, Bool.true_and, decide_true, Option.toList_some, Option.toList_none, List.cons_append, List.nil_append, Option.bind_some, if_true, if_false, Nat.reduceLeDiff, Nat.reduceLT, Nat.reduceBEq, Bool.or_false, Bool.false_or, Bool.or_true, Bool.true_or, ← e, z, y, z01, z11, not_true_eq_false, not_false_eq_true, and_true, and_self, and_false]
theorem isN_m {d : Nat} {h : Hp} {x : Int32} : C (d + 2) MX12_isNear [.int x] h = some (some (.int (apR x)), h) := by
  rw [eX12_isNear]
  unfold apR
  simp only [xX12_isNear_0, xX12_isNear_1, xX12_isNear_2, xX12_isNear_5, xX12_isNear_8, ↓reduceIte, gd_t, hK_p, hN_p, hF_p, hI_p, hJ_p, hR_p, stI_p, stJ_p, stR_p, stA_p, va_rf_s, va_rf_n, clr_i, clr_l, clr_r, clr_n, clr_o, w8_0, w8_1i, w8_1r, w8_2ii, w8_2ri, w8_2ir, w8_2rr, w8_3, beq_self_eq_true, Bool.and_self, Bool.and_true, Bool.true_and, decide_true, Option.toList_some, Option.toList_none, List.cons_append, List.nil_append, Option.bind_some, if_true, if_false, Nat.reduceLeDiff, Nat.reduceLT, Nat.reduceBEq, Bool.or_false, Bool.false_or, Bool.or_true, Bool.true_or, isI_spec, bi_ok]
theorem apR_or {x : Int32} : (∃ w, w ≤ 500 ∧ x = nI w ∧ apR x = 1) ∨ apR x = 0 := by
  unfold apR bi
  by_cases h : ¬ x < 0 ∧ ¬ 500 < x
  · obtain ⟨c, hc, rfl⟩ := nI_of2 (M := 500) (n := 500) (by decide) h.1 (Int32.not_lt.mp h.2)
    exact Or.inl ⟨c, hc, rfl, if_pos h⟩
  · exact Or.inr (if_neg h)
-- names
def fdF (r : Nat → Int32) (n : Nat) (x : Int32) : Int32 := an (srF (fun i (_ : Unit) => decide (r i = x)) (fun _ s => s) n 0 ()).1 (-1)
theorem fd_c {d a n len : Nat} {I : Mem} {J : MemL} {R : MemR} {x : Int32} (k5 : kd0 a = 5) (hf : fi0 a 0 = some (a + 1)) (k14 : kd0 (a + 1) = 14) (hl : ln0 (a + 1) = len) (hl2 : len < 2 ^ 31) (hn : I a 1 = nI n) (hle : n ≤ len) : C (d + 1) MX5_find [.ref a, .int x] (hp I J R) = some (some (.int (fdF (I (a + 1)) n x)), hp I J R) := by
  have h := for_s (P := fun i (_ : Unit) => E (C d) MX5_find 2 [some (.ref a), some (.int x), some (.int (nI i))] [] (hp I J R)) (F := fun o => some (some (.int (an o.1 (-1))), hp I J R)) (c := fun i _ => decide (I (a + 1) i = x)) (f := fun _ s => s) (n := n) (by
    intro i s hi
    have c0 : ¬ n ≤ i := by omega
    have c1 : ¬ len ≤ i := by omega
    rw [xX5_find_2]
    by_cases z : I (a + 1) i = x
    · simp (disch := omega) only [xX5_find_3, xX5_find_4, xX5_find_7, xX5_find_10, xX5_find_11, xX5_find_12, xX5_find_15, xX5_find_16, xX5_find_19, xX5_find_20, xX5_find_23, xX5_find_24, xX5_find_25, xX5_find_26, xX5_find_29, xX5_find_30, xX5_find_31, xX5_find_34, xX5_find_37, xX5_find_38, ↓reduceIte, gd_t, hK_p, hN_p, hF_p, hI_p, hJ_p, hR_p, stI_p, stJ_p, stR_p, stA_p, va_rf_s, va_rf_n, clr_i, clr_l, clr_r, clr_n, clr_o, w8_0, w8_1i, w8_1r, w8_2ii, w8_2ri, w8_2ir, w8_2rr, w8_3, beq_self_eq_true, Bool.and_self, Bool.and_true, Bool.true_and, decide_true, Option.toList_some, Option.toList_none, List.cons_append, List.nil_append, Option.bind_some, if_true, if_false, Nat.reduceLeDiff, Nat.reduceLT, Nat.reduceBEq, Bool.or_false, Bool.false_or, Bool.or_true, Bool.true_or, nI_leI, nI_ltI, nI_eq, nI_clamp, inb_n, up_s, up_n, bx_uu, nI_1, ix6, nI_0n, pk_us, pk_un, ge_0n, k5, hf, k14, hl, hn, c0, c1, z, an, not_true_eq_false]
    · simp (disch := omega) only [xX5_find_3, xX5_find_4, xX5_find_7, xX5_find_10, xX5_find_11, xX5_find_12, xX5_find_15, xX5_find_16, xX5_find_19, xX5_find_20, xX5_find_23, xX5_find_24, xX5_find_25, xX5_find_26, xX5_find_29, xX5_find_30, xX5_find_31, xX5_find_34, xX5_find_37, xX5_find_38, ↓reduceIte, gd_t, hK_p, hN_p, hF_p, hI_p, hJ_p, hR_p, stI_p, stJ_p, stR_p, stA_p, va_rf_s, va_rf_n, clr_i, clr_l, clr_r, clr_n, clr_o, w8_0, w8_1i, w8_1r, w8_2ii, w8_2ri, w8_2ir, w8_2rr, w8_3, beq_self_eq_true, Bool.and_self, Bool.and_true, Bool.true_and, decide_true, Option.toList_some, Option.toList_none, List.cons_append, List.nil_append, Option.bind_some, if_true, if_false, Nat.reduceLeDiff, Nat.reduceLT, Nat.reduceBEq, Bool.or_false, Bool.false_or, Bool.or_true, Bool.true_or, nI_leI, nI_ltI, nI_eq, nI_clamp, inb_n, up_s, up_n, bx_uu, nI_1, ix6, nI_0n, pk_us, pk_un, ge_0n, k5, hf, k14, hl, hn, c0, c1, z, decide_false, Bool.false_eq_true, not_false_eq_true]) (by
    intro s
    have c0 : n ≤ n := Nat.le_refl n
    rw [xX5_find_2]
    simp (disch := omega) only [xX5_find_3, xX5_find_4, xX5_find_7, xX5_find_10, xX5_find_11, xX5_find_12, xX5_find_15, xX5_find_16, xX5_find_19, xX5_find_20, xX5_find_23, xX5_find_24, xX5_find_25, xX5_find_26, xX5_find_29, xX5_find_30, xX5_find_31, xX5_find_34, xX5_find_37, xX5_find_38, ↓reduceIte, gd_t, hK_p, hN_p, hF_p, hI_p, hJ_p, hR_p, stI_p, stJ_p, stR_p, stA_p, va_rf_s, va_rf_n, clr_i, clr_l, clr_r, clr_n, clr_o, w8_0, w8_1i, w8_1r, w8_2ii, w8_2ri, w8_2ir, w8_2rr, w8_3, beq_self_eq_true, Bool.and_self, Bool.and_true, Bool.true_and, decide_true, Option.toList_some, Option.toList_none, List.cons_append, List.nil_append, Option.bind_some, if_true, if_false, Nat.reduceLeDiff, Nat.reduceLT, Nat.reduceBEq, Bool.or_false, Bool.false_or, Bool.or_true, Bool.true_or, nI_leI, nI_ltI, nI_eq, nI_clamp, inb_n, up_s, up_n, bx_uu, nI_1, ix6, nI_0n, pk_us, pk_un, ge_0n, k5, hf, k14, hl, hn, c0, an]) n 0 () (by omega)
  rw [nI_0] at h
  rw [eX5_find]
  simp only [xX5_find_0, xX5_find_1, clr_i]
  exact h
theorem fd_m {d a fr n len : Nat} {I : Mem} {J : MemL} {R : MemR} {x : Int32} (k14 : kd0 a = 14) (hl : ln0 a = len) (hl2 : len < 2 ^ 31) (hle : fr + n ≤ len) : C (d + 1) MX12_find [.ref a, .int (nI fr), .int (nI n), .int x] (hp I J R) = some (some (.int (fdF (fun i => I a (fr + i)) n x)), hp I J R) := by
  have h := for_s (P := fun i (_ : Unit) => E (C d) MX12_find 3 [some (.ref a), some (.int (nI fr)), some (.int (nI n)), some (.int x), some (.int (nI i))] [] (hp I J R)) (F := fun o => some (some (.int (an o.1 (-1))), hp I J R)) (c := fun i _ => decide (I a (fr + i) = x)) (f := fun _ s => s) (n := n) (by
    intro i s hi
    have c0 : ¬ n ≤ i := by omega
    rw [xX12_find_3]
    by_cases z : I a (fr + i) = x
    · simp (disch := omega) only [xX12_find_5, xX12_find_6, xX12_find_9, xX12_find_10, xX12_find_11, xX12_find_13, xX12_find_14, xX12_find_15, xX12_find_16, xX12_find_19, xX12_find_21, xX12_find_22, xX12_find_25, xX12_find_28, xX12_find_29, ↓reduceIte, gd_t, hK_p, hN_p, hF_p, hI_p, hJ_p, hR_p, stI_p, stJ_p, stR_p, stA_p, va_rf_s, va_rf_n, clr_i, clr_l, clr_r, clr_n, clr_o, w8_0, w8_1i, w8_1r, w8_2ii, w8_2ri, w8_2ir, w8_2rr, w8_3, beq_self_eq_true, Bool.and_self, Bool.and_true, Bool.true_and, decide_true, Option.toList_some, Option.toList_none, List.cons_append, List.nil_append, Option.bind_some, if_true, if_false, Nat.reduceLeDiff, Nat.reduceLT, Nat.reduceBEq, Bool.or_false, Bool.false_or, Bool.or_true, Bool.true_or, nI_leI, nI_ltI, nI_eq, nI_clamp, inb_n, up_s, up_n, bx_uu, nI_1, ix6, nI_0n, pk_us, pk_un, ge_0n, nI_add, k14, hl, c0, z, an, not_true_eq_false]
    · simp (disch := omega) only [xX12_find_5, xX12_find_6, xX12_find_9, xX12_find_10, xX12_find_11, xX12_find_13, xX12_find_14, xX12_find_15, xX12_find_16, xX12_find_19, xX12_find_21, xX12_find_22, xX12_find_25, xX12_find_28, xX12_find_29, ↓reduceIte, gd_t, hK_p, hN_p, hF_p, hI_p, hJ_p, hR_p, stI_p, stJ_p, stR_p, stA_p, va_rf_s, va_rf_n, clr_i, clr_l, clr_r, clr_n, clr_o, w8_0, w8_1i, w8_1r, w8_2ii, w8_2ri, w8_2ir, w8_2rr, w8_3, beq_self_eq_true, Bool.and_self, Bool.and_true, Bool.true_and, decide_true, Option.toList_some, Option.toList_none, List.cons_append, List.nil_append, Option.bind_some, if_true, if_false, Nat.reduceLeDiff, Nat.reduceLT, Nat.reduceBEq, Bool.or_false, Bool.false_or, Bool.or_true, Bool.true_or, nI_leI, nI_ltI, nI_eq, nI_clamp, inb_n, up_s, up_n, bx_uu, nI_1, ix6, nI_0n, pk_us, pk_un, ge_0n, nI_add, k14, hl, c0, z, decide_false, Bool.false_eq_true, not_false_eq_true]) (by
    intro s
    have c0 : n ≤ n := Nat.le_refl n
    rw [xX12_find_3]
    simp (disch := omega) only [xX12_find_5, xX12_find_6, xX12_find_9, xX12_find_10, xX12_find_11, xX12_find_13, xX12_find_14, xX12_find_15, xX12_find_16, xX12_find_19, xX12_find_21, xX12_find_22, xX12_find_25, xX12_find_28, xX12_find_29, ↓reduceIte, gd_t, hK_p, hN_p, hF_p, hI_p, hJ_p, hR_p, stI_p, stJ_p, stR_p, stA_p, va_rf_s, va_rf_n, clr_i, clr_l, clr_r, clr_n, clr_o, w8_0, w8_1i, w8_1r, w8_2ii, w8_2ri, w8_2ir, w8_2rr, w8_3, beq_self_eq_true, Bool.and_self, Bool.and_true, Bool.true_and, decide_true, Option.toList_some, Option.toList_none, List.cons_append, List.nil_append, Option.bind_some, if_true, if_false, Nat.reduceLeDiff, Nat.reduceLT, Nat.reduceBEq, Bool.or_false, Bool.false_or, Bool.or_true, Bool.true_or, nI_leI, nI_ltI, nI_eq, nI_clamp, inb_n, up_s, up_n, bx_uu, nI_1, ix6, nI_0n, pk_us, pk_un, ge_0n, c0, an]) n 0 () (by omega)
  rw [nI_0] at h
  rw [eX12_find]
  simp only [xX12_find_0, xX12_find_1, clr_i]
  exact h
theorem fdF_eq {r r' : Nat → Int32} {n : Nat} {x : Int32} (h : ∀ i, i < n → r i = r' i) : fdF r n x = fdF r' n x := by
  unfold fdF
  rw [(srF_sim (Rl := fun _ (_ _ : Unit) => True) (c := fun i (_ : Unit) => decide (r i = x)) (c' := fun i (_ : Unit) => decide (r' i = x)) (n := n) (fun i s t hi _ => by rw [h i hi]) (fun _ _ _ _ _ _ => trivial) n 0 () () (by omega) trivial).1]

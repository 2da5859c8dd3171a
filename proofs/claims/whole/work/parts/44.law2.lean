-- LAWS, 2: a well-formed row is worth the same whatever lay on the stack
def hgt (ki : Nat → Int32) : Nat → Nat
  | 0 => 0
  | i + 1 => if ki i = 2 ∨ (20 ≤ ki i ∧ ki i ≤ 26) then hgt ki i + 1 else if ki i = 17 then hgt ki i else hgt ki i - 1
def wfK (k : Int32) (h : Nat) : Prop := (k = 2 ∧ h < 64) ∨ (20 ≤ k ∧ k ≤ 26 ∧ h < 64) ∨ (k = 17 ∧ 0 < h) ∨ (¬ k = 2 ∧ ¬ (20 ≤ k ∧ k ≤ 26) ∧ ¬ k = 17 ∧ 1 < h)
def wfP (ki : Nat → Int32) (len : Nat) : Prop := (∀ i, i < len → wfK (ki i) (hgt ki i)) ∧ hgt ki len = 1
def sRel (h : Nat) (a b : Nat × (Nat → Int64)) : Prop := a.1 = h ∧ b.1 = h ∧ ∀ j, j < h → a.2 j = b.2 j
def oRel (h : Nat) (a b : Option (Nat × (Nat → Int64))) : Prop := (a = none ∧ b = none) ∨ ∃ x y, a = some x ∧ b = some y ∧ sRel h x y
theorem uL_s {f : Nat → Int64} {k : Nat} {x : Int64} : vp_updL f k x k = x := pk_uLs
theorem wstep_rel {ki nu : Nat → Int32} {na nb : Nat → Int64} {i : Nat} {a b : Nat × (Nat → Int64)} (hn : ∀ j, j < 7 → na j = nb j) (hk : wfK (ki i) (hgt ki i)) (hr : sRel (hgt ki i) a b) : oRel (hgt ki (i + 1)) (wstep ki nu na i a) (wstep ki nu nb i b) := by
  obtain ⟨ha, S⟩ := a
  obtain ⟨hb, T⟩ := b
  obtain ⟨e1, e2, h3⟩ := hr
  dsimp only at e1 e2 h3
  subst e1
  subst e2
  have hup : ∀ (h : Nat) (x : Int64) (S T : Nat → Int64), (∀ j, j < h → S j = T j) → ∀ j, j < h + 1 → vp_updL S h x j = vp_updL T h x j := by
    intro h x S T hh j hj
    by_cases hjh : j = h
    · subst hjh
      rw [pk_uLs, pk_uLs]
    · rw [pk_uLn hjh, pk_uLn hjh, hh j (by omega)]
  unfold wstep
  dsimp only
  rcases hk with ⟨k1, k2⟩ | ⟨k1, k2, k3⟩ | ⟨k1, k2⟩ | ⟨k1, k2, k3, k4⟩
  · simp only [if_pos (show ki i = 2 ∧ hgt ki i < 64 from ⟨k1, k2⟩)]
    refine Or.inr ⟨_, _, rfl, rfl, ?_, ?_, ?_⟩
    · show _ = hgt ki (i + 1)
      rw [hgt, if_pos (Or.inl k1)]
    · show _ = hgt ki (i + 1)
      rw [hgt, if_pos (Or.inl k1)]
    · rw [hgt, if_pos (Or.inl k1)]
      exact hup _ _ _ _ h3
  · have n2 : ¬ ki i = 2 := fun q => by rw [q] at k1; exact absurd k1 (by decide)
    simp only [if_neg (show ¬ (ki i = 2 ∧ hgt ki i < 64) from fun q => n2 q.1), if_pos (show 20 ≤ ki i ∧ ki i ≤ 26 ∧ hgt ki i < 64 from ⟨k1, k2, k3⟩)]
    have hx : na (ki i - 20).toNatClampNeg = nb (ki i - 20).toNatClampNeg := by
      have := in26 k1 k2
      unfold inb at this
      simp only [Bool.and_eq_true, decide_eq_true_eq] at this
      exact hn _ this.2
    rw [hx]
    refine Or.inr ⟨_, _, rfl, rfl, ?_, ?_, ?_⟩
    · show _ = hgt ki (i + 1)
      rw [hgt, if_pos (Or.inr ⟨k1, k2⟩)]
    · show _ = hgt ki (i + 1)
      rw [hgt, if_pos (Or.inr ⟨k1, k2⟩)]
    · rw [hgt, if_pos (Or.inr ⟨k1, k2⟩)]
      exact hup _ _ _ _ h3
  · have n2 : ¬ ki i = 2 := fun q => by rw [q] at k1; exact absurd k1 (by decide)
    have n3 : ¬ (20 ≤ ki i ∧ ki i ≤ 26) := fun q => by rw [k1] at q; exact absurd q.1 (by decide)
    have hh : hgt ki (i + 1) = hgt ki i := by rw [hgt, if_neg (fun q => q.elim n2 n3), if_pos k1]
    simp only [if_neg (show ¬ (ki i = 2 ∧ hgt ki i < 64) from fun q => n2 q.1), if_neg (show ¬ (20 ≤ ki i ∧ ki i ≤ 26 ∧ hgt ki i < 64) from fun q => n3 ⟨q.1, q.2.1⟩), if_pos (show ki i = 17 ∧ 0 < hgt ki i from ⟨k1, k2⟩)]
    simp only [h3 (hgt ki i - 1) (by omega)]
    refine Or.inr ⟨_, _, rfl, rfl, hh.symm, hh.symm, ?_⟩
    rw [hh]
    intro j hj
    dsimp only
    by_cases hjh : j = hgt ki i - 1
    · rw [hjh, pk_uLs, pk_uLs]
    · rw [pk_uLn hjh, pk_uLn hjh]
      exact h3 j hj
  · have hh : hgt ki (i + 1) = hgt ki i - 1 := by rw [hgt, if_neg (fun q => q.elim k1 k2), if_neg k3]
    simp only [if_neg (show ¬ (ki i = 2 ∧ hgt ki i < 64) from fun q => k1 q.1), if_neg (show ¬ (20 ≤ ki i ∧ ki i ≤ 26 ∧ hgt ki i < 64) from fun q => k2 ⟨q.1, q.2.1⟩), if_neg (show ¬ (ki i = 17 ∧ 0 < hgt ki i) from fun q => k3 q.1), if_pos k4]
    simp only [h3 (hgt ki i - 2) (by omega), h3 (hgt ki i - 1) (by omega)]
    by_cases z : joiF (ki i) (T (hgt ki i - 2)) (T (hgt ki i - 1)) = ERR
    · simp only [if_pos z]
      exact Or.inl ⟨rfl, rfl⟩
    · simp only [if_neg z]
      refine Or.inr ⟨_, _, rfl, rfl, hh.symm, hh.symm, ?_⟩
      rw [hh]
      intro j hj
      dsimp only
      by_cases hjh : j = hgt ki i - 2
      · rw [hjh, pk_uLs, pk_uLs]
      · rw [pk_uLn hjh, pk_uLn hjh]
        exact h3 j (by omega)
theorem wrun_rel {ki nu : Nat → Int32} {na nb : Nat → Int64} {len : Nat} (hn : ∀ j, j < 7 → na j = nb j) (hw : wfP ki len) : ∀ (k i : Nat) (a b : Nat × (Nat → Int64)), i + k = len → sRel (hgt ki i) a b → oRel (hgt ki len) (wrun ki nu na k i a) (wrun ki nu nb k i b)
  | 0, i, a, b, hi, hr => by
    obtain rfl : i = len := by omega
    exact Or.inr ⟨a, b, rfl, rfl, hr⟩
  | k + 1, i, a, b, hi, hr => by
    unfold wrun
    rcases wstep_rel (nu := nu) hn (hw.1 i (by omega)) hr with ⟨e1, e2⟩ | ⟨x, y, e1, e2, h⟩
    · rw [e1, e2]
      exact Or.inl ⟨rfl, rfl⟩
    · rw [e1, e2]
      exact wrun_rel hn hw k (i + 1) x y (by omega) h
/-- a law's worth, by the names alone -/
def lawF (told : Int32) (ki nu : Nat → Int32) (na : Nat → Int64) (len : Nat) (most oth : Int32) : Int32 := worF told ki nu na (fun _ => 0) len most oth
theorem wor_law {told : Int32} {ki nu : Nat → Int32} {na nb S : Nat → Int64} {len : Nat} {most oth : Int32} (hn : ∀ j, j < 7 → na j = nb j) (hw : told = 0 ∨ wfP ki len) : worF told ki nu na S len most oth = lawF told ki nu nb len most oth := by
  unfold lawF worF
  by_cases z : told = 0
  · rw [if_pos z, if_pos z]
  · rw [if_neg z, if_neg z]
    have hw := hw.resolve_left z
    rcases wrun_rel (nu := nu) hn hw len 0 (0, S) (0, fun _ => 0) (by omega) ⟨rfl, rfl, fun j hj => absurd hj (by show ¬ j < 0; omega)⟩ with ⟨e1, e2⟩ | ⟨x, y, e1, e2, h⟩
    · rw [e1, e2]
    · rw [e1, e2]
      show wfin most (x.2 0) = wfin most (y.2 0)
      rw [h.2.2 0 (by rw [hw.2]; omega)]

-- LAWS OF BOTH, 1: one sign's worth
theorem fb_bmodL {z : Int} (h1 : -9223372036854775808 ≤ z) (h2 : z < 9223372036854775808) : z.bmod (2 ^ 64) = z := by
  rw [Int.bmod_eq_of_le (by omega) (by omega)]
theorem fb_rngL (x : Int64) : -9223372036854775808 ≤ x.toInt ∧ x.toInt < 9223372036854775808 := by
  have h1 := Int64.le_toInt x
  have h2 := Int64.toInt_lt x
  omega
def inL (a : Int64) : Prop := -1000000000000 ≤ a.toInt ∧ a.toInt ≤ 1000000000000
theorem LIM_i : LIM.toInt = 1000000000000 := by decide
theorem nLIM_i : (-LIM).toInt = -1000000000000 := by decide
theorem ERR_i : ERR.toInt = -9223372036854775808 := by decide
theorem leL {a b : Int64} : a ≤ b ↔ a.toInt ≤ b.toInt := Int64.le_iff_toInt_le
theorem ltL {a b : Int64} : a < b ↔ a.toInt < b.toInt := Int64.lt_iff_toInt_lt
theorem inL_ne {a : Int64} (h : inL a) : ¬ a = ERR := by
  intro q
  rw [q] at h
  unfold inL at h
  rw [ERR_i] at h
  omega
theorem inL_iff {a : Int64} : inL a ↔ ¬ LIM < a ∧ -LIM ≤ a := by
  unfold inL
  rw [ltL, leL, LIM_i, nLIM_i]
  omega
theorem joi_lim {k : Int32} {a b : Int64} : (inL (joiA k a b) ∧ joiF k a b = joiA k a b) ∨ (¬ inL (joiA k a b) ∧ joiF k a b = ERR) := by
  unfold joiF
  by_cases h : inL (joiA k a b)
  · refine Or.inl ⟨h, ?_⟩
    have := inL_iff.mp h
    rw [if_neg this.1, if_pos this.2]
  · refine Or.inr ⟨h, ?_⟩
    by_cases z : LIM < joiA k a b
    · rw [if_pos z]
    · rw [if_neg z]
      by_cases y : -LIM ≤ joiA k a b
      · exact absurd (inL_iff.mpr ⟨z, y⟩) h
      · rw [if_neg y]
theorem abs_i {a : Int64} (h : inL a) : (absL a).toInt = (a.toInt.natAbs : Int) := by
  unfold inL at h
  have e0 : (0 : Int64).toInt = 0 := by decide
  unfold absL
  by_cases z : 0 ≤ a
  · rw [if_pos z]
    rw [leL, e0] at z
    omega
  · rw [if_neg z, Int64.toInt_neg, fb_bmodL (by omega) (by omega)]
    rw [leL, e0] at z
    omega
theorem ne0_i {a : Int64} (h : ¬ a = 0) : a.toInt ≠ 0 := by
  intro q
  exact h (Int64.toInt_inj.mp (q.trans (by decide)))
theorem much_iff {a b : Int64} (ha : inL a) (hb : inL b) : (muchT a b = true) ↔ 1000000000000 < (a.toInt * b.toInt).natAbs := by
  unfold muchT
  rw [decide_eq_true_eq]
  by_cases za : a = 0
  · subst za
    have e0 : (0 : Int64).toInt = 0 := by decide
    rw [e0, Int.zero_mul]
    simp
  by_cases zb : b = 0
  · subst zb
    have e0 : (0 : Int64).toInt = 0 := by decide
    rw [e0, Int.mul_zero]
    simp
  have na := ne0_i za
  have nb := ne0_i zb
  have hA := abs_i ha
  have hB := abs_i hb
  have hd : (LIM / absL a).toInt = 1000000000000 / (a.toInt.natAbs : Int) := by
    rw [lg_ldiv_nonneg (by rw [LIM_i]; omega) (by rw [hA]; omega), LIM_i, hA]
  rw [leL, hB, hd, Int.natAbs_mul]
  have hpos : 0 < (a.toInt.natAbs : Int) := by omega
  have key : (b.toInt.natAbs : Int) ≤ 1000000000000 / (a.toInt.natAbs : Int) ↔ (b.toInt.natAbs : Int) * (a.toInt.natAbs : Int) ≤ 1000000000000 := Int.le_ediv_iff_mul_le hpos
  rw [key]
  constructor
  · rintro ⟨-, -, h⟩
    have h2 : ¬ ((b.toInt.natAbs * a.toInt.natAbs : Nat) : Int) ≤ 1000000000000 := by rw [Int.natCast_mul]; exact h
    rw [Nat.mul_comm]
    omega
  · intro h
    refine ⟨za, zb, fun q => ?_⟩
    have h2 : ((b.toInt.natAbs * a.toInt.natAbs : Nat) : Int) ≤ 1000000000000 := by rw [Int.natCast_mul]; exact q
    rw [Nat.mul_comm] at h
    omega

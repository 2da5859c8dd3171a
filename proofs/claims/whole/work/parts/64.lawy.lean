-- LAWS OF BOTH, 2: times, by
theorem mul_i {a b : Int64} (ha : inL a) (hb : inL b) : (inL (joiA 7 a b) ↔ ¬ muchT a b = true) ∧ (¬ muchT a b = true → joiA 7 a b = a * b) := by
  have hm := much_iff ha hb
  unfold joiA
  rw [if_pos rfl]
  have e0 : (0 : Int64).toInt = 0 := by decide
  by_cases zb : b = 0
  · rw [if_pos zb]
    have hz : (a.toInt * b.toInt).natAbs = 0 := by rw [zb, e0, Int.mul_zero]; rfl
    have hn : ¬ muchT a b = true := by rw [hm, hz]; omega
    refine ⟨⟨fun _ => hn, fun _ => ?_⟩, fun _ => rfl⟩
    unfold inL
    rw [Int64.toInt_mul, zb, e0, Int.mul_zero]
    decide
  · rw [if_neg zb]
    have nb := ne0_i zb
    unfold inL at ha hb
    have hmul := Int64.toInt_mul a b
    have hdiv : (a * b / b).toInt = ((a * b).toInt.tdiv b.toInt).bmod (2 ^ 64) := Int64.toInt_div _ _
    have htm := Int.mul_tdiv_add_tmod (a * b).toInt b.toInt
    have hrm : ((a * b).toInt.tmod b.toInt).natAbs < b.toInt.natAbs := by
      rw [Int.natAbs_tmod]
      exact Nat.mod_lt _ (by omega)
    by_cases hlim : (a.toInt * b.toInt).natAbs ≤ 1000000000000
    · have hex : (a * b).toInt = a.toInt * b.toInt := by rw [hmul, fb_bmodL (by omega) (by omega)]
      have hq : a * b / b = a := by
        apply Int64.toInt_inj.mp
        rw [hdiv, hex, Int.mul_tdiv_cancel _ nb, fb_bmodL (by omega) (by omega)]
      have hn : ¬ muchT a b = true := by rw [hm]; omega
      rw [if_pos hq]
      refine ⟨⟨fun _ => hn, fun _ => ?_⟩, fun _ => rfl⟩
      unfold inL
      rw [hex]
      omega
    · have hn : muchT a b = true := by rw [hm]; omega
      refine ⟨⟨fun h => ?_, fun h => absurd hn h⟩, fun h => absurd hn h⟩
      exfalso
      by_cases hq : a * b / b = a
      · rw [if_pos hq] at h
        unfold inL at h
        have h5 : ((a * b).toInt.tdiv b.toInt).natAbs ≤ (a * b).toInt.natAbs := by
          rw [Int.natAbs_tdiv]
          exact Nat.div_le_self _ _
        have h6 : (a * b).toInt.tdiv b.toInt = a.toInt := by
          rw [fb_bmodL (by omega) (by omega)] at hdiv
          rw [← hdiv, hq]
        rw [h6, Int.mul_comm] at htm
        have h7 : (a * b).toInt = (a.toInt * b.toInt).bmod (2 ^ 64) := hmul
        obtain ⟨q, hq2⟩ : ∃ q : Int, (a * b).toInt = a.toInt * b.toInt + q * 18446744073709551616 := by
          rw [h7, Int.bmod_def]
          generalize a.toInt * b.toInt = P
          split
          · refine ⟨-(P / 18446744073709551616), ?_⟩
            omega
          · refine ⟨-(P / 18446744073709551616) - 1, ?_⟩
            omega
        generalize a.toInt * b.toInt = P at *
        omega
      · rw [if_neg hq] at h
        unfold inL at h
        rw [ERR_i] at h
        omega
theorem div_i {a b : Int64} (ha : inL a) (zb : ¬ b = 0) : inL (a / b) := by
  have nb := ne0_i zb
  unfold inL at ha ⊢
  rw [Jvm.Kit.i64_div (by omega)]
  have h5 : (a.toInt.tdiv b.toInt).natAbs ≤ a.toInt.natAbs := by
    rw [Int.natAbs_tdiv]
    exact Nat.div_le_self _ _
  omega
theorem in01 : inL 0 ∧ inL 1 := by
  unfold inL
  decide
theorem in_if {c : Prop} [Decidable c] : inL (if c then 0 else 1) ∧ inL (if c then 1 else 0) := by
  by_cases h : c
  · rw [if_pos h, if_pos h]
    exact ⟨in01.1, in01.2⟩
  · rw [if_neg h, if_neg h]
    exact ⟨in01.2, in01.1⟩
theorem in_i32 (x : Int32) : inL x.toInt64 := by
  unfold inL
  rw [Int32.toInt_toInt64]
  have h1 := Int32.le_toInt x
  have h2 := Int32.toInt_lt x
  omega
/-- the class's kind of a sign, and the model's -/
def kmp (k : Int32) : Int32 := if k = 7 then 13 else if k = 8 then 14 else if k = 9 then 11 else if k = 10 then 12 else if k = 11 then 5 else if k = 12 then 6 else if k = 13 then 7 else if k = 14 then 8 else if k = 15 then 9 else if k = 16 then 10 else if k = 18 then 3 else 4
def isBin (k : Int32) : Prop := k = 7 ∨ k = 8 ∨ k = 9 ∨ k = 10 ∨ k = 11 ∨ k = 12 ∨ k = 13 ∨ k = 14 ∨ k = 15 ∨ k = 16 ∨ k = 18 ∨ k = 19
/-- a sign of two, in the model -/
def binR (kn : Int32) (err : Int32) (A B : Int64) : Int64 × Int32 :=
  if kn = 3 then (if A = 0 then 0 else if B = 0 then 0 else 1, err)
  else if kn = 4 then (if A = 0 then (if B = 0 then 0 else 1) else 1, err)
  else if kn = 11 then bouF err (A + B)
  else if kn = 12 then bouF err (A - B)
  else if kn = 13 then timF err A B
  else if kn = 14 then divF err A B
  else (if cmpF kn A B = 0 then 0 else 1, err)
theorem bou_rel {x : Int64} : (inL x ∧ bouF 0 x = (x, 0)) ∨ (¬ inL x ∧ bouF 0 x = (0, 1)) := by
  unfold bouF badB
  by_cases h : inL x
  · refine Or.inl ⟨h, ?_⟩
    have := inL_iff.mp h
    rw [if_neg]
    rintro (q | q | q)
    · exact q rfl
    · exact this.1 q
    · exact q this.2
  · refine Or.inr ⟨h, ?_⟩
    rw [if_pos]
    by_cases z : LIM < x
    · exact Or.inr (Or.inl z)
    · exact Or.inr (Or.inr (fun q => h (inL_iff.mpr ⟨z, q⟩)))
theorem binR_3 {e : Int32} {A B : Int64} : binR 3 e A B = (if A = 0 then 0 else if B = 0 then 0 else 1, e) := by
  unfold binR
  rw [if_pos rfl]
theorem binR_4 {e : Int32} {A B : Int64} : binR 4 e A B = (if A = 0 then (if B = 0 then 0 else 1) else 1, e) := by
  unfold binR
  rw [if_neg (by decide), if_pos rfl]
theorem binR_11 {e : Int32} {A B : Int64} : binR 11 e A B = bouF e (A + B) := by
  unfold binR
  rw [if_neg (by decide), if_neg (by decide), if_pos rfl]
theorem binR_12 {e : Int32} {A B : Int64} : binR 12 e A B = bouF e (A - B) := by
  unfold binR
  rw [if_neg (by decide), if_neg (by decide), if_neg (by decide), if_pos rfl]
theorem binR_13 {e : Int32} {A B : Int64} : binR 13 e A B = timF e A B := by
  unfold binR
  rw [if_neg (by decide), if_neg (by decide), if_neg (by decide), if_neg (by decide), if_pos rfl]
theorem binR_14 {e : Int32} {A B : Int64} : binR 14 e A B = divF e A B := by
  unfold binR
  rw [if_neg (by decide), if_neg (by decide), if_neg (by decide), if_neg (by decide), if_neg (by decide), if_pos rfl]
theorem binR_5 {e : Int32} {A B : Int64} : binR 5 e A B = (if cmpF 5 A B = 0 then 0 else 1, e) := by
  unfold binR
  rw [if_neg (by decide), if_neg (by decide), if_neg (by decide), if_neg (by decide), if_neg (by decide), if_neg (by decide)]
theorem binR_6 {e : Int32} {A B : Int64} : binR 6 e A B = (if cmpF 6 A B = 0 then 0 else 1, e) := by
  unfold binR
  rw [if_neg (by decide), if_neg (by decide), if_neg (by decide), if_neg (by decide), if_neg (by decide), if_neg (by decide)]
theorem binR_7 {e : Int32} {A B : Int64} : binR 7 e A B = (if cmpF 7 A B = 0 then 0 else 1, e) := by
  unfold binR
  rw [if_neg (by decide), if_neg (by decide), if_neg (by decide), if_neg (by decide), if_neg (by decide), if_neg (by decide)]
theorem binR_8 {e : Int32} {A B : Int64} : binR 8 e A B = (if cmpF 8 A B = 0 then 0 else 1, e) := by
  unfold binR
  rw [if_neg (by decide), if_neg (by decide), if_neg (by decide), if_neg (by decide), if_neg (by decide), if_neg (by decide)]
theorem binR_9 {e : Int32} {A B : Int64} : binR 9 e A B = (if cmpF 9 A B = 0 then 0 else 1, e) := by
  unfold binR
  rw [if_neg (by decide), if_neg (by decide), if_neg (by decide), if_neg (by decide), if_neg (by decide), if_neg (by decide)]
theorem binR_10 {e : Int32} {A B : Int64} : binR 10 e A B = (if cmpF 10 A B = 0 then 0 else 1, e) := by
  unfold binR
  rw [if_neg (by decide), if_neg (by decide), if_neg (by decide), if_neg (by decide), if_neg (by decide), if_neg (by decide)]
theorem joiA_8 {a b : Int64} : joiA 8 a b = (if b = 0 then ERR else a / b) := by
  unfold joiA
  rw [if_neg (by decide), if_pos rfl]
theorem joiA_9 {a b : Int64} : joiA 9 a b = a + b := by
  unfold joiA
  rw [if_neg (by decide), if_neg (by decide), if_pos rfl]
theorem joiA_10 {a b : Int64} : joiA 10 a b = a - b := by
  unfold joiA
  rw [if_neg (by decide), if_neg (by decide), if_neg (by decide), if_pos rfl]
theorem joiA_11 {a b : Int64} : joiA 11 a b = (if b ≤ a then 0 else 1) := by
  unfold joiA
  rw [if_neg (by decide), if_neg (by decide), if_neg (by decide), if_neg (by decide), if_pos rfl]
theorem joiA_12 {a b : Int64} : joiA 12 a b = (if b < a then 0 else 1) := by
  unfold joiA
  rw [if_neg (by decide), if_neg (by decide), if_neg (by decide), if_neg (by decide), if_neg (by decide), if_pos rfl]
theorem joiA_13 {a b : Int64} : joiA 13 a b = (if a = b then 1 else 0) := by
  unfold joiA
  rw [if_neg (by decide), if_neg (by decide), if_neg (by decide), if_neg (by decide), if_neg (by decide), if_neg (by decide), if_pos rfl]
theorem joiA_14 {a b : Int64} : joiA 14 a b = (if a = b then 0 else 1) := by
  unfold joiA
  rw [if_neg (by decide), if_neg (by decide), if_neg (by decide), if_neg (by decide), if_neg (by decide), if_neg (by decide), if_neg (by decide), if_pos rfl]
theorem joiA_15 {a b : Int64} : joiA 15 a b = (if a < b then 0 else 1) := by
  unfold joiA
  rw [if_neg (by decide), if_neg (by decide), if_neg (by decide), if_neg (by decide), if_neg (by decide), if_neg (by decide), if_neg (by decide), if_neg (by decide), if_pos rfl]
theorem joiA_16 {a b : Int64} : joiA 16 a b = (if a ≤ b then 0 else 1) := by
  unfold joiA
  rw [if_neg (by decide), if_neg (by decide), if_neg (by decide), if_neg (by decide), if_neg (by decide), if_neg (by decide), if_neg (by decide), if_neg (by decide), if_neg (by decide), if_pos rfl]
theorem joiA_18 {a b : Int64} : joiA 18 a b = (if a = 0 then 0 else if b = 0 then 0 else 1) := by
  unfold joiA
  rw [if_neg (by decide), if_neg (by decide), if_neg (by decide), if_neg (by decide), if_neg (by decide), if_neg (by decide), if_neg (by decide), if_neg (by decide), if_neg (by decide), if_neg (by decide), if_pos rfl]
theorem joiA_19 {a b : Int64} : joiA 19 a b = (if a = 0 then (if b = 0 then 0 else 1) else 1) := by
  unfold joiA
  rw [if_neg (by decide), if_neg (by decide), if_neg (by decide), if_neg (by decide), if_neg (by decide), if_neg (by decide), if_neg (by decide), if_neg (by decide), if_neg (by decide), if_neg (by decide), if_neg (by decide), if_pos rfl]
theorem rel_good {k kn : Int32} {a b v : Int64} (h1 : joiA k a b = v) (h2 : inL v) (h3 : binR kn 0 a b = (v, 0)) : (joiF k a b = ERR ∧ (binR kn 0 a b).2 = 1) ∨ (inL (joiF k a b) ∧ binR kn 0 a b = (joiF k a b, 0)) := by
  rcases joi_lim (k := k) (a := a) (b := b) with ⟨q1, q2⟩ | ⟨q1, q2⟩
  · refine Or.inr ?_
    rw [q2, h1]
    exact ⟨h2, h3⟩
  · rw [h1] at q1
    exact absurd h2 q1
theorem rel_bad {k kn : Int32} {a b : Int64} (h1 : ¬ inL (joiA k a b)) (h3 : (binR kn 0 a b).2 = 1) : (joiF k a b = ERR ∧ (binR kn 0 a b).2 = 1) ∨ (inL (joiF k a b) ∧ binR kn 0 a b = (joiF k a b, 0)) := by
  rcases joi_lim (k := k) (a := a) (b := b) with ⟨q1, q2⟩ | ⟨q1, q2⟩
  · exact absurd q1 h1
  · exact Or.inl ⟨q2, h3⟩
theorem bi0 {c : Prop} [Decidable c] : (bi c = 0) ↔ ¬ c := by
  unfold bi
  by_cases h : c
  · rw [if_pos h]
    exact ⟨fun q => absurd q (by decide), fun q => absurd h q⟩
  · rw [if_neg h]
    exact ⟨fun _ => h, fun _ => rfl⟩
theorem cmpF_5 {A B : Int64} : cmpF 5 A B = bi (¬ B ≤ A) := by
  unfold cmpF
  rw [if_pos rfl]
theorem cmpF_6 {A B : Int64} : cmpF 6 A B = bi (¬ B < A) := by
  unfold cmpF
  rw [if_neg (by decide), if_pos rfl]
theorem cmpF_7 {A B : Int64} : cmpF 7 A B = bi (A = B) := by
  unfold cmpF
  rw [if_neg (by decide), if_neg (by decide), if_pos rfl]
theorem cmpF_8 {A B : Int64} : cmpF 8 A B = bi (¬ A = B) := by
  unfold cmpF
  rw [if_neg (by decide), if_neg (by decide), if_neg (by decide), if_pos rfl]
theorem cmpF_9 {A B : Int64} : cmpF 9 A B = bi (¬ A < B) := by
  unfold cmpF
  rw [if_neg (by decide), if_neg (by decide), if_neg (by decide), if_neg (by decide), if_pos rfl]
theorem cmpF_10 {A B : Int64} : cmpF 10 A B = bi (¬ A ≤ B) := by
  unfold cmpF
  rw [if_neg (by decide), if_neg (by decide), if_neg (by decide), if_neg (by decide), if_neg (by decide)]
theorem nERR : ¬ inL ERR := fun h => inL_ne h rfl
theorem bin_rel {k : Int32} {a b : Int64} (hk : isBin k) (ha : inL a) (hb : inL b) : (joiF k a b = ERR ∧ (binR (kmp k) 0 a b).2 = 1) ∨ (inL (joiF k a b) ∧ binR (kmp k) 0 a b = (joiF k a b, 0)) := by
  rcases hk with rfl | rfl | rfl | rfl | rfl | rfl | rfl | rfl | rfl | rfl | rfl | rfl
  · rw [show kmp 7 = 13 by decide]
    obtain ⟨h1, h2⟩ := mul_i ha hb
    by_cases z : muchT a b = true
    · refine rel_bad (fun q => h1.mp q z) ?_
      rw [binR_13]
      unfold timF
      rw [if_pos (Or.inr z)]
    · refine rel_good (h2 z) (by rw [← h2 z]; exact h1.mpr z) ?_
      rw [binR_13]
      unfold timF
      rw [if_neg (fun q => q.elim (fun w => w rfl) z)]
  · rw [show kmp 8 = 14 by decide]
    by_cases z : b = 0
    · refine rel_bad (by rw [joiA_8, if_pos z]; exact nERR) ?_
      rw [binR_14]
      unfold divF
      rw [if_pos (Or.inr z)]
    · refine rel_good (v := a / b) (by rw [joiA_8, if_neg z]) (div_i ha z) ?_
      rw [binR_14]
      unfold divF
      rw [if_neg (fun q => q.elim (fun w => w rfl) z)]
  · rw [show kmp 9 = 11 by decide]
    rcases bou_rel (x := a + b) with ⟨q1, q2⟩ | ⟨q1, q2⟩
    · exact rel_good joiA_9 q1 (by rw [binR_11]; exact q2)
    · exact rel_bad (by rw [joiA_9]; exact q1) (by rw [binR_11, q2])
  · rw [show kmp 10 = 12 by decide]
    rcases bou_rel (x := a - b) with ⟨q1, q2⟩ | ⟨q1, q2⟩
    · exact rel_good joiA_10 q1 (by rw [binR_12]; exact q2)
    · exact rel_bad (by rw [joiA_10]; exact q1) (by rw [binR_12, q2])
  · rw [show kmp 11 = 5 by decide]
    by_cases z : b ≤ a
    · refine rel_good (v := 0) (by rw [joiA_11, if_pos z]) in01.1 ?_
      rw [binR_5, cmpF_5, if_pos (bi0.mpr (fun q => q z))]
    · refine rel_good (v := 1) (by rw [joiA_11, if_neg z]) in01.2 ?_
      rw [binR_5, cmpF_5, if_neg (fun q => bi0.mp q z)]
  · rw [show kmp 12 = 6 by decide]
    by_cases z : b < a
    · refine rel_good (v := 0) (by rw [joiA_12, if_pos z]) in01.1 ?_
      rw [binR_6, cmpF_6, if_pos (bi0.mpr (fun q => q z))]
    · refine rel_good (v := 1) (by rw [joiA_12, if_neg z]) in01.2 ?_
      rw [binR_6, cmpF_6, if_neg (fun q => bi0.mp q z)]
  · rw [show kmp 13 = 7 by decide]
    by_cases z : a = b
    · refine rel_good (v := 1) (by rw [joiA_13, if_pos z]) in01.2 ?_
      rw [binR_7, cmpF_7, if_neg (fun q => bi0.mp q z)]
    · refine rel_good (v := 0) (by rw [joiA_13, if_neg z]) in01.1 ?_
      rw [binR_7, cmpF_7, if_pos (bi0.mpr z)]
  · rw [show kmp 14 = 8 by decide]
    by_cases z : a = b
    · refine rel_good (v := 0) (by rw [joiA_14, if_pos z]) in01.1 ?_
      rw [binR_8, cmpF_8, if_pos (bi0.mpr (fun q => q z))]
    · refine rel_good (v := 1) (by rw [joiA_14, if_neg z]) in01.2 ?_
      rw [binR_8, cmpF_8, if_neg (fun q => bi0.mp q z)]
  · rw [show kmp 15 = 9 by decide]
    by_cases z : a < b
    · refine rel_good (v := 0) (by rw [joiA_15, if_pos z]) in01.1 ?_
      rw [binR_9, cmpF_9, if_pos (bi0.mpr (fun q => q z))]
    · refine rel_good (v := 1) (by rw [joiA_15, if_neg z]) in01.2 ?_
      rw [binR_9, cmpF_9, if_neg (fun q => bi0.mp q z)]
  · rw [show kmp 16 = 10 by decide]
    by_cases z : a ≤ b
    · refine rel_good (v := 0) (by rw [joiA_16, if_pos z]) in01.1 ?_
      rw [binR_10, cmpF_10, if_pos (bi0.mpr (fun q => q z))]
    · refine rel_good (v := 1) (by rw [joiA_16, if_neg z]) in01.2 ?_
      rw [binR_10, cmpF_10, if_neg (fun q => bi0.mp q z)]
  · rw [show kmp 18 = 3 by decide]
    refine rel_good joiA_18 ?_ binR_3
    by_cases z : a = 0 <;> by_cases y : b = 0 <;> simp only [z, y, if_true, if_false] <;> first | exact in01.1 | exact in01.2
  · rw [show kmp 19 = 4 by decide]
    refine rel_good joiA_19 ?_ binR_4
    by_cases z : a = 0 <;> by_cases y : b = 0 <;> simp only [z, y, if_true, if_false] <;> first | exact in01.1 | exact in01.2

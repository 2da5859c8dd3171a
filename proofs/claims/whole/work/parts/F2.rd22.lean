-- TEXT, 29: an E, of both
theorem bin_key : ∀ k, k < 21 → (isBin (nI (17 + kcL.getD k 0)) ↔ 0 < rkF (nI (17 + kcL.getD k 0)) ∧ ¬ nI (17 + kcL.getD k 0) = 17) := by
  unfold isBin
  decide +kernel
theorem bin_cmp : ∀ c, c < 6 → (isBin (nI (11 + c)) ↔ 0 < rkF (nI (11 + c)) ∧ ¬ nI (11 + c) = 17) := by
  unfold isBin
  decide +kernel
theorem TR_bin {kc nc lc km wm : Int32} (h : TR kc nc lc km wm) : isBin kc ↔ 0 < rkF kc ∧ ¬ kc = 17 := by
  rcases h with ⟨rfl, rfl⟩ | ⟨rfl, h⟩ | ⟨rfl, rfl, h⟩ | ⟨rfl, rfl, h⟩ | ⟨rfl, h⟩ | ⟨rfl, c, hc, rfl, rfl⟩ | ⟨rfl, j, hj, rfl, rfl⟩
  · unfold isBin; decide
  · unfold isBin; decide
  · unfold isBin; decide
  · unfold isBin; decide
  · rcases h with ⟨rfl, rfl⟩ | ⟨rfl, rfl⟩ | ⟨rfl, rfl⟩ | ⟨rfl, rfl⟩ | ⟨rfl, rfl⟩ | ⟨rfl, rfl⟩ | ⟨rfl, rfl⟩ <;> (unfold isBin; decide)
  · exact bin_cmp c hc
  · exact bin_key j hj
section XL
variable {J J2 : MemL} {R R2 : MemR} {L g fi : Nat} {u : Nat → Nat}
/-- what reading an E comes to -/
def xpO (d : Nat) (J J2 : MemL) (R R2 : MemR) (L : Nat) (u : Nat → Nat) (g fi : Nat) (X Y : Mem) (p : Nat) (oc om : Option Rs) : Prop :=
  (∃ X' Y', oc = some (some (.int 0), hp X' J R) ∧ om = some (some (.int 0), hp Y' J2 R2) ∧ faR X' Y' ∧ xpF g fi X X' Y Y') ∨
  (∃ X' Y', oc = some (some (.int 1), hp X' J R) ∧ om = some (some (.int 0), hp Y' J2 R2) ∧ ¬ X' 57 4 = 4 ∧ Y' 123 4 = 1 ∧ Y' 123 5 = X' 57 5 ∧ xpF g fi X X' Y Y') ∨
  (∃ X' Y' p' len, oc = some (some (.int 1), hp X' J R) ∧ om = some (some (.int 1), hp Y' J2 R2) ∧ X' 57 4 = 4 ∧ ¬ X 57 4 = 0 ∧ psR X' Y' L u p' ∧ p ≤ p' ∧ pfR X' Y' g fi len ∧ hgt (X' (g + 1)) len = 1 ∧ X' 56 7 = nI (fi + len) ∧ Y' 123 49 = nI (fi + len) ∧ xpF g fi X X' Y Y')
theorem xpO.go {d : Nat} {X Y X1 Y1 : Mem} {p p1 : Nat} {oc om : Option Rs} (h : xpO d J J2 R R2 L u g fi X1 Y1 p1 oc om) (hf : xpF g fi X X1 Y Y1) (hk : ¬ X 57 4 = 0) (hp1 : X1 57 4 = 0 ∨ p < p1) : xpO d J J2 R R2 L u g fi X Y p oc om := by
  rcases h with ⟨X', Y', z1, z2, z3, z4⟩ | ⟨X', Y', z1, z2, z3, z4, z5, z6⟩ | ⟨X', Y', p', len, z1, z2, z3, z4, z5, z6, z7, z8, z9, z10, z11⟩
  · exact Or.inl ⟨X', Y', z1, z2, z3, hf.tr z4⟩
  · exact Or.inr (Or.inl ⟨X', Y', z1, z2, z3, z4, z5, hf.tr z6⟩)
  · exact Or.inr (Or.inr ⟨X', Y', p', len, z1, z2, z3, hk, z5, by have := hp1.resolve_left z4; omega, z7, z8, z9, z10, hf.tr z11⟩)
theorem xpl_p {d : Nat} (hg : isLw g) : ∀ (r i : Nat) (X Y : Mem) (p len w o c v : Nat), i + r = 700 → (X 57 4 = 0 ∨ i < p) → psR X Y L u p → xpR X Y g fi len w o c v → v ≤ 1 → Y 123 50 = nI (1 - v) →
    xpO d J J2 R R2 L u g fi X Y p (E (C (d + 4)) MX7_expression 19 [some (.ref 56), some (.ref g), some (.int (nI (1 - v))), some (.int (nI i))] [] (hp X J R)) (E (C (d + 4)) MX12_sumRead 25 [some (.ref 123)] [] (hp Y J2 R2)) := by
  have hg2 := lw_hi hg
  have n1 : ¬ (1 : Int32) = 0 := by decide
  have q1 : nI 1 = 1 := rfl
  have q0 : nI 0 = 0 := rfl
  have s0 : 1 - 0 = 1 := rfl
  have s1 : 1 - 1 = 0 := rfl
  intro r
  induction r using Nat.strongRecOn with
  | _ r ih =>
    intro i X Y p len w o c v hi hip hP hx hv h50
    obtain ⟨pl, hS⟩ : ∃ pl, tkS X Y L p pl := hP.2
    have hpL := hS.2.2.1
    have hL := hP.1.1.1.1
    have hTR := hS.2.2.2.2.2.2
    obtain ⟨v1, v2, v3, v4, v5⟩ := TR_sg hTR
    have hbn := TR_bin hTR
    have c0 : ¬ 700 < nI i := fun q => absurd ((nI_ltI (a := 700) (b := i) (by omega) (by omega)).mp q) (by omega)
    have nxt : ¬ X 57 4 = 0 → ∀ {X1 : Mem} {p1 : Nat}, (X1 57 4 = 0 ∨ p < p1) → i < 700 ∧ (X1 57 4 = 0 ∨ i + 1 < p1) := by
      intro hk X1 p1 hq
      have := hip.resolve_left hk
      exact ⟨by omega, hq.imp id (fun q => by omega)⟩
    obtain rfl | rfl : v = 0 ∨ v = 1 := by omega
    · -- a value is wanted
      rw [s0, q1] at h50 ⊢
      have hm25 : E (C (d + 4)) MX12_sumRead 25 [some (.ref 123)] [] (hp Y J2 R2) = (C (d + 4) MX12_leafRead [.ref 123] (hp Y J2 R2)).bind fun r => E (C (d + 4)) MX12_sumRead 59 [some (.ref 123)] (r.1.toList ++ []) r.2 := by
        rw [xX12_sumRead_25]
        by_cases z : Y 123 8 = 4 ∧ Y 123 9 = 59
        · have b : bi (Y 123 8 = 4 ∧ Y 123 9 = 59) = 1 := if_pos z
          simp (disch := omega) only [xX12_sumRead_26, xX12_sumRead_28, xX12_sumRead_31, xX12_sumRead_34, xX12_sumRead_35, xX12_sumRead_38, xX12_sumRead_41, xX12_sumRead_42, xX12_sumRead_45, xX12_sumRead_48, xX12_sumRead_49, xX12_sumRead_52, xX12_sumRead_55, xX12_sumRead_56, kd_123, kd_123, ↓reduceIte, gd_t, hK_p, hN_p, hF_p, hI_p, hJ_p, hR_p, stI_p, stJ_p, stR_p, stA_p, va_rf_s, va_rf_n, clr_i, clr_l, clr_r, clr_n, clr_o, w8_0, w8_1i, w8_1r, w8_2ii, w8_2ri, w8_2ir, w8_2rr, w8_3, beq_self_eq_true, Bool.and_self, Bool.and_true, Bool.true_and, decide_true, Option.toList_some, Option.toList_none, List.cons_append, List.nil_append, Option.bind_some, if_true, if_false, Nat.reduceLeDiff, Nat.reduceLT, Nat.reduceBEq, Bool.or_false, Bool.false_or, Bool.or_true, Bool.true_or, isg_m, b, h50, n1, not_true_eq_false, not_false_eq_true]
        · have b : bi (Y 123 8 = 4 ∧ Y 123 9 = 59) = 0 := if_neg z
          simp (disch := omega) only [xX12_sumRead_26, xX12_sumRead_28, xX12_sumRead_31, xX12_sumRead_34, xX12_sumRead_35, xX12_sumRead_38, xX12_sumRead_41, xX12_sumRead_42, xX12_sumRead_45, xX12_sumRead_48, xX12_sumRead_49, xX12_sumRead_52, xX12_sumRead_55, xX12_sumRead_56, kd_123, kd_123, ↓reduceIte, gd_t, hK_p, hN_p, hF_p, hI_p, hJ_p, hR_p, stI_p, stJ_p, stR_p, stA_p, va_rf_s, va_rf_n, clr_i, clr_l, clr_r, clr_n, clr_o, w8_0, w8_1i, w8_1r, w8_2ii, w8_2ri, w8_2ir, w8_2rr, w8_3, beq_self_eq_true, Bool.and_self, Bool.and_true, Bool.true_and, decide_true, Option.toList_some, Option.toList_none, List.cons_append, List.nil_append, Option.bind_some, if_true, if_false, Nat.reduceLeDiff, Nat.reduceLT, Nat.reduceBEq, Bool.or_false, Bool.false_or, Bool.or_true, Bool.true_or, isg_m, b, h50, n1, not_true_eq_false, not_false_eq_true]
      by_cases hval : X 57 4 = 2 ∨ (20 ≤ X 57 4 ∧ X 57 4 ≤ 26)
      · have hk : ¬ X 57 4 = 0 := by
          intro q
          rw [q] at hval
          exact absurd hval (by decide)
        rcases val_p (d := d) (J := J) (J2 := J2) (R := R) (R2 := R2) hP hg hx hval with ⟨X1, Y1, e1, g1, f1, f2⟩ | ⟨X1, Y1, p1, e1, g1, f1, f2, f3, f4, f5⟩
        · refine Or.inl ⟨X1, Y1, ?_, ?_, f1, f2⟩
          · rw [xX7_expression_19]
            simp (disch := omega) only [xX7_expression_20, xX7_expression_23, xX7_expression_26, xX7_expression_27, xX7_expression_30, xX7_expression_31, xX7_expression_34, xX7_expression_37, xX7_expression_38, xX7_expression_39, xX7_expression_42, xX7_expression_45, xX7_expression_46, kd_56, fi_56_0, kd_57, kd_56, lw_k0 hg, ↓reduceIte, gd_t, hK_p, hN_p, hF_p, hI_p, hJ_p, hR_p, stI_p, stJ_p, stR_p, stA_p, va_rf_s, va_rf_n, clr_i, clr_l, clr_r, clr_n, clr_o, w8_0, w8_1i, w8_1r, w8_2ii, w8_2ri, w8_2ir, w8_2rr, w8_3, beq_self_eq_true, Bool.and_self, Bool.and_true, Bool.true_and, decide_true, Option.toList_some, Option.toList_none, List.cons_append, List.nil_append, Option.bind_some, if_true, if_false, Nat.reduceLeDiff, Nat.reduceLT, Nat.reduceBEq, Bool.or_false, Bool.false_or, Bool.or_true, Bool.true_or, c0, n1, isv_c, if_pos hval, e1, z01, not_true_eq_false, not_false_eq_true]
          · rw [hm25, g1]
            simp (disch := omega) only [xX12_sumRead_59, xX12_sumRead_62, xX12_sumRead_65, xX12_sumRead_66, xX12_sumRead_69, xX12_sumRead_72, xX12_sumRead_73, ↓reduceIte, gd_t, hK_p, hN_p, hF_p, hI_p, hJ_p, hR_p, stI_p, stJ_p, stR_p, stA_p, va_rf_s, va_rf_n, clr_i, clr_l, clr_r, clr_n, clr_o, w8_0, w8_1i, w8_1r, w8_2ii, w8_2ri, w8_2ir, w8_2rr, w8_3, beq_self_eq_true, Bool.and_self, Bool.and_true, Bool.true_and, decide_true, Option.toList_some, Option.toList_none, List.cons_append, List.nil_append, Option.bind_some, if_true, if_false, Nat.reduceLeDiff, Nat.reduceLT, Nat.reduceBEq, Bool.or_false, Bool.false_or, Bool.or_true, Bool.true_or, z01]
        · obtain ⟨i7, hip1⟩ := nxt hk f2
          refine xpO.go (X1 := X1) (Y1 := Y1) (p1 := p1) ?_ f5 hk f2
          have hI := ih (r - 1) (by omega) (i + 1) X1 Y1 p1 (len + 1) w o (c + 1) 1 (by omega) hip1 f1 f3 (by omega) (by rw [s1]; exact f4)
          rw [s1, q0] at hI
          have ec : E (C (d + 4)) MX7_expression 19 [some (.ref 56), some (.ref g), some (.int 1), some (.int (nI i))] [] (hp X J R) = E (C (d + 4)) MX7_expression 19 [some (.ref 56), some (.ref g), some (.int 0), some (.int (nI (i + 1)))] [] (hp X1 J R) := by
            rw [xX7_expression_19 (h := hp X J R)]
            simp (disch := omega) only [xX7_expression_20, xX7_expression_23, xX7_expression_26, xX7_expression_27, xX7_expression_30, xX7_expression_31, xX7_expression_34, xX7_expression_37, xX7_expression_38, xX7_expression_39, xX7_expression_42, xX7_expression_45, xX7_expression_46, xX7_expression_47, xX7_expression_48, xX7_expression_49, kd_56, fi_56_0, kd_57, xX7_expression_129, xX7_expression_132, kd_56, lw_k0 hg, ↓reduceIte, gd_t, hK_p, hN_p, hF_p, hI_p, hJ_p, hR_p, stI_p, stJ_p, stR_p, stA_p, va_rf_s, va_rf_n, clr_i, clr_l, clr_r, clr_n, clr_o, w8_0, w8_1i, w8_1r, w8_2ii, w8_2ri, w8_2ir, w8_2rr, w8_3, beq_self_eq_true, Bool.and_self, Bool.and_true, Bool.true_and, decide_true, Option.toList_some, Option.toList_none, List.cons_append, List.nil_append, Option.bind_some, if_true, if_false, Nat.reduceLeDiff, Nat.reduceLT, Nat.reduceBEq, Bool.or_false, Bool.false_or, Bool.or_true, Bool.true_or, c0, n1, isv_c, if_pos hval, e1, nI_1, not_true_eq_false, not_false_eq_true]
          have em : E (C (d + 4)) MX12_sumRead 25 [some (.ref 123)] [] (hp Y J2 R2) = E (C (d + 4)) MX12_sumRead 25 [some (.ref 123)] [] (hp Y1 J2 R2) := by
            rw [hm25, g1]
            simp (disch := omega) only [xX12_sumRead_59, xX12_sumRead_62, ↓reduceIte, gd_t, hK_p, hN_p, hF_p, hI_p, hJ_p, hR_p, stI_p, stJ_p, stR_p, stA_p, va_rf_s, va_rf_n, clr_i, clr_l, clr_r, clr_n, clr_o, w8_0, w8_1i, w8_1r, w8_2ii, w8_2ri, w8_2ir, w8_2rr, w8_3, beq_self_eq_true, Bool.and_self, Bool.and_true, Bool.true_and, decide_true, Option.toList_some, Option.toList_none, List.cons_append, List.nil_append, Option.bind_some, if_true, if_false, Nat.reduceLeDiff, Nat.reduceLT, Nat.reduceBEq, Bool.or_false, Bool.false_or, Bool.or_true, Bool.true_or, n1]
          rw [ec, em]
          exact hI
      · rcases opg_p (d := d) (J := J) (J2 := J2) (R := R) (R2 := R2) hP hg hx h50 hval with ⟨X1, Y1, e1, g1, f1, f2⟩ | ⟨X1, Y1, p1, o', c', e1, g1, hk, f1, f2, f3, f4, f5⟩
        · refine Or.inl ⟨X1, Y1, ?_, ?_, f1, f2⟩
          · rw [xX7_expression_19]
            simp (disch := omega) only [xX7_expression_20, xX7_expression_23, xX7_expression_26, xX7_expression_27, xX7_expression_30, xX7_expression_31, xX7_expression_34, kd_56, fi_56_0, kd_57, xX7_expression_52, xX7_expression_53, xX7_expression_56, xX7_expression_57, xX7_expression_60, xX7_expression_63, xX7_expression_64, kd_56, lw_k0 hg, ↓reduceIte, gd_t, hK_p, hN_p, hF_p, hI_p, hJ_p, hR_p, stI_p, stJ_p, stR_p, stA_p, va_rf_s, va_rf_n, clr_i, clr_l, clr_r, clr_n, clr_o, w8_0, w8_1i, w8_1r, w8_2ii, w8_2ri, w8_2ir, w8_2rr, w8_3, beq_self_eq_true, Bool.and_self, Bool.and_true, Bool.true_and, decide_true, Option.toList_some, Option.toList_none, List.cons_append, List.nil_append, Option.bind_some, if_true, if_false, Nat.reduceLeDiff, Nat.reduceLT, Nat.reduceBEq, Bool.or_false, Bool.false_or, Bool.or_true, Bool.true_or, c0, n1, isv_c, if_neg hval, e1, z01, not_true_eq_false, not_false_eq_true]
          · rw [hm25, g1]
            simp (disch := omega) only [xX12_sumRead_59, xX12_sumRead_62, xX12_sumRead_65, xX12_sumRead_66, xX12_sumRead_69, xX12_sumRead_72, xX12_sumRead_73, ↓reduceIte, gd_t, hK_p, hN_p, hF_p, hI_p, hJ_p, hR_p, stI_p, stJ_p, stR_p, stA_p, va_rf_s, va_rf_n, clr_i, clr_l, clr_r, clr_n, clr_o, w8_0, w8_1i, w8_1r, w8_2ii, w8_2ri, w8_2ir, w8_2rr, w8_3, beq_self_eq_true, Bool.and_self, Bool.and_true, Bool.true_and, decide_true, Option.toList_some, Option.toList_none, List.cons_append, List.nil_append, Option.bind_some, if_true, if_false, Nat.reduceLeDiff, Nat.reduceLT, Nat.reduceBEq, Bool.or_false, Bool.false_or, Bool.or_true, Bool.true_or, z01]
        · obtain ⟨i7, hip1⟩ := nxt hk f2
          refine xpO.go (X1 := X1) (Y1 := Y1) (p1 := p1) ?_ f5 hk f2
          have hI := ih (r - 1) (by omega) (i + 1) X1 Y1 p1 len (w + 1) o' c' 0 (by omega) hip1 f1 f3 (by omega) (by rw [s0]; exact f4)
          rw [s0, q1] at hI
          have ec : E (C (d + 4)) MX7_expression 19 [some (.ref 56), some (.ref g), some (.int 1), some (.int (nI i))] [] (hp X J R) = E (C (d + 4)) MX7_expression 19 [some (.ref 56), some (.ref g), some (.int 1), some (.int (nI (i + 1)))] [] (hp X1 J R) := by
            rw [xX7_expression_19 (h := hp X J R)]
            simp (disch := omega) only [xX7_expression_20, xX7_expression_23, xX7_expression_26, xX7_expression_27, xX7_expression_30, xX7_expression_31, xX7_expression_34, kd_56, fi_56_0, kd_57, xX7_expression_52, xX7_expression_53, xX7_expression_56, xX7_expression_57, xX7_expression_60, xX7_expression_63, xX7_expression_64, xX7_expression_129, xX7_expression_132, kd_56, lw_k0 hg, ↓reduceIte, gd_t, hK_p, hN_p, hF_p, hI_p, hJ_p, hR_p, stI_p, stJ_p, stR_p, stA_p, va_rf_s, va_rf_n, clr_i, clr_l, clr_r, clr_n, clr_o, w8_0, w8_1i, w8_1r, w8_2ii, w8_2ri, w8_2ir, w8_2rr, w8_3, beq_self_eq_true, Bool.and_self, Bool.and_true, Bool.true_and, decide_true, Option.toList_some, Option.toList_none, List.cons_append, List.nil_append, Option.bind_some, if_true, if_false, Nat.reduceLeDiff, Nat.reduceLT, Nat.reduceBEq, Bool.or_false, Bool.false_or, Bool.or_true, Bool.true_or, c0, n1, isv_c, if_neg hval, e1, nI_1, not_true_eq_false, not_false_eq_true]
          have em : E (C (d + 4)) MX12_sumRead 25 [some (.ref 123)] [] (hp Y J2 R2) = E (C (d + 4)) MX12_sumRead 25 [some (.ref 123)] [] (hp Y1 J2 R2) := by
            rw [hm25, g1]
            simp (disch := omega) only [xX12_sumRead_59, xX12_sumRead_62, ↓reduceIte, gd_t, hK_p, hN_p, hF_p, hI_p, hJ_p, hR_p, stI_p, stJ_p, stR_p, stA_p, va_rf_s, va_rf_n, clr_i, clr_l, clr_r, clr_n, clr_o, w8_0, w8_1i, w8_1r, w8_2ii, w8_2ri, w8_2ir, w8_2rr, w8_3, beq_self_eq_true, Bool.and_self, Bool.and_true, Bool.true_and, decide_true, Option.toList_some, Option.toList_none, List.cons_append, List.nil_append, Option.bind_some, if_true, if_false, Nat.reduceLeDiff, Nat.reduceLT, Nat.reduceBEq, Bool.or_false, Bool.false_or, Bool.or_true, Bool.true_or, n1]
          rw [ec, em]
          exact hI
    · -- a sign is wanted
      rw [s1, q0] at h50 ⊢
      obtain ⟨hpf, ⟨w1, w2, w3⟩, ⟨o1, o2, o3, o4⟩, ⟨k1, k2, k3, k4⟩, hd, hh⟩ := id hx
      by_cases hbin : isBin (X 57 4)
      · obtain ⟨r1, r2, r3, r4, r5, r6, r7, r8, r9⟩ := bin_rk hbin
        have n4 : ¬ X 57 4 = 4 := fun q => by
          have := hbin
          rw [q] at this
          unfold isBin at this
          exact absurd this (by decide)
        have b : bi (Y 123 8 = 4 ∧ Y 123 9 = 59) = 0 := if_neg (fun q => n4 (v5.mpr q))
        have rp : ¬ nI (rkF (X 57 4)) ≤ 0 := fun q => absurd ((nI_leI (a := rkF (X 57 4)) (b := 0) (by omega) (by omega)).mp q) (by omega)
        rcases joi_p (d := d) (J := J) (J2 := J2) (R := R) (R2 := R2) hP hg hx hbin with ⟨X1, Y1, e1, g1, f1, f2⟩ | ⟨X1, Y1, p1, len', w', e1, g1, f1, f2, f3, f4, f5⟩
        · refine Or.inl ⟨X1, Y1, ?_, ?_, f1, f2⟩
          · rw [xX7_expression_19]
            simp (disch := omega) only [xX7_expression_20, xX7_expression_23, xX7_expression_26, xX7_expression_27, kd_56, fi_56_0, kd_57, xX7_expression_52, xX7_expression_53, xX7_expression_56, xX7_expression_57, xX7_expression_60, xX7_expression_63, xX7_expression_64, xX7_expression_65, xX7_expression_66, xX7_expression_69, xX7_expression_72, xX7_expression_75, xX7_expression_78, xX7_expression_79, xX7_expression_82, xX7_expression_85, xX7_expression_87, xX7_expression_90, xX7_expression_91, xX7_expression_92, xX7_expression_95, xX7_expression_98, xX7_expression_99, kd_56, fi_56_0, kd_57, kd_56, lw_k0 hg, ↓reduceIte, gd_t, hK_p, hN_p, hF_p, hI_p, hJ_p, hR_p, stI_p, stJ_p, stR_p, stA_p, va_rf_s, va_rf_n, clr_i, clr_l, clr_r, clr_n, clr_o, w8_0, w8_1i, w8_1r, w8_2ii, w8_2ri, w8_2ir, w8_2rr, w8_3, beq_self_eq_true, Bool.and_self, Bool.and_true, Bool.true_and, decide_true, Option.toList_some, Option.toList_none, List.cons_append, List.nil_append, Option.bind_some, if_true, if_false, Nat.reduceLeDiff, Nat.reduceLT, Nat.reduceBEq, Bool.or_false, Bool.false_or, Bool.or_true, Bool.true_or, c0, rnk_c, rp, r6, e1, z01, not_true_eq_false, not_false_eq_true]
          · rw [xX12_sumRead_25]
            simp (disch := omega) only [xX12_sumRead_26, xX12_sumRead_28, xX12_sumRead_31, xX12_sumRead_34, xX12_sumRead_35, xX12_sumRead_38, xX12_sumRead_41, xX12_sumRead_42, xX12_sumRead_45, xX12_sumRead_48, xX12_sumRead_49, xX12_sumRead_52, xX12_sumRead_55, xX12_sumRead_56, xX12_sumRead_59, xX12_sumRead_62, xX12_sumRead_65, xX12_sumRead_66, xX12_sumRead_69, xX12_sumRead_72, xX12_sumRead_73, kd_123, kd_123, ↓reduceIte, gd_t, hK_p, hN_p, hF_p, hI_p, hJ_p, hR_p, stI_p, stJ_p, stR_p, stA_p, va_rf_s, va_rf_n, clr_i, clr_l, clr_r, clr_n, clr_o, w8_0, w8_1i, w8_1r, w8_2ii, w8_2ri, w8_2ir, w8_2rr, w8_3, beq_self_eq_true, Bool.and_self, Bool.and_true, Bool.true_and, decide_true, Option.toList_some, Option.toList_none, List.cons_append, List.nil_append, Option.bind_some, if_true, if_false, Nat.reduceLeDiff, Nat.reduceLT, Nat.reduceBEq, Bool.or_false, Bool.false_or, Bool.or_true, Bool.true_or, isg_m, b, h50, g1, z01, not_true_eq_false, not_false_eq_true]
        · obtain ⟨i7, hip1⟩ := nxt r7 f2
          refine xpO.go (X1 := X1) (Y1 := Y1) (p1 := p1) ?_ f5 r7 f2
          have hI := ih (r - 1) (by omega) (i + 1) X1 Y1 p1 len' w' o (c + 1) 0 (by omega) hip1 f1 f3 (by omega) (by rw [s0]; exact f4)
          rw [s0, q1] at hI
          have ec : E (C (d + 4)) MX7_expression 19 [some (.ref 56), some (.ref g), some (.int 0), some (.int (nI i))] [] (hp X J R) = E (C (d + 4)) MX7_expression 19 [some (.ref 56), some (.ref g), some (.int 1), some (.int (nI (i + 1)))] [] (hp X1 J R) := by
            rw [xX7_expression_19 (h := hp X J R)]
            simp (disch := omega) only [xX7_expression_20, xX7_expression_23, xX7_expression_26, xX7_expression_27, kd_56, fi_56_0, kd_57, xX7_expression_52, xX7_expression_53, xX7_expression_56, xX7_expression_57, xX7_expression_60, xX7_expression_63, xX7_expression_64, xX7_expression_65, xX7_expression_66, xX7_expression_69, xX7_expression_72, xX7_expression_75, xX7_expression_78, xX7_expression_79, xX7_expression_82, xX7_expression_85, xX7_expression_87, xX7_expression_90, xX7_expression_91, xX7_expression_92, xX7_expression_95, xX7_expression_98, xX7_expression_99, xX7_expression_100, xX7_expression_101, xX7_expression_102, kd_56, fi_56_0, kd_57, xX7_expression_129, xX7_expression_132, kd_56, lw_k0 hg, ↓reduceIte, gd_t, hK_p, hN_p, hF_p, hI_p, hJ_p, hR_p, stI_p, stJ_p, stR_p, stA_p, va_rf_s, va_rf_n, clr_i, clr_l, clr_r, clr_n, clr_o, w8_0, w8_1i, w8_1r, w8_2ii, w8_2ri, w8_2ir, w8_2rr, w8_3, beq_self_eq_true, Bool.and_self, Bool.and_true, Bool.true_and, decide_true, Option.toList_some, Option.toList_none, List.cons_append, List.nil_append, Option.bind_some, if_true, if_false, Nat.reduceLeDiff, Nat.reduceLT, Nat.reduceBEq, Bool.or_false, Bool.false_or, Bool.or_true, Bool.true_or, c0, rnk_c, rp, r6, e1, n1, nI_1, not_true_eq_false, not_false_eq_true]
          have em : E (C (d + 4)) MX12_sumRead 25 [some (.ref 123)] [] (hp Y J2 R2) = E (C (d + 4)) MX12_sumRead 25 [some (.ref 123)] [] (hp Y1 J2 R2) := by
            rw [xX12_sumRead_25 (h := hp Y J2 R2)]
            simp (disch := omega) only [xX12_sumRead_26, xX12_sumRead_28, xX12_sumRead_31, xX12_sumRead_34, xX12_sumRead_35, xX12_sumRead_38, xX12_sumRead_41, xX12_sumRead_42, xX12_sumRead_45, xX12_sumRead_48, xX12_sumRead_49, xX12_sumRead_52, xX12_sumRead_55, xX12_sumRead_56, xX12_sumRead_59, xX12_sumRead_62, xX12_sumRead_65, xX12_sumRead_66, xX12_sumRead_69, kd_123, kd_123, ↓reduceIte, gd_t, hK_p, hN_p, hF_p, hI_p, hJ_p, hR_p, stI_p, stJ_p, stR_p, stA_p, va_rf_s, va_rf_n, clr_i, clr_l, clr_r, clr_n, clr_o, w8_0, w8_1i, w8_1r, w8_2ii, w8_2ri, w8_2ir, w8_2rr, w8_3, beq_self_eq_true, Bool.and_self, Bool.and_true, Bool.true_and, decide_true, Option.toList_some, Option.toList_none, List.cons_append, List.nil_append, Option.bind_some, if_true, if_false, Nat.reduceLeDiff, Nat.reduceLT, Nat.reduceBEq, Bool.or_false, Bool.false_or, Bool.or_true, Bool.true_or, isg_m, b, h50, g1, n1, not_true_eq_false, not_false_eq_true]
          rw [ec, em]
          exact hI
      · -- up to 105
        have h105 : E (C (d + 4)) MX7_expression 19 [some (.ref 56), some (.ref g), some (.int 0), some (.int (nI i))] [] (hp X J R) = E (C (d + 4)) MX7_expression 105 [some (.ref 56), some (.ref g), some (.int 0), some (.int (nI i))] [] (hp X J R) := by
          have r6 := rkF_6 (X 57 4)
          rw [xX7_expression_19]
          by_cases rz : rkF (X 57 4) = 0
          · have rp : nI (rkF (X 57 4)) ≤ 0 := by rw [rz]; decide
            simp (disch := omega) only [xX7_expression_20, xX7_expression_23, xX7_expression_26, xX7_expression_27, kd_56, fi_56_0, kd_57, xX7_expression_52, xX7_expression_53, xX7_expression_56, xX7_expression_57, xX7_expression_60, xX7_expression_63, xX7_expression_64, xX7_expression_65, xX7_expression_66, xX7_expression_69, xX7_expression_72, xX7_expression_75, xX7_expression_78, xX7_expression_79, xX7_expression_82, xX7_expression_85, xX7_expression_87, kd_56, fi_56_0, kd_57, kd_56, lw_k0 hg, ↓reduceIte, gd_t, hK_p, hN_p, hF_p, hI_p, hJ_p, hR_p, stI_p, stJ_p, stR_p, stA_p, va_rf_s, va_rf_n, clr_i, clr_l, clr_r, clr_n, clr_o, w8_0, w8_1i, w8_1r, w8_2ii, w8_2ri, w8_2ir, w8_2rr, w8_3, beq_self_eq_true, Bool.and_self, Bool.and_true, Bool.true_and, decide_true, Option.toList_some, Option.toList_none, List.cons_append, List.nil_append, Option.bind_some, if_true, if_false, Nat.reduceLeDiff, Nat.reduceLT, Nat.reduceBEq, Bool.or_false, Bool.false_or, Bool.or_true, Bool.true_or, c0, rnk_c, rp]
          · have rp : ¬ nI (rkF (X 57 4)) ≤ 0 := fun q => absurd ((nI_leI (a := rkF (X 57 4)) (b := 0) (by omega) (by omega)).mp q) (by omega)
            have z17 : X 57 4 = 17 := by
              by_cases z : X 57 4 = 17
              · exact z
              · exact absurd (hbn.mpr ⟨by omega, z⟩) hbin
            have z17' := eq_true z17
            simp (disch := omega) only [xX7_expression_20, xX7_expression_23, xX7_expression_26, xX7_expression_27, kd_56, fi_56_0, kd_57, xX7_expression_52, xX7_expression_53, xX7_expression_56, xX7_expression_57, xX7_expression_60, xX7_expression_63, xX7_expression_64, xX7_expression_65, xX7_expression_66, xX7_expression_69, xX7_expression_72, xX7_expression_75, xX7_expression_78, xX7_expression_79, xX7_expression_82, xX7_expression_85, xX7_expression_87, kd_56, fi_56_0, kd_57, kd_56, lw_k0 hg, ↓reduceIte, gd_t, hK_p, hN_p, hF_p, hI_p, hJ_p, hR_p, stI_p, stJ_p, stR_p, stA_p, va_rf_s, va_rf_n, clr_i, clr_l, clr_r, clr_n, clr_o, w8_0, w8_1i, w8_1r, w8_2ii, w8_2ri, w8_2ir, w8_2rr, w8_3, beq_self_eq_true, Bool.and_self, Bool.and_true, Bool.true_and, decide_true, Option.toList_some, Option.toList_none, List.cons_append, List.nil_append, Option.bind_some, if_true, if_false, Nat.reduceLeDiff, Nat.reduceLT, Nat.reduceBEq, Bool.or_false, Bool.false_or, Bool.or_true, Bool.true_or, c0, rnk_c, rp, z17']
        by_cases h6 : X 57 4 = 6 ∧ 0 < o
        · obtain ⟨h6, ho⟩ := h6
          have hk : ¬ X 57 4 = 0 := by rw [h6]; decide
          have n4 : ¬ X 57 4 = 4 := by rw [h6]; decide
          have b : bi (Y 123 8 = 4 ∧ Y 123 9 = 59) = 0 := if_neg (fun q => n4 (v5.mpr q))
          have c1 : ¬ (nI o : Int32) ≤ 0 := fun q => absurd ((nI_leI (a := o) (b := 0) (by omega) (by omega)).mp q) (by omega)
          obtain ⟨X1, Y1, p1, len', w', e1, g1, f1, f2, f3, f4, f5⟩ := clo_p (d := d) (J := J) (J2 := J2) (R := R) (R2 := R2) hP hg hx h6 ho
          obtain ⟨i7, hip1⟩ := nxt hk f2
          refine xpO.go (X1 := X1) (Y1 := Y1) (p1 := p1) ?_ f5 hk f2
          have hI := ih (r - 1) (by omega) (i + 1) X1 Y1 p1 len' w' (o - 1) c 1 (by omega) hip1 f1 f3 (by omega) (by rw [s1, f4]; exact h50)
          rw [s1, q0] at hI
          have h6' := eq_true h6
          have ec : E (C (d + 4)) MX7_expression 19 [some (.ref 56), some (.ref g), some (.int 0), some (.int (nI i))] [] (hp X J R) = E (C (d + 4)) MX7_expression 19 [some (.ref 56), some (.ref g), some (.int 0), some (.int (nI (i + 1)))] [] (hp X1 J R) := by
            rw [h105]
            simp (disch := omega) only [xX7_expression_105, xX7_expression_106, xX7_expression_109, xX7_expression_112, xX7_expression_114, xX7_expression_117, xX7_expression_118, xX7_expression_121, xX7_expression_124, xX7_expression_125, xX7_expression_126, xX7_expression_129, xX7_expression_132, kd_56, fi_56_0, kd_57, kd_56, lw_k0 hg, ↓reduceIte, gd_t, hK_p, hN_p, hF_p, hI_p, hJ_p, hR_p, stI_p, stJ_p, stR_p, stA_p, va_rf_s, va_rf_n, clr_i, clr_l, clr_r, clr_n, clr_o, w8_0, w8_1i, w8_1r, w8_2ii, w8_2ri, w8_2ir, w8_2rr, w8_3, beq_self_eq_true, Bool.and_self, Bool.and_true, Bool.true_and, decide_true, Option.toList_some, Option.toList_none, List.cons_append, List.nil_append, Option.bind_some, if_true, if_false, Nat.reduceLeDiff, Nat.reduceLT, Nat.reduceBEq, Bool.or_false, Bool.false_or, Bool.or_true, Bool.true_or, h6', o1, c1, e1, nI_1, not_true_eq_false]
          have em : E (C (d + 4)) MX12_sumRead 25 [some (.ref 123)] [] (hp Y J2 R2) = E (C (d + 4)) MX12_sumRead 25 [some (.ref 123)] [] (hp Y1 J2 R2) := by
            rw [xX12_sumRead_25 (h := hp Y J2 R2)]
            simp (disch := omega) only [xX12_sumRead_26, xX12_sumRead_28, xX12_sumRead_31, xX12_sumRead_34, xX12_sumRead_35, xX12_sumRead_38, xX12_sumRead_41, xX12_sumRead_42, xX12_sumRead_45, xX12_sumRead_48, xX12_sumRead_49, xX12_sumRead_52, xX12_sumRead_55, xX12_sumRead_56, xX12_sumRead_59, xX12_sumRead_62, xX12_sumRead_65, xX12_sumRead_66, xX12_sumRead_69, kd_123, kd_123, ↓reduceIte, gd_t, hK_p, hN_p, hF_p, hI_p, hJ_p, hR_p, stI_p, stJ_p, stR_p, stA_p, va_rf_s, va_rf_n, clr_i, clr_l, clr_r, clr_n, clr_o, w8_0, w8_1i, w8_1r, w8_2ii, w8_2ri, w8_2ir, w8_2rr, w8_3, beq_self_eq_true, Bool.and_self, Bool.and_true, Bool.true_and, decide_true, Option.toList_some, Option.toList_none, List.cons_append, List.nil_append, Option.bind_some, if_true, if_false, Nat.reduceLeDiff, Nat.reduceLT, Nat.reduceBEq, Bool.or_false, Bool.false_or, Bool.or_true, Bool.true_or, isg_m, b, h50, g1, n1, not_true_eq_false, not_false_eq_true]
          rw [ec, em]
          exact hI
        · -- up to 135
          have h135 : E (C (d + 4)) MX7_expression 19 [some (.ref 56), some (.ref g), some (.int 0), some (.int (nI i))] [] (hp X J R) = E (C (d + 4)) MX7_expression 135 [some (.ref 56), some (.ref g), some (.int 0), some (.int (nI i))] [] (hp X J R) := by
            rw [h105]
            by_cases z6 : X 57 4 = 6
            · have z6' := eq_true z6
              have oz : o = 0 := by
                rcases Nat.eq_zero_or_pos o with q | q
                · exact q
                · exact absurd ⟨z6, q⟩ h6
              have c1 : (nI o : Int32) ≤ 0 := by rw [oz]; decide
              simp (disch := omega) only [xX7_expression_105, xX7_expression_106, xX7_expression_109, xX7_expression_112, xX7_expression_114, xX7_expression_117, xX7_expression_118, xX7_expression_121, kd_56, fi_56_0, kd_57, kd_56, lw_k0 hg, ↓reduceIte, gd_t, hK_p, hN_p, hF_p, hI_p, hJ_p, hR_p, stI_p, stJ_p, stR_p, stA_p, va_rf_s, va_rf_n, clr_i, clr_l, clr_r, clr_n, clr_o, w8_0, w8_1i, w8_1r, w8_2ii, w8_2ri, w8_2ir, w8_2rr, w8_3, beq_self_eq_true, Bool.and_self, Bool.and_true, Bool.true_and, decide_true, Option.toList_some, Option.toList_none, List.cons_append, List.nil_append, Option.bind_some, if_true, if_false, Nat.reduceLeDiff, Nat.reduceLT, Nat.reduceBEq, Bool.or_false, Bool.false_or, Bool.or_true, Bool.true_or, z6', o1, c1, not_true_eq_false]
            · simp (disch := omega) only [xX7_expression_105, xX7_expression_106, xX7_expression_109, xX7_expression_112, xX7_expression_114, xX7_expression_117, xX7_expression_118, xX7_expression_121, kd_56, fi_56_0, kd_57, kd_56, lw_k0 hg, ↓reduceIte, gd_t, hK_p, hN_p, hF_p, hI_p, hJ_p, hR_p, stI_p, stJ_p, stR_p, stA_p, va_rf_s, va_rf_n, clr_i, clr_l, clr_r, clr_n, clr_o, w8_0, w8_1i, w8_1r, w8_2ii, w8_2ri, w8_2ir, w8_2rr, w8_3, beq_self_eq_true, Bool.and_self, Bool.and_true, Bool.true_and, decide_true, Option.toList_some, Option.toList_none, List.cons_append, List.nil_append, Option.bind_some, if_true, if_false, Nat.reduceLeDiff, Nat.reduceLT, Nat.reduceBEq, Bool.or_false, Bool.false_or, Bool.or_true, Bool.true_or, z6, not_false_eq_true]
          have hsn := sgn_n (d := d + 2) (J2 := J2) (R2 := R2) hP hbin h6 o2 o3
          obtain ⟨f1, f2, f3⟩ := ref_p (k := 1) hP
          by_cases oz : o = 0
          · subst oz
            have c1 : (nI 0 : Int32) ≤ 0 := by decide
            obtain ⟨X1, Y1, len1, w', e1, g1, h1, htop, fr⟩ := rel_q (d := d + 2) (J := J) (J2 := J2) (R := R) (R2 := R2) (lst := 1) hg (by omega) (by omega) hx
            rw [q1] at e1 g1
            obtain ⟨fr1, fr2, fr3, fr4, fr5, fr6⟩ := id fr
            have ec : E (C (d + 4)) MX7_expression 19 [some (.ref 56), some (.ref g), some (.int 0), some (.int (nI i))] [] (hp X J R) = some (some (.int 1), hp X1 J R) := by
              rw [h135]
              simp (disch := omega) only [xX7_expression_135, xX7_expression_136, xX7_expression_139, xX7_expression_140, xX7_expression_143, xX7_expression_146, xX7_expression_147, xX7_expression_148, xX7_expression_151, xX7_expression_152, xX7_expression_153, xX7_expression_154, xX7_expression_155, xX7_expression_158, xX7_expression_159, kd_56, fi_56_0, kd_57, kd_56, lw_k0 hg, ↓reduceIte, gd_t, hK_p, hN_p, hF_p, hI_p, hJ_p, hR_p, stI_p, stJ_p, stR_p, stA_p, va_rf_s, va_rf_n, clr_i, clr_l, clr_r, clr_n, clr_o, w8_0, w8_1i, w8_1r, w8_2ii, w8_2ri, w8_2ir, w8_2rr, w8_3, beq_self_eq_true, Bool.and_self, Bool.and_true, Bool.true_and, decide_true, Option.toList_some, Option.toList_none, List.cons_append, List.nil_append, Option.bind_some, if_true, if_false, Nat.reduceLeDiff, Nat.reduceLT, Nat.reduceBEq, Bool.or_false, Bool.false_or, Bool.or_true, Bool.true_or, o1, c1, e1, z11, not_true_eq_false]
            by_cases z4 : X 57 4 = 4
            · have b : bi (Y 123 8 = 4 ∧ Y 123 9 = 59) = 1 := if_pos (v5.mp z4)
              obtain ⟨hpf1, ⟨a1, a2, a3⟩, ⟨p1, p2, p3, p4⟩, ⟨l1, l2, l3, l4⟩, hd1, hh1⟩ := id h1
              have hw0 : w' = 0 := by
                rcases htop with q | q
                · exact q
                · rcases Nat.eq_zero_or_pos w' with t | t
                  · exact t
                  · obtain ⟨y, rfl⟩ : ∃ y, w' = y + 1 := ⟨w' - 1, by omega⟩
                    rw [Nat.add_sub_cancel] at q
                    have t5 := wt_rk0 (a3 y (by omega)) (by omega)
                    rw [opn, if_pos t5] at p4
                    omega
              subst hw0
              have s1' : psR X1 Y1 L u p := psR_m (psR_c hP (fun a ha => fr1 a (by omega) (by omega) (by omega) (by omega)) (fun k hk => fr3 k (by omega))) (fr4 _ (by decide) (by decide)) (fr4 _ (by decide) (by decide)) (fun k _ _ => fr6 k (by omega) (by omega) (by omega))
              have hc' : c = fi + len1 := by omega
              refine Or.inr (Or.inr ⟨X1, Y1, p, len1, ec, ?_, by rw [fr1 57 (by omega) (by omega) (by omega) (by omega)]; exact z4, by rw [z4]; decide, s1', Nat.le_refl p, hpf1, hh1, hc' ▸ l1, hc' ▸ l2, fr.xp⟩)
              rw [xX12_sumRead_25]
              simp (disch := omega) only [xX12_sumRead_26, xX12_sumRead_28, xX12_sumRead_31, xX12_sumRead_34, xX12_sumRead_35, xX12_sumRead_38, xX12_sumRead_41, xX12_sumRead_42, xX12_sumRead_45, kd_123, xX12_sumRead_74, xX12_sumRead_75, xX12_sumRead_76, xX12_sumRead_79, xX12_sumRead_80, kd_123, kd_123, ↓reduceIte, gd_t, hK_p, hN_p, hF_p, hI_p, hJ_p, hR_p, stI_p, stJ_p, stR_p, stA_p, va_rf_s, va_rf_n, clr_i, clr_l, clr_r, clr_n, clr_o, w8_0, w8_1i, w8_1r, w8_2ii, w8_2ri, w8_2ir, w8_2rr, w8_3, beq_self_eq_true, Bool.and_self, Bool.and_true, Bool.true_and, decide_true, Option.toList_some, Option.toList_none, List.cons_append, List.nil_append, Option.bind_some, if_true, if_false, Nat.reduceLeDiff, Nat.reduceLT, Nat.reduceBEq, Bool.or_false, Bool.false_or, Bool.or_true, Bool.true_or, isg_m, b, h50, o2, c1, g1, n1, z11, not_true_eq_false, not_false_eq_true]
            · have b : bi (Y 123 8 = 4 ∧ Y 123 9 = 59) = 0 := if_neg (fun q => z4 (v5.mpr q))
              obtain ⟨f3a, f3b⟩ := id f3
              refine Or.inr (Or.inl ⟨X1, va_up Y 123 (upd (upd (Y 123) 4 1) 5 (Y 123 10)), ec, ?_, by rw [fr1 57 (by omega) (by omega) (by omega) (by omega)]; exact z4, by rw [up_s, pk_un (by decide), pk_us], ?_, ?_⟩)
              · rw [xX12_sumRead_25]
                simp (disch := omega) only [xX12_sumRead_26, xX12_sumRead_28, xX12_sumRead_31, xX12_sumRead_34, xX12_sumRead_35, xX12_sumRead_38, xX12_sumRead_41, xX12_sumRead_42, xX12_sumRead_45, xX12_sumRead_48, xX12_sumRead_49, xX12_sumRead_52, xX12_sumRead_55, xX12_sumRead_56, xX12_sumRead_59, xX12_sumRead_62, xX12_sumRead_65, xX12_sumRead_66, xX12_sumRead_69, xX12_sumRead_72, xX12_sumRead_73, kd_123, kd_123, ↓reduceIte, gd_t, hK_p, hN_p, hF_p, hI_p, hJ_p, hR_p, stI_p, stJ_p, stR_p, stA_p, va_rf_s, va_rf_n, clr_i, clr_l, clr_r, clr_n, clr_o, w8_0, w8_1i, w8_1r, w8_2ii, w8_2ri, w8_2ir, w8_2rr, w8_3, beq_self_eq_true, Bool.and_self, Bool.and_true, Bool.true_and, decide_true, Option.toList_some, Option.toList_none, List.cons_append, List.nil_append, Option.bind_some, if_true, if_false, Nat.reduceLeDiff, Nat.reduceLT, Nat.reduceBEq, Bool.or_false, Bool.false_or, Bool.or_true, Bool.true_or, isg_m, b, h50, hsn, z01, not_true_eq_false, not_false_eq_true]
              · rw [up_s, pk_us, fr1 57 (by omega) (by omega) (by omega) (by omega), hS.2.2.2.1, hS.2.2.2.2.1]
              · have t := fr.xp
                obtain ⟨t1, t2, t3, t4, t5, t6⟩ := t
                exact ⟨t1, t2, t3, fun a h1 _ => f3a a h1, fun a k h1 h2 _ => by rw [f3a a (by omega)], fun k hk => f3b k (by omega)⟩
          · have c1 : ¬ (nI o : Int32) ≤ 0 := fun q => absurd ((nI_leI (a := o) (b := 0) (by omega) (by omega)).mp q) (by omega)
            refine Or.inl ⟨_, _, ?_, ?_, f1, xpF_f hg f2 f3⟩
            · rw [h135]
              simp (disch := omega) only [xX7_expression_135, xX7_expression_136, xX7_expression_139, xX7_expression_140, xX7_expression_143, xX7_expression_146, xX7_expression_147, xX7_expression_148, xX7_expression_151, kd_56, fi_56_0, kd_57, kd_56, lw_k0 hg, ↓reduceIte, gd_t, hK_p, hN_p, hF_p, hI_p, hJ_p, hR_p, stI_p, stJ_p, stR_p, stA_p, va_rf_s, va_rf_n, clr_i, clr_l, clr_r, clr_n, clr_o, w8_0, w8_1i, w8_1r, w8_2ii, w8_2ri, w8_2ir, w8_2rr, w8_3, beq_self_eq_true, Bool.and_self, Bool.and_true, Bool.true_and, decide_true, Option.toList_some, Option.toList_none, List.cons_append, List.nil_append, Option.bind_some, if_true, if_false, Nat.reduceLeDiff, Nat.reduceLT, Nat.reduceBEq, Bool.or_false, Bool.false_or, Bool.or_true, Bool.true_or, o1, c1, ref_c, z01, not_true_eq_false]
            · rw [xX12_sumRead_25]
              by_cases z : Y 123 8 = 4 ∧ Y 123 9 = 59
              · have b : bi (Y 123 8 = 4 ∧ Y 123 9 = 59) = 1 := if_pos z
                simp (disch := omega) only [xX12_sumRead_26, xX12_sumRead_28, xX12_sumRead_31, xX12_sumRead_34, xX12_sumRead_35, xX12_sumRead_38, xX12_sumRead_41, xX12_sumRead_42, xX12_sumRead_45, xX12_sumRead_48, xX12_sumRead_49, xX12_sumRead_52, xX12_sumRead_55, xX12_sumRead_56, xX12_sumRead_59, xX12_sumRead_62, xX12_sumRead_65, xX12_sumRead_66, xX12_sumRead_69, xX12_sumRead_72, xX12_sumRead_73, kd_123, kd_123, ↓reduceIte, gd_t, hK_p, hN_p, hF_p, hI_p, hJ_p, hR_p, stI_p, stJ_p, stR_p, stA_p, va_rf_s, va_rf_n, clr_i, clr_l, clr_r, clr_n, clr_o, w8_0, w8_1i, w8_1r, w8_2ii, w8_2ri, w8_2ir, w8_2rr, w8_3, beq_self_eq_true, Bool.and_self, Bool.and_true, Bool.true_and, decide_true, Option.toList_some, Option.toList_none, List.cons_append, List.nil_append, Option.bind_some, if_true, if_false, Nat.reduceLeDiff, Nat.reduceLT, Nat.reduceBEq, Bool.or_false, Bool.false_or, Bool.or_true, Bool.true_or, isg_m, b, h50, o2, c1, hsn, n1, z01, not_true_eq_false, not_false_eq_true]
              · have b : bi (Y 123 8 = 4 ∧ Y 123 9 = 59) = 0 := if_neg z
                simp (disch := omega) only [xX12_sumRead_26, xX12_sumRead_28, xX12_sumRead_31, xX12_sumRead_34, xX12_sumRead_35, xX12_sumRead_38, xX12_sumRead_41, xX12_sumRead_42, xX12_sumRead_45, xX12_sumRead_48, xX12_sumRead_49, xX12_sumRead_52, xX12_sumRead_55, xX12_sumRead_56, xX12_sumRead_59, xX12_sumRead_62, xX12_sumRead_65, xX12_sumRead_66, xX12_sumRead_69, xX12_sumRead_72, xX12_sumRead_73, kd_123, kd_123, ↓reduceIte, gd_t, hK_p, hN_p, hF_p, hI_p, hJ_p, hR_p, stI_p, stJ_p, stR_p, stA_p, va_rf_s, va_rf_n, clr_i, clr_l, clr_r, clr_n, clr_o, w8_0, w8_1i, w8_1r, w8_2ii, w8_2ri, w8_2ir, w8_2rr, w8_3, beq_self_eq_true, Bool.and_self, Bool.and_true, Bool.true_and, decide_true, Option.toList_some, Option.toList_none, List.cons_append, List.nil_append, Option.bind_some, if_true, if_false, Nat.reduceLeDiff, Nat.reduceLT, Nat.reduceBEq, Bool.or_false, Bool.false_or, Bool.or_true, Bool.true_or, isg_m, b, h50, hsn, z01, not_true_eq_false, not_false_eq_true]
end XL

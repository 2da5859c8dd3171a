-- TEXT, 28: an E: signs, of both
theorem bin_rk {k : Int32} (h : isBin k) : 1 ≤ rkF k ∧ rkF k ≤ 6 ∧ (rkF k = 4 ↔ 11 ≤ k ∧ k ≤ 16) ∧ (rkF k < 3 ↔ k = 18 ∨ k = 19) ∧ ¬ k = 5 ∧ ¬ k = 17 ∧ ¬ k = 0 ∧ ¬ kmp k = 0 ∧ ¬ k = 6 := by
  rcases h with rfl | rfl | rfl | rfl | rfl | rfl | rfl | rfl | rfl | rfl | rfl | rfl <;> decide
theorem wt_rk0 {k m : Int32} (h : wt1 k m) (h0 : rkF k = 0) : k = 5 := by
  rcases h with ⟨rfl, -⟩ | ⟨rfl, -⟩ | ⟨h, -⟩
  · rfl
  · exact absurd h0 (by decide)
  · exact absurd h0 (by have := (bin_rk h).1; omega)
section SG
variable {X Y : Mem} {J J2 : MemL} {R R2 : MemR} {L p g fi len w o c : Nat} {u : Nat → Nat}
/-- the model: which sign it is -/
theorem sgn_m {d : Nat} {l1 : Option Value} : E (C (d + 1)) MX12_signs 47 [some (.ref 123), l1] [] (hp Y J2 R2) = E (C (d + 1)) MX12_signs 147 [some (.ref 123), l1] [.int (sgF (Y 123 8) (Y 123 9))] (hp Y J2 R2) := by
  rw [xX12_signs_47]
  unfold sgF
  have n1 : ¬ (1 : Int32) = 0 := by decide
  have bt : ∀ (c : Prop) [Decidable c], c → bi c = 1 := fun _ _ q => if_pos q
  have bf : ∀ (c : Prop) [Decidable c], ¬ c → bi c = 0 := fun _ _ q => if_neg q
  by_cases a1 : Y 123 8 = 1 ∧ Y 123 9 = 11
  · rw [if_pos a1]
    have b1 := bt _ a1
    simp (disch := omega) only [xX12_signs_48, xX12_signs_50, xX12_signs_53, xX12_signs_56, xX12_signs_57, xX12_signs_60, xX12_signs_61, xX12_signs_63, xX12_signs_66, xX12_signs_69, xX12_signs_70, xX12_signs_73, xX12_signs_74, xX12_signs_77, xX12_signs_78, xX12_signs_81, xX12_signs_82, xX12_signs_83, xX12_signs_86, xX12_signs_87, xX12_signs_90, xX12_signs_91, xX12_signs_93, xX12_signs_96, xX12_signs_99, xX12_signs_101, xX12_signs_104, xX12_signs_105, xX12_signs_107, xX12_signs_110, xX12_signs_113, xX12_signs_115, xX12_signs_118, xX12_signs_119, xX12_signs_121, xX12_signs_124, xX12_signs_127, xX12_signs_129, xX12_signs_132, xX12_signs_133, xX12_signs_135, xX12_signs_138, xX12_signs_141, xX12_signs_143, kd_123, fi_123_44, kd_147, ln_147, kd_123, ↓reduceIte, gd_t, hK_p, hN_p, hF_p, hI_p, hJ_p, hR_p, stI_p, stJ_p, stR_p, stA_p, va_rf_s, va_rf_n, clr_i, clr_l, clr_r, clr_n, clr_o, w8_0, w8_1i, w8_1r, w8_2ii, w8_2ri, w8_2ir, w8_2rr, w8_3, beq_self_eq_true, Bool.and_self, Bool.and_true, Bool.true_and, decide_true, Option.toList_some, Option.toList_none, List.cons_append, List.nil_append, Option.bind_some, if_true, if_false, Nat.reduceLeDiff, Nat.reduceLT, Nat.reduceBEq, Bool.or_false, Bool.false_or, Bool.or_true, Bool.true_or, isk_m, isg_m, b1, n1]
  rw [if_neg a1]
  have b1 := bf _ a1
  by_cases a2 : Y 123 8 = 1 ∧ Y 123 9 = 12
  · rw [if_pos a2]
    have b2 := bt _ a2
    simp (disch := omega) only [xX12_signs_48, xX12_signs_50, xX12_signs_53, xX12_signs_56, xX12_signs_57, xX12_signs_60, xX12_signs_61, xX12_signs_63, xX12_signs_66, xX12_signs_69, xX12_signs_70, xX12_signs_73, xX12_signs_74, xX12_signs_77, xX12_signs_78, xX12_signs_81, xX12_signs_82, xX12_signs_83, xX12_signs_86, xX12_signs_87, xX12_signs_90, xX12_signs_91, xX12_signs_93, xX12_signs_96, xX12_signs_99, xX12_signs_101, xX12_signs_104, xX12_signs_105, xX12_signs_107, xX12_signs_110, xX12_signs_113, xX12_signs_115, xX12_signs_118, xX12_signs_119, xX12_signs_121, xX12_signs_124, xX12_signs_127, xX12_signs_129, xX12_signs_132, xX12_signs_133, xX12_signs_135, xX12_signs_138, xX12_signs_141, xX12_signs_143, kd_123, fi_123_44, kd_147, ln_147, kd_123, ↓reduceIte, gd_t, hK_p, hN_p, hF_p, hI_p, hJ_p, hR_p, stI_p, stJ_p, stR_p, stA_p, va_rf_s, va_rf_n, clr_i, clr_l, clr_r, clr_n, clr_o, w8_0, w8_1i, w8_1r, w8_2ii, w8_2ri, w8_2ir, w8_2rr, w8_3, beq_self_eq_true, Bool.and_self, Bool.and_true, Bool.true_and, decide_true, Option.toList_some, Option.toList_none, List.cons_append, List.nil_append, Option.bind_some, if_true, if_false, Nat.reduceLeDiff, Nat.reduceLT, Nat.reduceBEq, Bool.or_false, Bool.false_or, Bool.or_true, Bool.true_or, isk_m, isg_m, b1, b2, n1]
  rw [if_neg a2]
  have b2 := bf _ a2
  by_cases a3 : Y 123 8 = 5
  · rw [if_pos a3]
    have a3' := eq_true a3
    simp (disch := omega) only [xX12_signs_48, xX12_signs_50, xX12_signs_53, xX12_signs_56, xX12_signs_57, xX12_signs_60, xX12_signs_61, xX12_signs_63, xX12_signs_66, xX12_signs_69, xX12_signs_70, xX12_signs_73, xX12_signs_74, xX12_signs_77, xX12_signs_78, xX12_signs_81, xX12_signs_82, xX12_signs_83, xX12_signs_86, xX12_signs_87, xX12_signs_90, xX12_signs_91, xX12_signs_93, xX12_signs_96, xX12_signs_99, xX12_signs_101, xX12_signs_104, xX12_signs_105, xX12_signs_107, xX12_signs_110, xX12_signs_113, xX12_signs_115, xX12_signs_118, xX12_signs_119, xX12_signs_121, xX12_signs_124, xX12_signs_127, xX12_signs_129, xX12_signs_132, xX12_signs_133, xX12_signs_135, xX12_signs_138, xX12_signs_141, xX12_signs_143, kd_123, fi_123_44, kd_147, ln_147, kd_123, ↓reduceIte, gd_t, hK_p, hN_p, hF_p, hI_p, hJ_p, hR_p, stI_p, stJ_p, stR_p, stA_p, va_rf_s, va_rf_n, clr_i, clr_l, clr_r, clr_n, clr_o, w8_0, w8_1i, w8_1r, w8_2ii, w8_2ri, w8_2ir, w8_2rr, w8_3, beq_self_eq_true, Bool.and_self, Bool.and_true, Bool.true_and, decide_true, Option.toList_some, Option.toList_none, List.cons_append, List.nil_append, Option.bind_some, if_true, if_false, Nat.reduceLeDiff, Nat.reduceLT, Nat.reduceBEq, Bool.or_false, Bool.false_or, Bool.or_true, Bool.true_or, isk_m, isg_m, b1, b2, a3', n1, not_true_eq_false]
  rw [if_neg a3]
  by_cases a4 : Y 123 8 = 4 ∧ Y 123 9 = 43
  · rw [if_pos a4]
    have b4 := bt _ a4
    simp (disch := omega) only [xX12_signs_48, xX12_signs_50, xX12_signs_53, xX12_signs_56, xX12_signs_57, xX12_signs_60, xX12_signs_61, xX12_signs_63, xX12_signs_66, xX12_signs_69, xX12_signs_70, xX12_signs_73, xX12_signs_74, xX12_signs_77, xX12_signs_78, xX12_signs_81, xX12_signs_82, xX12_signs_83, xX12_signs_86, xX12_signs_87, xX12_signs_90, xX12_signs_91, xX12_signs_93, xX12_signs_96, xX12_signs_99, xX12_signs_101, xX12_signs_104, xX12_signs_105, xX12_signs_107, xX12_signs_110, xX12_signs_113, xX12_signs_115, xX12_signs_118, xX12_signs_119, xX12_signs_121, xX12_signs_124, xX12_signs_127, xX12_signs_129, xX12_signs_132, xX12_signs_133, xX12_signs_135, xX12_signs_138, xX12_signs_141, xX12_signs_143, kd_123, fi_123_44, kd_147, ln_147, kd_123, ↓reduceIte, gd_t, hK_p, hN_p, hF_p, hI_p, hJ_p, hR_p, stI_p, stJ_p, stR_p, stA_p, va_rf_s, va_rf_n, clr_i, clr_l, clr_r, clr_n, clr_o, w8_0, w8_1i, w8_1r, w8_2ii, w8_2ri, w8_2ir, w8_2rr, w8_3, beq_self_eq_true, Bool.and_self, Bool.and_true, Bool.true_and, decide_true, Option.toList_some, Option.toList_none, List.cons_append, List.nil_append, Option.bind_some, if_true, if_false, Nat.reduceLeDiff, Nat.reduceLT, Nat.reduceBEq, Bool.or_false, Bool.false_or, Bool.or_true, Bool.true_or, isk_m, isg_m, b1, b2, a3, b4, n1, not_false_eq_true]
  rw [if_neg a4]
  have b4 := bf _ a4
  by_cases a5 : Y 123 8 = 4 ∧ Y 123 9 = 45
  · rw [if_pos a5]
    have b5 := bt _ a5
    simp (disch := omega) only [xX12_signs_48, xX12_signs_50, xX12_signs_53, xX12_signs_56, xX12_signs_57, xX12_signs_60, xX12_signs_61, xX12_signs_63, xX12_signs_66, xX12_signs_69, xX12_signs_70, xX12_signs_73, xX12_signs_74, xX12_signs_77, xX12_signs_78, xX12_signs_81, xX12_signs_82, xX12_signs_83, xX12_signs_86, xX12_signs_87, xX12_signs_90, xX12_signs_91, xX12_signs_93, xX12_signs_96, xX12_signs_99, xX12_signs_101, xX12_signs_104, xX12_signs_105, xX12_signs_107, xX12_signs_110, xX12_signs_113, xX12_signs_115, xX12_signs_118, xX12_signs_119, xX12_signs_121, xX12_signs_124, xX12_signs_127, xX12_signs_129, xX12_signs_132, xX12_signs_133, xX12_signs_135, xX12_signs_138, xX12_signs_141, xX12_signs_143, kd_123, fi_123_44, kd_147, ln_147, kd_123, ↓reduceIte, gd_t, hK_p, hN_p, hF_p, hI_p, hJ_p, hR_p, stI_p, stJ_p, stR_p, stA_p, va_rf_s, va_rf_n, clr_i, clr_l, clr_r, clr_n, clr_o, w8_0, w8_1i, w8_1r, w8_2ii, w8_2ri, w8_2ir, w8_2rr, w8_3, beq_self_eq_true, Bool.and_self, Bool.and_true, Bool.true_and, decide_true, Option.toList_some, Option.toList_none, List.cons_append, List.nil_append, Option.bind_some, if_true, if_false, Nat.reduceLeDiff, Nat.reduceLT, Nat.reduceBEq, Bool.or_false, Bool.false_or, Bool.or_true, Bool.true_or, isk_m, isg_m, b1, b2, a3, b4, b5, n1, not_false_eq_true]
  rw [if_neg a5]
  have b5 := bf _ a5
  by_cases a6 : Y 123 8 = 4 ∧ Y 123 9 = 42
  · rw [if_pos a6]
    have b6 := bt _ a6
    simp (disch := omega) only [xX12_signs_48, xX12_signs_50, xX12_signs_53, xX12_signs_56, xX12_signs_57, xX12_signs_60, xX12_signs_61, xX12_signs_63, xX12_signs_66, xX12_signs_69, xX12_signs_70, xX12_signs_73, xX12_signs_74, xX12_signs_77, xX12_signs_78, xX12_signs_81, xX12_signs_82, xX12_signs_83, xX12_signs_86, xX12_signs_87, xX12_signs_90, xX12_signs_91, xX12_signs_93, xX12_signs_96, xX12_signs_99, xX12_signs_101, xX12_signs_104, xX12_signs_105, xX12_signs_107, xX12_signs_110, xX12_signs_113, xX12_signs_115, xX12_signs_118, xX12_signs_119, xX12_signs_121, xX12_signs_124, xX12_signs_127, xX12_signs_129, xX12_signs_132, xX12_signs_133, xX12_signs_135, xX12_signs_138, xX12_signs_141, xX12_signs_143, kd_123, fi_123_44, kd_147, ln_147, kd_123, ↓reduceIte, gd_t, hK_p, hN_p, hF_p, hI_p, hJ_p, hR_p, stI_p, stJ_p, stR_p, stA_p, va_rf_s, va_rf_n, clr_i, clr_l, clr_r, clr_n, clr_o, w8_0, w8_1i, w8_1r, w8_2ii, w8_2ri, w8_2ir, w8_2rr, w8_3, beq_self_eq_true, Bool.and_self, Bool.and_true, Bool.true_and, decide_true, Option.toList_some, Option.toList_none, List.cons_append, List.nil_append, Option.bind_some, if_true, if_false, Nat.reduceLeDiff, Nat.reduceLT, Nat.reduceBEq, Bool.or_false, Bool.false_or, Bool.or_true, Bool.true_or, isk_m, isg_m, b1, b2, a3, b4, b5, b6, n1, not_false_eq_true]
  rw [if_neg a6]
  have b6 := bf _ a6
  by_cases a7 : Y 123 8 = 4 ∧ Y 123 9 = 47
  · rw [if_pos a7]
    have b7 := bt _ a7
    simp (disch := omega) only [xX12_signs_48, xX12_signs_50, xX12_signs_53, xX12_signs_56, xX12_signs_57, xX12_signs_60, xX12_signs_61, xX12_signs_63, xX12_signs_66, xX12_signs_69, xX12_signs_70, xX12_signs_73, xX12_signs_74, xX12_signs_77, xX12_signs_78, xX12_signs_81, xX12_signs_82, xX12_signs_83, xX12_signs_86, xX12_signs_87, xX12_signs_90, xX12_signs_91, xX12_signs_93, xX12_signs_96, xX12_signs_99, xX12_signs_101, xX12_signs_104, xX12_signs_105, xX12_signs_107, xX12_signs_110, xX12_signs_113, xX12_signs_115, xX12_signs_118, xX12_signs_119, xX12_signs_121, xX12_signs_124, xX12_signs_127, xX12_signs_129, xX12_signs_132, xX12_signs_133, xX12_signs_135, xX12_signs_138, xX12_signs_141, xX12_signs_143, xX12_signs_146, kd_123, fi_123_44, kd_147, ln_147, kd_123, ↓reduceIte, gd_t, hK_p, hN_p, hF_p, hI_p, hJ_p, hR_p, stI_p, stJ_p, stR_p, stA_p, va_rf_s, va_rf_n, clr_i, clr_l, clr_r, clr_n, clr_o, w8_0, w8_1i, w8_1r, w8_2ii, w8_2ri, w8_2ir, w8_2rr, w8_3, beq_self_eq_true, Bool.and_self, Bool.and_true, Bool.true_and, decide_true, Option.toList_some, Option.toList_none, List.cons_append, List.nil_append, Option.bind_some, if_true, if_false, Nat.reduceLeDiff, Nat.reduceLT, Nat.reduceBEq, Bool.or_false, Bool.false_or, Bool.or_true, Bool.true_or, isk_m, isg_m, b1, b2, a3, b4, b5, b6, b7, n1, not_false_eq_true]
  rw [if_neg a7]
  have b7 := bf _ a7
  simp (disch := omega) only [xX12_signs_48, xX12_signs_50, xX12_signs_53, xX12_signs_56, xX12_signs_57, xX12_signs_60, xX12_signs_61, xX12_signs_63, xX12_signs_66, xX12_signs_69, xX12_signs_70, xX12_signs_73, xX12_signs_74, xX12_signs_77, xX12_signs_78, xX12_signs_81, xX12_signs_82, xX12_signs_83, xX12_signs_86, xX12_signs_87, xX12_signs_90, xX12_signs_91, xX12_signs_93, xX12_signs_96, xX12_signs_99, xX12_signs_101, xX12_signs_104, xX12_signs_105, xX12_signs_107, xX12_signs_110, xX12_signs_113, xX12_signs_115, xX12_signs_118, xX12_signs_119, xX12_signs_121, xX12_signs_124, xX12_signs_127, xX12_signs_129, xX12_signs_132, xX12_signs_133, xX12_signs_135, xX12_signs_138, xX12_signs_141, xX12_signs_143, xX12_signs_146, kd_123, fi_123_44, kd_147, ln_147, kd_123, ↓reduceIte, gd_t, hK_p, hN_p, hF_p, hI_p, hJ_p, hR_p, stI_p, stJ_p, stR_p, stA_p, va_rf_s, va_rf_n, clr_i, clr_l, clr_r, clr_n, clr_o, w8_0, w8_1i, w8_1r, w8_2ii, w8_2ri, w8_2ir, w8_2rr, w8_3, beq_self_eq_true, Bool.and_self, Bool.and_true, Bool.true_and, decide_true, Option.toList_some, Option.toList_none, List.cons_append, List.nil_append, Option.bind_some, if_true, if_false, Nat.reduceLeDiff, Nat.reduceLT, Nat.reduceBEq, Bool.or_false, Bool.false_or, Bool.or_true, Bool.true_or, isk_m, isg_m, b1, b2, a3, b4, b5, b6, b7, not_false_eq_true]
/-- neither a sign of two nor a bracket that closes -/
theorem sgn_n {d : Nat} (hP : psR X Y L u p) (hb : ¬ isBin (X 57 4)) (h6 : ¬ (X 57 4 = 6 ∧ 0 < o)) (h48 : Y 123 48 = nI o) (ho : o ≤ 8) : C (d + 2) MX12_signs [.ref 123] (hp Y J2 R2) = some (some (.int 0), hp (va_up Y 123 (upd (upd (Y 123) 4 1) 5 (Y 123 10))) J2 R2) := by
  have n1 : ¬ (1 : Int32) = 0 := by decide
  obtain ⟨pl, hS⟩ : ∃ pl, tkS X Y L p pl := hP.2
  obtain ⟨v1, v2, v3, v4, v5⟩ := TR_sg hS.2.2.2.2.2.2
  have v2 := v2 hb
  have hs : E (C (d + 1)) MX12_signs 47 [some (.ref 123), none] [] (hp Y J2 R2) = some (some (.int 0), hp (va_up Y 123 (upd (upd (Y 123) 4 1) 5 (Y 123 10))) J2 R2) := by
    rw [sgn_m, v2]
    simp (disch := omega) only [xX12_signs_147, xX12_signs_148, xX12_signs_149, xX12_signs_152, xX12_signs_153, xX12_signs_154, xX12_signs_157, kd_123, fi_123_44, kd_147, ln_147, kd_123, ↓reduceIte, gd_t, hK_p, hN_p, hF_p, hI_p, hJ_p, hR_p, stI_p, stJ_p, stR_p, stA_p, va_rf_s, va_rf_n, clr_i, clr_l, clr_r, clr_n, clr_o, w8_0, w8_1i, w8_1r, w8_2ii, w8_2ri, w8_2ir, w8_2rr, w8_3, beq_self_eq_true, Bool.and_self, Bool.and_true, Bool.true_and, decide_true, Option.toList_some, Option.toList_none, List.cons_append, List.nil_append, Option.bind_some, if_true, if_false, Nat.reduceLeDiff, Nat.reduceLT, Nat.reduceBEq, Bool.or_false, Bool.false_or, Bool.or_true, Bool.true_or, wro_m, z01, not_true_eq_false]
  rw [eX12_signs, ← hs]
  by_cases z6 : X 57 4 = 6
  · have b6 : bi (Y 123 8 = 4 ∧ Y 123 9 = 41) = 1 := if_pos (v3.mp z6)
    have h0 : o = 0 := by
      rcases Nat.eq_zero_or_pos o with w | w
      · exact w
      · exact absurd ⟨z6, w⟩ h6
    have c0 : (nI 0 : Int32) ≤ 0 := by decide
    rw [h0] at h48
    simp (disch := omega) only [xX12_signs_0, xX12_signs_1, xX12_signs_3, xX12_signs_6, xX12_signs_9, xX12_signs_10, xX12_signs_13, kd_123, fi_123_44, kd_147, ln_147, kd_123, ↓reduceIte, gd_t, hK_p, hN_p, hF_p, hI_p, hJ_p, hR_p, stI_p, stJ_p, stR_p, stA_p, va_rf_s, va_rf_n, clr_i, clr_l, clr_r, clr_n, clr_o, w8_0, w8_1i, w8_1r, w8_2ii, w8_2ri, w8_2ir, w8_2rr, w8_3, beq_self_eq_true, Bool.and_self, Bool.and_true, Bool.true_and, decide_true, Option.toList_some, Option.toList_none, List.cons_append, List.nil_append, Option.bind_some, if_true, if_false, Nat.reduceLeDiff, Nat.reduceLT, Nat.reduceBEq, Bool.or_false, Bool.false_or, Bool.or_true, Bool.true_or, isg_m, b6, h48, c0, n1]
  · have b6 : bi (Y 123 8 = 4 ∧ Y 123 9 = 41) = 0 := if_neg (fun q => z6 (v3.mpr q))
    simp (disch := omega) only [xX12_signs_0, xX12_signs_1, xX12_signs_3, xX12_signs_6, xX12_signs_9, xX12_signs_10, xX12_signs_13, kd_123, fi_123_44, kd_147, ln_147, kd_123, ↓reduceIte, gd_t, hK_p, hN_p, hF_p, hI_p, hJ_p, hR_p, stI_p, stJ_p, stR_p, stA_p, va_rf_s, va_rf_n, clr_i, clr_l, clr_r, clr_n, clr_o, w8_0, w8_1i, w8_1r, w8_2ii, w8_2ri, w8_2ir, w8_2rr, w8_3, beq_self_eq_true, Bool.and_self, Bool.and_true, Bool.true_and, decide_true, Option.toList_some, Option.toList_none, List.cons_append, List.nil_append, Option.bind_some, if_true, if_false, Nat.reduceLeDiff, Nat.reduceLT, Nat.reduceBEq, Bool.or_false, Bool.false_or, Bool.or_true, Bool.true_or, isg_m, b6]
/-- a bracket closes -/
theorem clo_p {d : Nat} (hP : psR X Y L u p) (hg : isLw g) (h : xpR X Y g fi len w o c 1) (h6 : X 57 4 = 6) (ho : 0 < o) : ∃ X' Y' p' len' w', C (d + 4) MX7_closing [.ref 56, .ref g] (hp X J R) = some (none, hp X' J R) ∧ C (d + 4) MX12_signs [.ref 123] (hp Y J2 R2) = some (some (.int 1), hp Y' J2 R2) ∧ psR X' Y' L u p' ∧ (X' 57 4 = 0 ∨ p < p') ∧ xpR X' Y' g fi len' w' (o - 1) c 1 ∧ Y' 123 50 = Y 123 50 ∧ xpF g fi X X' Y Y' := by
  have hg2 := lw_hi hg
  have n1 : ¬ (1 : Int32) = 0 := by decide
  obtain ⟨pl, hS⟩ : ∃ pl, tkS X Y L p pl := hP.2
  obtain ⟨v1, v2, v3, v4, v5⟩ := TR_sg hS.2.2.2.2.2.2
  have b6 : bi (Y 123 8 = 4 ∧ Y 123 9 = 41) = 1 := if_pos (v3.mp h6)
  have q1 : nI 1 = 1 := rfl
  obtain ⟨X1, Y1, len1, w1, e1, g1, h1, htop, fr⟩ := rel_q (d := d + 1) (J := J) (J2 := J2) (R := R) (R2 := R2) (lst := 1) hg (by omega) (by omega) h
  rw [q1] at e1 g1
  obtain ⟨fr1, fr2, fr3, fr4, fr5, fr6⟩ := id fr
  obtain ⟨hpf, ⟨a1, a2, a3⟩, ⟨o1, o2, o3, o4⟩, ⟨k1, k2, k3, k4⟩, hd, hh⟩ := id h1
  have o2' := h.2.2.1.2.1
  have hol := opn_le (r := X1 59) w1
  obtain ⟨w', rfl⟩ : ∃ w', w1 = w' + 1 := ⟨w1 - 1, by omega⟩
  have htop : rkF (X1 59 w') = 0 := by
    rcases htop with q | q
    · omega
    · rw [Nat.add_sub_cancel] at q; omega
  have t5 := wt_rk0 (a3 w' (by omega)) htop
  have c0 : ¬ (nI (w' + 1) : Int32) ≤ 0 := fun q => absurd ((nI_leI (a := w' + 1) (b := 0) (by omega) (by omega)).mp q) (by omega)
  have c1 : ¬ (nI o : Int32) ≤ 0 := fun q => absurd ((nI_leI (a := o) (b := 0) (by omega) (by omega)).mp q) (by omega)
  have ew : nI (w' + 1) - 1 = nI w' := by rw [show (1 : Int32) = nI 1 from rfl, pk_sub (by omega), Nat.add_sub_cancel]
  have eo : nI o - 1 = nI (o - 1) := by rw [show (1 : Int32) = nI 1 from rfl, pk_sub (by omega)]
  generalize hX2 : va_up X1 56 (upd (upd (X1 56) 11 (nI w')) 8 (nI (o - 1))) = X2
  have x2o : ∀ a, a ≠ 56 → X2 a = X1 a := fun a ha => by rw [← hX2, up_n ha]
  have x2k : ∀ k, k ≠ 8 → k ≠ 11 → X2 56 k = X1 56 k := fun k h1 h2 => by rw [← hX2, up_s, pk_un h1, pk_un h2]
  generalize hY2 : va_up Y1 123 (upd (upd (Y1 123) 46 (nI w')) 48 (nI (o - 1))) = Y2
  have y2o : ∀ a, a ≠ 123 → Y2 a = Y1 a := fun a ha => by rw [← hY2, up_n ha]
  have y2k : ∀ k, k ≠ 46 → k ≠ 48 → Y2 123 k = Y1 123 k := fun k h1 h2 => by rw [← hY2, up_s, pk_un h2, pk_un h1]
  have h2 : xpR X2 Y2 g fi len1 w' (o - 1) c 1 := by
    refine ⟨pfR_fr hpf (by rw [x2o g (by omega)]) (x2o _ (by omega)) (x2o _ (by omega)) (fun a _ _ _ => y2o a (by omega)) (y2k 20 (by decide) (by decide)) (y2k 47 (by decide) (by decide)), ⟨by rw [← hX2, up_s, pk_un (by decide), pk_us], by rw [← hY2, up_s, pk_un (by decide), pk_us], fun i hi => by rw [x2o 59 (by decide), y2o 147 (by decide)]; exact a3 i (by omega)⟩, ⟨by rw [← hX2, up_s, pk_us], by rw [← hY2, up_s, pk_us], by omega, ?_⟩, ⟨by rw [x2k 7 (by decide) (by decide)]; exact k1, by rw [y2k 49 (by decide) (by decide)]; exact k2, k3, by omega⟩, by rw [x2k 9 (by decide) (by decide), y2k 51 (by decide) (by decide)]; exact hd, ?_⟩
    · rw [x2o 59 (by decide)]
      rw [opn, if_pos t5] at o4
      omega
    · rw [x2o _ (by omega), x2o 59 (by decide), hh, bnn, if_pos (Or.inl t5)]
  have s1 : psR X1 Y1 L u p := psR_m (psR_c hP (fun a ha => fr1 a (by omega) (by omega) (by omega) (by omega)) (fun k hk => fr3 k (by omega))) (fr4 _ (by decide) (by decide)) (fr4 _ (by decide) (by decide)) (fun k _ _ => fr6 k (by omega) (by omega) (by omega))
  have s2 : psR X2 Y2 L u p := psR_m (psR_c s1 (fun a ha => x2o a (by omega)) (fun k hk => x2k k (by omega) (by omega))) (y2o _ (by decide)) (y2o _ (by decide)) (fun k _ _ => y2k k (by omega) (by omega))
  obtain ⟨X', Y', p', e3, g3, s3, pr, l3, r1, r2, r3⟩ := nxt_p (d := d) (J := J) (J2 := J2) (R := R) (R2 := R2) s2
  refine ⟨X', Y', p', len1, w', ?_, ?_, s3, pr, xpR_fr h2 (by rw [r1 g (by omega)]) (r1 _ (by omega)) (r1 _ (by omega)) (r1 59 (by decide)) (fun k _ => by rw [r1 56 (by decide)]) (fun a _ _ => r2 a (by omega)) (fun k hk => r3 k (by omega)), by rw [r3 50 (by omega), y2k 50 (by decide) (by decide), fr6 50 (by decide) (by decide) (by decide)], (fr.xp.tr (xpF_w hg (fun a h1 _ => x2o a h1) (fun k hk => x2k k (by omega) (by omega)) (fun a h1 _ => y2o a h1) (fun k hk => y2k k (by omega) (by omega)))).tr (xpF_f hg (nxt_cm r1 r2 r3).1 (nxt_cm r1 r2 r3).2)⟩
  · rw [eX7_closing]
    simp (disch := omega) only [xX7_closing_0, xX7_closing_1, xX7_closing_2, xX7_closing_3, xX7_closing_6, xX7_closing_7, xX7_closing_10, xX7_closing_13, xX7_closing_14, xX7_closing_14I, xX7_closing_15, xX7_closing_18, xX7_closing_19, xX7_closing_20, xX7_closing_23, xX7_closing_24, xX7_closing_24I, xX7_closing_25, xX7_closing_28, xX7_closing_29, xX7_closing_30, xX7_closing_33, xX7_closing_34, xX7_closing_37, xX7_closing_40, kd_56, fi_56_0, kd_57, kd_56, kd_57, lw_k0 hg, ↓reduceIte, gd_t, hK_p, hN_p, hF_p, hI_p, hJ_p, hR_p, stI_p, stJ_p, stR_p, stA_p, va_rf_s, va_rf_n, clr_i, clr_l, clr_r, clr_n, clr_o, w8_0, w8_1i, w8_1r, w8_2ii, w8_2ri, w8_2ir, w8_2rr, w8_3, beq_self_eq_true, Bool.and_self, Bool.and_true, Bool.true_and, decide_true, Option.toList_some, Option.toList_none, List.cons_append, List.nil_append, Option.bind_some, if_true, if_false, Nat.reduceLeDiff, Nat.reduceLT, Nat.reduceBEq, Bool.or_false, Bool.false_or, Bool.or_true, Bool.true_or, e1, a1, c0, ew, up_s, pk_un, bx_uu, o1, eo, hX2, e3]
  · rw [eX12_signs]
    simp (disch := omega) only [xX12_signs_0, xX12_signs_1, xX12_signs_3, xX12_signs_6, xX12_signs_9, xX12_signs_10, xX12_signs_13, xX12_signs_16, xX12_signs_17, xX12_signs_18, xX12_signs_21, xX12_signs_22, xX12_signs_22I, xX12_signs_23, xX12_signs_26, xX12_signs_27, xX12_signs_28, xX12_signs_31, xX12_signs_32, xX12_signs_32I, xX12_signs_33, xX12_signs_36, xX12_signs_37, xX12_signs_38, xX12_signs_41, xX12_signs_42, xX12_signs_45, xX12_signs_46, kd_123, fi_123_44, kd_147, ln_147, kd_123, ↓reduceIte, gd_t, hK_p, hN_p, hF_p, hI_p, hJ_p, hR_p, stI_p, stJ_p, stR_p, stA_p, va_rf_s, va_rf_n, clr_i, clr_l, clr_r, clr_n, clr_o, w8_0, w8_1i, w8_1r, w8_2ii, w8_2ri, w8_2ir, w8_2rr, w8_3, beq_self_eq_true, Bool.and_self, Bool.and_true, Bool.true_and, decide_true, Option.toList_some, Option.toList_none, List.cons_append, List.nil_append, Option.bind_some, if_true, if_false, Nat.reduceLeDiff, Nat.reduceLT, Nat.reduceBEq, Bool.or_false, Bool.false_or, Bool.or_true, Bool.true_or, isg_m, b6, n1, o2', c1, g1, a2, ew, up_s, pk_un, bx_uu, o2, eo, hY2, g3, z11]
/-- a sign of two -/
theorem joi_p {d : Nat} (hP : psR X Y L u p) (hg : isLw g) (h : xpR X Y g fi len w o c 1) (hb : isBin (X 57 4)) :
    (∃ X' Y', C (d + 4) MX7_joining [.ref 56, .ref g] (hp X J R) = some (some (.int 0), hp X' J R) ∧ C (d + 4) MX12_signs [.ref 123] (hp Y J2 R2) = some (some (.int 0), hp Y' J2 R2) ∧ faR X' Y' ∧ xpF g fi X X' Y Y') ∨
    (∃ X' Y' p' len' w', C (d + 4) MX7_joining [.ref 56, .ref g] (hp X J R) = some (some (.int 1), hp X' J R) ∧ C (d + 4) MX12_signs [.ref 123] (hp Y J2 R2) = some (some (.int 1), hp Y' J2 R2) ∧ psR X' Y' L u p' ∧ (X' 57 4 = 0 ∨ p < p') ∧ xpR X' Y' g fi len' w' o (c + 1) 0 ∧ Y' 123 50 = 1 ∧ xpF g fi X X' Y Y') := by
  have hg2 := lw_hi hg
  have n1 : ¬ (1 : Int32) = 0 := by decide
  obtain ⟨pl, hS⟩ : ∃ pl, tkS X Y L p pl := hP.2
  obtain ⟨v1, v2, v3, v4, v5⟩ := TR_sg hS.2.2.2.2.2.2
  have v1 := v1 hb
  obtain ⟨r1, r2, r3, r4, r5, r6, r7, r8, r9⟩ := bin_rk hb
  have hwt : wt1 (X 57 4) (kmp (X 57 4)) := Or.inr (Or.inr ⟨hb, rfl⟩)
  have b6 : bi (Y 123 8 = 4 ∧ Y 123 9 = 41) = 0 := if_neg (fun q => r9 (v3.mpr q))
  have q4 : nI 4 = 4 := rfl
  have q5 : nI 5 = 5 := rfl
  have q3 : nI 3 = 3 := rfl
  have d4 : (nI (rkF (X 57 4)) = 4) = (rkF (X 57 4) = 4) := propext ⟨fun q => (nI_eq (b := 4) (by omega) (by omega)).mp q, fun q => by rw [q]; rfl⟩
  generalize hlst : (if rkF (X 57 4) = 4 then 5 else rkF (X 57 4)) = lst
  have hl1 : 1 ≤ lst ∧ lst ≤ 7 := by
    rw [← hlst]
    split <;> omega
  obtain ⟨X1, Y1, len1, w1, e1, g1, h1, htop, fr⟩ := rel_q (d := d + 1) (J := J) (J2 := J2) (R := R) (R2 := R2) (lst := lst) hg hl1.1 hl1.2 h
  obtain ⟨fr1, fr2, fr3, fr4, fr5, fr6⟩ := id fr
  obtain ⟨hpf, ⟨a1, a2, a3⟩, ⟨o1, o2, o3, o4⟩, ⟨k1, k2, k3, k4⟩, hd, hh⟩ := id h1
  have hfl := hpf.2.2.1
  have s1 : psR X1 Y1 L u p := psR_m (psR_c hP (fun a ha => fr1 a (by omega) (by omega) (by omega) (by omega)) (fun k hk => fr3 k (by omega))) (fr4 _ (by decide) (by decide)) (fr4 _ (by decide) (by decide)) (fun k _ _ => fr6 k (by omega) (by omega) (by omega))
  -- up to what is released
  have hc48 : C (d + 4) MX7_joining [.ref 56, .ref g] (hp X J R) = E (C (d + 3)) MX7_joining 48 [some (.ref 56), some (.ref g), some (.int (X 57 4)), some (.int (if rkF (X 57 4) = 4 then 1 else 0))] [] (hp X1 J R) := by
    rw [eX7_joining]
    by_cases z4 : rkF (X 57 4) = 4
    · have zz := r3.mp z4
      have z1 : ¬ X 57 4 < 11 := Int32.not_lt.mpr zz.1
      have z2 : ¬ 16 < X 57 4 := Int32.not_lt.mpr zz.2
      rw [if_pos z4] at hlst ⊢
      rw [← hlst] at e1
      have e5 : nI (rkF (X 57 4)) + 1 = nI 5 := by rw [nI_1, z4]
      simp (disch := omega) only [xX7_joining_0, xX7_joining_1, xX7_joining_4, xX7_joining_7, xX7_joining_8, xX7_joining_9, xX7_joining_11, xX7_joining_14, xX7_joining_15, xX7_joining_17, xX7_joining_20, xX7_joining_21, xX7_joining_24, xX7_joining_25, xX7_joining_26, xX7_joining_27, xX7_joining_28, xX7_joining_29, xX7_joining_32, xX7_joining_33, xX7_joining_36, xX7_joining_37, xX7_joining_38, xX7_joining_41, xX7_joining_42, xX7_joining_45, kd_56, fi_56_0, kd_57, fi_56_10, kd_59, ln_59, kd_56, kd_57, lw_k0 hg, ↓reduceIte, gd_t, hK_p, hN_p, hF_p, hI_p, hJ_p, hR_p, stI_p, stJ_p, stR_p, stA_p, va_rf_s, va_rf_n, clr_i, clr_l, clr_r, clr_n, clr_o, w8_0, w8_1i, w8_1r, w8_2ii, w8_2ri, w8_2ir, w8_2rr, w8_3, beq_self_eq_true, Bool.and_self, Bool.and_true, Bool.true_and, decide_true, Option.toList_some, Option.toList_none, List.cons_append, List.nil_append, Option.bind_some, if_true, if_false, Nat.reduceLeDiff, Nat.reduceLT, Nat.reduceBEq, Bool.or_false, Bool.false_or, Bool.or_true, Bool.true_or, z1, z2, n1, rnk_c, e5, e1]
    · rw [if_neg z4] at hlst ⊢
      rw [← hlst] at e1
      by_cases z1 : X 57 4 < 11
      · simp (disch := omega) only [xX7_joining_0, xX7_joining_1, xX7_joining_4, xX7_joining_7, xX7_joining_8, xX7_joining_9, xX7_joining_11, xX7_joining_14, xX7_joining_15, xX7_joining_17, xX7_joining_20, xX7_joining_21, xX7_joining_24, xX7_joining_25, xX7_joining_26, xX7_joining_27, xX7_joining_28, xX7_joining_29, xX7_joining_32, xX7_joining_33, xX7_joining_36, xX7_joining_37, xX7_joining_38, xX7_joining_41, xX7_joining_42, xX7_joining_45, kd_56, fi_56_0, kd_57, fi_56_10, kd_59, ln_59, kd_56, kd_57, lw_k0 hg, ↓reduceIte, gd_t, hK_p, hN_p, hF_p, hI_p, hJ_p, hR_p, stI_p, stJ_p, stR_p, stA_p, va_rf_s, va_rf_n, clr_i, clr_l, clr_r, clr_n, clr_o, w8_0, w8_1i, w8_1r, w8_2ii, w8_2ri, w8_2ir, w8_2rr, w8_3, beq_self_eq_true, Bool.and_self, Bool.and_true, Bool.true_and, decide_true, Option.toList_some, Option.toList_none, List.cons_append, List.nil_append, Option.bind_some, if_true, if_false, Nat.reduceLeDiff, Nat.reduceLT, Nat.reduceBEq, Bool.or_false, Bool.false_or, Bool.or_true, Bool.true_or, z1, rnk_c, e1]
      · have z2 : 16 < X 57 4 := by
          rw [← Int32.not_le]
          exact fun q => z4 (r3.mpr ⟨Int32.not_lt.mp z1, q⟩)
        simp (disch := omega) only [xX7_joining_0, xX7_joining_1, xX7_joining_4, xX7_joining_7, xX7_joining_8, xX7_joining_9, xX7_joining_11, xX7_joining_14, xX7_joining_15, xX7_joining_17, xX7_joining_20, xX7_joining_21, xX7_joining_24, xX7_joining_25, xX7_joining_26, xX7_joining_27, xX7_joining_28, xX7_joining_29, xX7_joining_32, xX7_joining_33, xX7_joining_36, xX7_joining_37, xX7_joining_38, xX7_joining_41, xX7_joining_42, xX7_joining_45, kd_56, fi_56_0, kd_57, fi_56_10, kd_59, ln_59, kd_56, kd_57, lw_k0 hg, ↓reduceIte, gd_t, hK_p, hN_p, hF_p, hI_p, hJ_p, hR_p, stI_p, stJ_p, stR_p, stA_p, va_rf_s, va_rf_n, clr_i, clr_l, clr_r, clr_n, clr_o, w8_0, w8_1i, w8_1r, w8_2ii, w8_2ri, w8_2ir, w8_2rr, w8_3, beq_self_eq_true, Bool.and_self, Bool.and_true, Bool.true_and, decide_true, Option.toList_some, Option.toList_none, List.cons_append, List.nil_append, Option.bind_some, if_true, if_false, Nat.reduceLeDiff, Nat.reduceLT, Nat.reduceBEq, Bool.or_false, Bool.false_or, Bool.or_true, Bool.true_or, z1, z2, rnk_c, e1]
  have hm178 : C (d + 4) MX12_signs [.ref 123] (hp Y J2 R2) = E (C (d + 3)) MX12_signs 178 [some (.ref 123), some (.int (kmp (X 57 4)))] [] (hp Y1 J2 R2) := by
    have e47 := sgn_m (d := d + 2) (Y := Y) (J2 := J2) (R2 := R2) (l1 := none)
    rw [v1] at e47
    have e147 : E (C (d + 3)) MX12_signs 147 [some (.ref 123), none] [.int (kmp (X 57 4))] (hp Y J2 R2) = E (C (d + 3)) MX12_signs 178 [some (.ref 123), some (.int (kmp (X 57 4)))] [] (hp Y1 J2 R2) := by
      by_cases z4 : rkF (X 57 4) = 4
      · rw [if_pos z4] at hlst
        rw [← hlst, q5] at g1
        have d4' : nI (rkF (X 57 4)) = 4 := by rw [z4]; rfl
        simp (disch := omega) only [xX12_signs_147, xX12_signs_148, xX12_signs_149, xX12_signs_152, xX12_signs_153, xX12_signs_154, xX12_signs_157, xX12_signs_158, xX12_signs_159, xX12_signs_160, xX12_signs_163, xX12_signs_164, xX12_signs_167, xX12_signs_168, xX12_signs_171, xX12_signs_172, xX12_signs_175, kd_123, fi_123_44, kd_147, ln_147, kd_123, ↓reduceIte, gd_t, hK_p, hN_p, hF_p, hI_p, hJ_p, hR_p, stI_p, stJ_p, stR_p, stA_p, va_rf_s, va_rf_n, clr_i, clr_l, clr_r, clr_n, clr_o, w8_0, w8_1i, w8_1r, w8_2ii, w8_2ri, w8_2ir, w8_2rr, w8_3, beq_self_eq_true, Bool.and_self, Bool.and_true, Bool.true_and, decide_true, Option.toList_some, Option.toList_none, List.cons_append, List.nil_append, Option.bind_some, if_true, if_false, Nat.reduceLeDiff, Nat.reduceLT, Nat.reduceBEq, Bool.or_false, Bool.false_or, Bool.or_true, Bool.true_or, r8, rnk_m hwt, d4', g1, not_true_eq_false, not_false_eq_true]
      · rw [if_neg z4] at hlst
        rw [← hlst] at g1
        have d4' : ¬ nI (rkF (X 57 4)) = 4 := by rw [d4]; exact z4
        simp (disch := omega) only [xX12_signs_147, xX12_signs_148, xX12_signs_149, xX12_signs_152, xX12_signs_153, xX12_signs_154, xX12_signs_157, xX12_signs_158, xX12_signs_159, xX12_signs_160, xX12_signs_163, xX12_signs_164, xX12_signs_167, xX12_signs_168, xX12_signs_171, xX12_signs_172, xX12_signs_175, kd_123, fi_123_44, kd_147, ln_147, kd_123, ↓reduceIte, gd_t, hK_p, hN_p, hF_p, hI_p, hJ_p, hR_p, stI_p, stJ_p, stR_p, stA_p, va_rf_s, va_rf_n, clr_i, clr_l, clr_r, clr_n, clr_o, w8_0, w8_1i, w8_1r, w8_2ii, w8_2ri, w8_2ir, w8_2rr, w8_3, beq_self_eq_true, Bool.and_self, Bool.and_true, Bool.true_and, decide_true, Option.toList_some, Option.toList_none, List.cons_append, List.nil_append, Option.bind_some, if_true, if_false, Nat.reduceLeDiff, Nat.reduceLT, Nat.reduceBEq, Bool.or_false, Bool.false_or, Bool.or_true, Bool.true_or, r8, rnk_m hwt, d4', g1, not_true_eq_false, not_false_eq_true]
    rw [← e147, ← e47, eX12_signs]
    simp (disch := omega) only [xX12_signs_0, xX12_signs_1, xX12_signs_3, xX12_signs_6, xX12_signs_9, xX12_signs_10, xX12_signs_13, kd_123, fi_123_44, kd_147, ln_147, kd_123, ↓reduceIte, gd_t, hK_p, hN_p, hF_p, hI_p, hJ_p, hR_p, stI_p, stJ_p, stR_p, stA_p, va_rf_s, va_rf_n, clr_i, clr_l, clr_r, clr_n, clr_o, w8_0, w8_1i, w8_1r, w8_2ii, w8_2ri, w8_2ir, w8_2rr, w8_3, beq_self_eq_true, Bool.and_self, Bool.and_true, Bool.true_and, decide_true, Option.toList_some, Option.toList_none, List.cons_append, List.nil_append, Option.bind_some, if_true, if_false, Nat.reduceLeDiff, Nat.reduceLT, Nat.reduceBEq, Bool.or_false, Bool.false_or, Bool.or_true, Bool.true_or, isg_m, b6]
  by_cases bad : rkF (X 57 4) = 4 ∧ 0 < w1 ∧ rkF (X1 59 (w1 - 1)) = 4
  · obtain ⟨z4, zw, zt⟩ := bad
    have c0 : ¬ (nI w1 : Int32) ≤ 0 := fun q => absurd ((nI_leI (a := w1) (b := 0) (by omega) (by omega)).mp q) (by omega)
    have ew : nI w1 - 1 = nI (w1 - 1) := by rw [show (1 : Int32) = nI 1 from rfl, pk_sub (by omega)]
    obtain ⟨f1, f2, f3⟩ := ref_p (k := 1) s1
    refine Or.inl ⟨_, _, ?_, ?_, f1, fr.xp.tr (xpF_f hg f2 f3)⟩
    · rw [hc48, if_pos z4]
      simp (disch := omega) only [xX7_joining_48, xX7_joining_49, xX7_joining_52, xX7_joining_53, xX7_joining_56, xX7_joining_59, xX7_joining_60, xX7_joining_63, xX7_joining_64, xX7_joining_67, xX7_joining_68, xX7_joining_69, xX7_joining_70, xX7_joining_73, xX7_joining_74, xX7_joining_77, xX7_joining_80, xX7_joining_81, xX7_joining_82, xX7_joining_85, kd_56, fi_56_0, kd_57, fi_56_10, kd_59, ln_59, kd_56, kd_59, ln_59, ↓reduceIte, gd_t, hK_p, hN_p, hF_p, hI_p, hJ_p, hR_p, stI_p, stJ_p, stR_p, stA_p, va_rf_s, va_rf_n, clr_i, clr_l, clr_r, clr_n, clr_o, w8_0, w8_1i, w8_1r, w8_2ii, w8_2ri, w8_2ir, w8_2rr, w8_3, beq_self_eq_true, Bool.and_self, Bool.and_true, Bool.true_and, decide_true, Option.toList_some, Option.toList_none, List.cons_append, List.nil_append, Option.bind_some, if_true, if_false, Nat.reduceLeDiff, Nat.reduceLT, Nat.reduceBEq, Bool.or_false, Bool.false_or, Bool.or_true, Bool.true_or, n1, a1, c0, ew, inb_n, nI_clamp, rnk_c, zt, z4, ref_c, z01, not_true_eq_false]
    · rw [hm178]
      simp (disch := omega) only [xX12_signs_178, xX12_signs_179, xX12_signs_182, xX12_signs_183, xX12_signs_186, xX12_signs_187, xX12_signs_190, xX12_signs_193, xX12_signs_194, xX12_signs_197, xX12_signs_198, xX12_signs_201, xX12_signs_202, xX12_signs_203, xX12_signs_204, xX12_signs_207, xX12_signs_208, xX12_signs_211, xX12_signs_212, xX12_signs_213, xX12_signs_216, kd_123, fi_123_44, kd_147, ln_147, kd_123, kd_147, ln_147, ↓reduceIte, gd_t, hK_p, hN_p, hF_p, hI_p, hJ_p, hR_p, stI_p, stJ_p, stR_p, stA_p, va_rf_s, va_rf_n, clr_i, clr_l, clr_r, clr_n, clr_o, w8_0, w8_1i, w8_1r, w8_2ii, w8_2ri, w8_2ir, w8_2rr, w8_3, beq_self_eq_true, Bool.and_self, Bool.and_true, Bool.true_and, decide_true, Option.toList_some, Option.toList_none, List.cons_append, List.nil_append, Option.bind_some, if_true, if_false, Nat.reduceLeDiff, Nat.reduceLT, Nat.reduceBEq, Bool.or_false, Bool.false_or, Bool.or_true, Bool.true_or, rnk_m hwt, z4, q4, a2, c0, ew, inb_n, nI_clamp, rnk_m (a3 (w1 - 1) (by omega)), zt, wro_m, z01, not_true_eq_false]
  · have hc86 : C (d + 4) MX7_joining [.ref 56, .ref g] (hp X J R) = E (C (d + 3)) MX7_joining 86 [some (.ref 56), some (.ref g), some (.int (X 57 4)), some (.int (if rkF (X 57 4) = 4 then 1 else 0))] [] (hp X1 J R) := by
      rw [hc48]
      by_cases z4 : rkF (X 57 4) = 4
      · rw [if_pos z4]
        by_cases zw : w1 = 0
        · subst zw
          have c0 : (nI 0 : Int32) ≤ 0 := by decide
          simp (disch := omega) only [xX7_joining_48, xX7_joining_49, xX7_joining_52, xX7_joining_53, xX7_joining_56, kd_56, fi_56_0, kd_57, fi_56_10, kd_59, ln_59, kd_56, ↓reduceIte, gd_t, hK_p, hN_p, hF_p, hI_p, hJ_p, hR_p, stI_p, stJ_p, stR_p, stA_p, va_rf_s, va_rf_n, clr_i, clr_l, clr_r, clr_n, clr_o, w8_0, w8_1i, w8_1r, w8_2ii, w8_2ri, w8_2ir, w8_2rr, w8_3, beq_self_eq_true, Bool.and_self, Bool.and_true, Bool.true_and, decide_true, Option.toList_some, Option.toList_none, List.cons_append, List.nil_append, Option.bind_some, if_true, if_false, Nat.reduceLeDiff, Nat.reduceLT, Nat.reduceBEq, Bool.or_false, Bool.false_or, Bool.or_true, Bool.true_or, n1, a1, c0]
        · have c0 : ¬ (nI w1 : Int32) ≤ 0 := fun q => absurd ((nI_leI (a := w1) (b := 0) (by omega) (by omega)).mp q) (by omega)
          have ew : nI w1 - 1 = nI (w1 - 1) := by rw [show (1 : Int32) = nI 1 from rfl, pk_sub (by omega)]
          have t6 := rkF_6 (X1 59 (w1 - 1))
          have zt : ¬ nI (rkF (X1 59 (w1 - 1))) = nI (rkF (X 57 4)) := fun q => bad ⟨z4, by omega, ((nI_eq (by omega) (by omega)).mp q).trans z4⟩
          simp (disch := omega) only [xX7_joining_48, xX7_joining_49, xX7_joining_52, xX7_joining_53, xX7_joining_56, xX7_joining_59, xX7_joining_60, xX7_joining_63, xX7_joining_64, xX7_joining_67, xX7_joining_68, xX7_joining_69, xX7_joining_70, xX7_joining_73, xX7_joining_74, xX7_joining_77, kd_56, fi_56_0, kd_57, fi_56_10, kd_59, ln_59, kd_56, kd_59, ln_59, ↓reduceIte, gd_t, hK_p, hN_p, hF_p, hI_p, hJ_p, hR_p, stI_p, stJ_p, stR_p, stA_p, va_rf_s, va_rf_n, clr_i, clr_l, clr_r, clr_n, clr_o, w8_0, w8_1i, w8_1r, w8_2ii, w8_2ri, w8_2ir, w8_2rr, w8_3, beq_self_eq_true, Bool.and_self, Bool.and_true, Bool.true_and, decide_true, Option.toList_some, Option.toList_none, List.cons_append, List.nil_append, Option.bind_some, if_true, if_false, Nat.reduceLeDiff, Nat.reduceLT, Nat.reduceBEq, Bool.or_false, Bool.false_or, Bool.or_true, Bool.true_or, n1, a1, c0, ew, inb_n, nI_clamp, rnk_c, zt, not_false_eq_true]
      · rw [if_neg z4]
        simp (disch := omega) only [xX7_joining_48, xX7_joining_49, kd_56, fi_56_0, kd_57, fi_56_10, kd_59, ln_59, ↓reduceIte, gd_t, hK_p, hN_p, hF_p, hI_p, hJ_p, hR_p, stI_p, stJ_p, stR_p, stA_p, va_rf_s, va_rf_n, clr_i, clr_l, clr_r, clr_n, clr_o, w8_0, w8_1i, w8_1r, w8_2ii, w8_2ri, w8_2ir, w8_2rr, w8_3, beq_self_eq_true, Bool.and_self, Bool.and_true, Bool.true_and, decide_true, Option.toList_some, Option.toList_none, List.cons_append, List.nil_append, Option.bind_some, if_true, if_false, Nat.reduceLeDiff, Nat.reduceLT, Nat.reduceBEq, Bool.or_false, Bool.false_or, Bool.or_true, Bool.true_or]
    have hm217 : C (d + 4) MX12_signs [.ref 123] (hp Y J2 R2) = E (C (d + 3)) MX12_signs 217 [some (.ref 123), some (.int (kmp (X 57 4)))] [] (hp Y1 J2 R2) := by
      rw [hm178]
      by_cases z4 : rkF (X 57 4) = 4
      · by_cases zw : w1 = 0
        · subst zw
          have c0 : (nI 0 : Int32) ≤ 0 := by decide
          simp (disch := omega) only [xX12_signs_178, xX12_signs_179, xX12_signs_182, xX12_signs_183, xX12_signs_186, xX12_signs_187, xX12_signs_190, kd_123, fi_123_44, kd_147, ln_147, kd_123, ↓reduceIte, gd_t, hK_p, hN_p, hF_p, hI_p, hJ_p, hR_p, stI_p, stJ_p, stR_p, stA_p, va_rf_s, va_rf_n, clr_i, clr_l, clr_r, clr_n, clr_o, w8_0, w8_1i, w8_1r, w8_2ii, w8_2ri, w8_2ir, w8_2rr, w8_3, beq_self_eq_true, Bool.and_self, Bool.and_true, Bool.true_and, decide_true, Option.toList_some, Option.toList_none, List.cons_append, List.nil_append, Option.bind_some, if_true, if_false, Nat.reduceLeDiff, Nat.reduceLT, Nat.reduceBEq, Bool.or_false, Bool.false_or, Bool.or_true, Bool.true_or, rnk_m hwt, z4, q4, a2, c0, not_true_eq_false]
        · have c0 : ¬ (nI w1 : Int32) ≤ 0 := fun q => absurd ((nI_leI (a := w1) (b := 0) (by omega) (by omega)).mp q) (by omega)
          have ew : nI w1 - 1 = nI (w1 - 1) := by rw [show (1 : Int32) = nI 1 from rfl, pk_sub (by omega)]
          have t6 := rkF_6 (X1 59 (w1 - 1))
          have zt : ¬ nI (rkF (X1 59 (w1 - 1))) = 4 := fun q => bad ⟨z4, by omega, (nI_eq (b := 4) (by omega) (by omega)).mp q⟩
          simp (disch := omega) only [xX12_signs_178, xX12_signs_179, xX12_signs_182, xX12_signs_183, xX12_signs_186, xX12_signs_187, xX12_signs_190, xX12_signs_193, xX12_signs_194, xX12_signs_197, xX12_signs_198, xX12_signs_201, xX12_signs_202, xX12_signs_203, xX12_signs_204, xX12_signs_207, xX12_signs_208, kd_123, fi_123_44, kd_147, ln_147, kd_123, kd_147, ln_147, ↓reduceIte, gd_t, hK_p, hN_p, hF_p, hI_p, hJ_p, hR_p, stI_p, stJ_p, stR_p, stA_p, va_rf_s, va_rf_n, clr_i, clr_l, clr_r, clr_n, clr_o, w8_0, w8_1i, w8_1r, w8_2ii, w8_2ri, w8_2ir, w8_2rr, w8_3, beq_self_eq_true, Bool.and_self, Bool.and_true, Bool.true_and, decide_true, Option.toList_some, Option.toList_none, List.cons_append, List.nil_append, Option.bind_some, if_true, if_false, Nat.reduceLeDiff, Nat.reduceLT, Nat.reduceBEq, Bool.or_false, Bool.false_or, Bool.or_true, Bool.true_or, rnk_m hwt, z4, q4, a2, c0, ew, inb_n, nI_clamp, rnk_m (a3 (w1 - 1) (by omega)), zt, not_true_eq_false, not_false_eq_true]
      · have d4' : ¬ nI (rkF (X 57 4)) = 4 := by rw [d4]; exact z4
        simp (disch := omega) only [xX12_signs_178, xX12_signs_179, xX12_signs_182, xX12_signs_183, kd_123, fi_123_44, kd_147, ln_147, kd_123, ↓reduceIte, gd_t, hK_p, hN_p, hF_p, hI_p, hJ_p, hR_p, stI_p, stJ_p, stR_p, stA_p, va_rf_s, va_rf_n, clr_i, clr_l, clr_r, clr_n, clr_o, w8_0, w8_1i, w8_1r, w8_2ii, w8_2ri, w8_2ir, w8_2rr, w8_3, beq_self_eq_true, Bool.and_self, Bool.and_true, Bool.true_and, decide_true, Option.toList_some, Option.toList_none, List.cons_append, List.nil_append, Option.bind_some, if_true, if_false, Nat.reduceLeDiff, Nat.reduceLT, Nat.reduceBEq, Bool.or_false, Bool.false_or, Bool.or_true, Bool.true_or, rnk_m hwt, d4', not_false_eq_true]
    have okc := okm_c (d := d + 2) (X := X1) (J := J) (R := R) k1 k3
    generalize hX2 : va_up X1 56 (upd (X1 56) 7 (nI (c + 1))) = X2 at okc
    have x2o : ∀ a, a ≠ 56 → X2 a = X1 a := fun a ha => by rw [← hX2, up_n ha]
    have x2k : ∀ k, k ≠ 7 → X2 56 k = X1 56 k := fun k hk => by rw [← hX2, up_s, pk_un hk]
    by_cases hc : c = 64
    · subst hc
      rw [if_neg (by omega)] at okc
      obtain ⟨f1, f2, f3⟩ := ref_p (k := 2) (psR_c (X' := X2) s1 (fun a ha => x2o a (by omega)) (fun k hk => x2k k (by omega)))
      refine Or.inl ⟨_, _, ?_, ?_, f1, (fr.xp.tr (xpF_w (Y := Y1) (Y' := Y1) hg (fun a h1 _ => x2o a h1) (fun k hk => x2k k (by omega)) (fun _ _ _ => rfl) (fun _ _ => rfl))).tr (xpF_f hg f2 f3)⟩
      · rw [hc86]
        simp (disch := omega) only [xX7_joining_86, xX7_joining_87, xX7_joining_90, xX7_joining_93, xX7_joining_94, xX7_joining_95, xX7_joining_98, kd_56, fi_56_0, kd_57, fi_56_10, kd_59, ln_59, kd_56, ↓reduceIte, gd_t, hK_p, hN_p, hF_p, hI_p, hJ_p, hR_p, stI_p, stJ_p, stR_p, stA_p, va_rf_s, va_rf_n, clr_i, clr_l, clr_r, clr_n, clr_o, w8_0, w8_1i, w8_1r, w8_2ii, w8_2ri, w8_2ir, w8_2rr, w8_3, beq_self_eq_true, Bool.and_self, Bool.and_true, Bool.true_and, decide_true, Option.toList_some, Option.toList_none, List.cons_append, List.nil_append, Option.bind_some, if_true, if_false, Nat.reduceLeDiff, Nat.reduceLT, Nat.reduceBEq, Bool.or_false, Bool.false_or, Bool.or_true, Bool.true_or, okc, ref_c, z01, not_true_eq_false]
      · rw [hm217]
        simp (disch := omega) only [xX12_signs_217, xX12_signs_218, xX12_signs_221, xX12_signs_224, xX12_signs_225, kd_123, fi_123_44, kd_147, ln_147, kd_123, ↓reduceIte, gd_t, hK_p, hN_p, hF_p, hI_p, hJ_p, hR_p, stI_p, stJ_p, stR_p, stA_p, va_rf_s, va_rf_n, clr_i, clr_l, clr_r, clr_n, clr_o, w8_0, w8_1i, w8_1r, w8_2ii, w8_2ri, w8_2ir, w8_2rr, w8_3, beq_self_eq_true, Bool.and_self, Bool.and_true, Bool.true_and, decide_true, Option.toList_some, Option.toList_none, List.cons_append, List.nil_append, Option.bind_some, if_true, if_false, Nat.reduceLeDiff, Nat.reduceLT, Nat.reduceBEq, Bool.or_false, Bool.false_or, Bool.or_true, Bool.true_or, isc_n k2, z01, not_true_eq_false]
    · rw [if_pos (by omega)] at okc
      have ea := awt_c (d := d + 2) (X := X2) (J := J) (R := R) (w := w1) (k := X 57 4) (by rw [x2k 11 (by decide)]; exact a1) (by omega)
      generalize hX3 : va_up (va_up X2 59 (upd (X2 59) w1 (X 57 4))) 56 (upd (X2 56) 11 (nI (w1 + 1))) = X3 at ea
      have x3o : ∀ a, a ≠ 56 → a ≠ 59 → X3 a = X1 a := fun a h1 h2 => by rw [← hX3, up_n h1, up_n h2, x2o a h1]
      have x3k : ∀ k, k ≠ 11 → X3 56 k = X2 56 k := fun k hk => by rw [← hX3, up_s, pk_un hk]
      have hic := isc_m (d := d + 1) (Y := Y1) (J2 := J2) (R2 := R2) k2 (by omega)
      generalize hY2 : va_up Y1 123 (upd (Y1 123) 49 (nI (c + 1))) = Y2 at hic
      have y2o : ∀ a, a ≠ 123 → Y2 a = Y1 a := fun a ha => by rw [← hY2, up_n ha]
      have y2k : ∀ k, k ≠ 49 → Y2 123 k = Y1 123 k := fun k hk => by rw [← hY2, up_s, pk_un hk]
      have ga := awt_m (d := d + 2) (Y := Y2) (J2 := J2) (R2 := R2) (w := w1) (k := kmp (X 57 4)) (by rw [y2k 46 (by decide)]; exact a2) (by omega)
      generalize hY3 : va_up (va_up Y2 147 (upd (Y2 147) w1 (kmp (X 57 4)))) 123 (upd (Y2 123) 46 (nI (w1 + 1))) = Y3 at ga
      have y3o : ∀ a, a ≠ 123 → a ≠ 147 → Y3 a = Y1 a := fun a h1 h2 => by rw [← hY3, up_n h1, up_n h2, y2o a h1]
      have y3k : ∀ k, k ≠ 46 → Y3 123 k = Y2 123 k := fun k hk => by rw [← hY3, up_s, pk_un hk]
      generalize hdn : (if X 57 4 = 18 ∨ X 57 4 = 19 then (1 : Int32) else 0) = dn
      generalize hX4 : va_up X3 56 (upd (X3 56) 9 dn) = X4
      have x4o : ∀ a, a ≠ 56 → X4 a = X3 a := fun a ha => by rw [← hX4, up_n ha]
      have x4k : ∀ k, k ≠ 9 → X4 56 k = X3 56 k := fun k hk => by rw [← hX4, up_s, pk_un hk]
      generalize hY4 : va_up Y3 123 (upd (upd (Y3 123) 50 1) 51 dn) = Y4
      have y4o : ∀ a, a ≠ 123 → Y4 a = Y3 a := fun a ha => by rw [← hY4, up_n ha]
      have y4k : ∀ k, k ≠ 50 → k ≠ 51 → Y4 123 k = Y3 123 k := fun k h1 h2 => by rw [← hY4, up_s, pk_un h2, pk_un h1]
      have hx4 : xpR X4 Y4 g fi len1 (w1 + 1) o (c + 1) 0 := by
        refine xpR_aw (kc := X 57 4) (km := kmp (X 57 4)) hg h1 hwt ?_ (fun a h1 h2 => by rw [x4o a h1, x3o a h1 h2]) ⟨by rw [x4k 11 (by decide), ← hX3, up_s, pk_us], by rw [x4k 8 (by decide), x3k 8 (by decide), x2k 8 (by decide)]; exact o1, by rw [x4k 7 (by decide), x3k 7 (by decide), ← hX2, up_s, pk_us], ?_⟩ ?_ (fun a h1 h2 => by rw [y4o a h1, y3o a h1 h2]) ⟨by rw [y4k 46 (by decide) (by decide), ← hY3, up_s, pk_us], by rw [y4k 48 (by decide) (by decide), y3k 48 (by decide), y2k 48 (by decide)]; exact o2, by rw [y4k 49 (by decide) (by decide), y3k 49 (by decide), ← hY2, up_s, pk_us], by rw [y4k 20 (by decide) (by decide), y3k 20 (by decide), y2k 20 (by decide)], by rw [y4k 47 (by decide) (by decide), y3k 47 (by decide), y2k 47 (by decide)]⟩ ⟨by omega, by rw [if_neg r5]; rfl⟩ ⟨by omega, by omega⟩ (by rw [if_neg (fun q => q.elim r5 r6)])
        · rw [x4o 59 (by decide), ← hX3, up_n (by decide), up_s, x2o 59 (by decide)]
        · rw [← hX4, up_s, pk_us, ← hY4, up_s, pk_us]
        · rw [y4o 147 (by decide), ← hY3, up_n (by decide), up_s, y2o 147 (by decide)]
      have s4 : psR X4 Y4 L u p := psR_m (psR_c s1 (fun a ha => by rw [x4o a (by omega), x3o a (by omega) (by omega)]) (fun k hk => by rw [x4k k (by omega), x3k k (by omega), x2k k (by omega)])) (by rw [y4o _ (by decide), y3o _ (by decide) (by decide)]) (by rw [y4o _ (by decide), y3o _ (by decide) (by decide)]) (fun k h1 h2 => by rw [y4k k (by omega) (by omega), y3k k (by omega), y2k k (by omega)])
      obtain ⟨X', Y', p', e5, g5, s5, pr, l5, t1, t2, t3⟩ := nxt_p (d := d) (J := J) (J2 := J2) (R := R) (R2 := R2) s4
      refine Or.inr ⟨X', Y', p', len1, w1 + 1, ?_, ?_, s5, pr, xpR_fr hx4 (by rw [t1 g (by omega)]) (t1 _ (by omega)) (t1 _ (by omega)) (t1 59 (by decide)) (fun k _ => by rw [t1 56 (by decide)]) (fun a _ _ => t2 a (by omega)) (fun k hk => t3 k (by omega)), by rw [t3 50 (by omega), ← hY4, up_s, pk_un (by decide), pk_us], (fr.xp.tr (xpF_w hg (fun a h1 h2 => by rw [x4o a h1, x3o a h1 h2]) (fun k hk => by rw [x4k k (by omega), x3k k (by omega), x2k k (by omega)]) (fun a h1 h2 => by rw [y4o a h1, y3o a h1 h2]) (fun k hk => by rw [y4k k (by omega) (by omega), y3k k (by omega), y2k k (by omega)]))).tr (xpF_f hg (nxt_cm t1 t2 t3).1 (nxt_cm t1 t2 t3).2)⟩
      · rw [hc86]
        by_cases z18 : X 57 4 = 18
        · rw [if_pos (Or.inl z18)] at hdn
          rw [← hdn] at hX4
          have z18' := eq_true z18
          simp (disch := omega) only [xX7_joining_86, xX7_joining_87, xX7_joining_90, xX7_joining_93, xX7_joining_94, xX7_joining_95, xX7_joining_98, xX7_joining_99, xX7_joining_100, xX7_joining_101, xX7_joining_104, xX7_joining_105, xX7_joining_106, xX7_joining_108, xX7_joining_111, xX7_joining_112, xX7_joining_114, xX7_joining_117, xX7_joining_118, xX7_joining_121, xX7_joining_122, xX7_joining_125, xX7_joining_126, xX7_joining_129, xX7_joining_132, xX7_joining_133, kd_56, fi_56_0, kd_57, fi_56_10, kd_59, ln_59, kd_56, kd_57, ↓reduceIte, gd_t, hK_p, hN_p, hF_p, hI_p, hJ_p, hR_p, stI_p, stJ_p, stR_p, stA_p, va_rf_s, va_rf_n, clr_i, clr_l, clr_r, clr_n, clr_o, w8_0, w8_1i, w8_1r, w8_2ii, w8_2ri, w8_2ir, w8_2rr, w8_3, beq_self_eq_true, Bool.and_self, Bool.and_true, Bool.true_and, decide_true, Option.toList_some, Option.toList_none, List.cons_append, List.nil_append, Option.bind_some, if_true, if_false, Nat.reduceLeDiff, Nat.reduceLT, Nat.reduceBEq, Bool.or_false, Bool.false_or, Bool.or_true, Bool.true_or, okc, ea, n1, z18', hX4, e5, z11, not_true_eq_false, not_false_eq_true]
        · by_cases z19 : X 57 4 = 19
          · rw [if_pos (Or.inr z19)] at hdn
            rw [← hdn] at hX4
            have z19' := eq_true z19
            simp (disch := omega) only [xX7_joining_86, xX7_joining_87, xX7_joining_90, xX7_joining_93, xX7_joining_94, xX7_joining_95, xX7_joining_98, xX7_joining_99, xX7_joining_100, xX7_joining_101, xX7_joining_104, xX7_joining_105, xX7_joining_106, xX7_joining_108, xX7_joining_111, xX7_joining_112, xX7_joining_114, xX7_joining_117, xX7_joining_118, xX7_joining_121, xX7_joining_122, xX7_joining_125, xX7_joining_126, xX7_joining_129, xX7_joining_132, xX7_joining_133, kd_56, fi_56_0, kd_57, fi_56_10, kd_59, ln_59, kd_56, kd_57, ↓reduceIte, gd_t, hK_p, hN_p, hF_p, hI_p, hJ_p, hR_p, stI_p, stJ_p, stR_p, stA_p, va_rf_s, va_rf_n, clr_i, clr_l, clr_r, clr_n, clr_o, w8_0, w8_1i, w8_1r, w8_2ii, w8_2ri, w8_2ir, w8_2rr, w8_3, beq_self_eq_true, Bool.and_self, Bool.and_true, Bool.true_and, decide_true, Option.toList_some, Option.toList_none, List.cons_append, List.nil_append, Option.bind_some, if_true, if_false, Nat.reduceLeDiff, Nat.reduceLT, Nat.reduceBEq, Bool.or_false, Bool.false_or, Bool.or_true, Bool.true_or, okc, ea, n1, z18, z19', hX4, e5, z11, not_true_eq_false, not_false_eq_true]
          · rw [if_neg (fun q => q.elim z18 z19)] at hdn
            rw [← hdn] at hX4
            simp (disch := omega) only [xX7_joining_86, xX7_joining_87, xX7_joining_90, xX7_joining_93, xX7_joining_94, xX7_joining_95, xX7_joining_98, xX7_joining_99, xX7_joining_100, xX7_joining_101, xX7_joining_104, xX7_joining_105, xX7_joining_106, xX7_joining_108, xX7_joining_111, xX7_joining_112, xX7_joining_114, xX7_joining_117, xX7_joining_118, xX7_joining_121, xX7_joining_122, xX7_joining_125, xX7_joining_126, xX7_joining_129, xX7_joining_132, xX7_joining_133, kd_56, fi_56_0, kd_57, fi_56_10, kd_59, ln_59, kd_56, kd_57, ↓reduceIte, gd_t, hK_p, hN_p, hF_p, hI_p, hJ_p, hR_p, stI_p, stJ_p, stR_p, stA_p, va_rf_s, va_rf_n, clr_i, clr_l, clr_r, clr_n, clr_o, w8_0, w8_1i, w8_1r, w8_2ii, w8_2ri, w8_2ir, w8_2rr, w8_3, beq_self_eq_true, Bool.and_self, Bool.and_true, Bool.true_and, decide_true, Option.toList_some, Option.toList_none, List.cons_append, List.nil_append, Option.bind_some, if_true, if_false, Nat.reduceLeDiff, Nat.reduceLT, Nat.reduceBEq, Bool.or_false, Bool.false_or, Bool.or_true, Bool.true_or, okc, ea, n1, z18, z19, hX4, e5, z11, not_true_eq_false, not_false_eq_true]
      · rw [hm217]
        by_cases z3 : rkF (X 57 4) < 3
        · have c3 : ¬ 3 ≤ nI (rkF (X 57 4)) := fun q => absurd ((nI_leI (a := 3) (b := rkF (X 57 4)) (by omega) (by omega)).mp q) (by omega)
          rw [if_pos (r4.mp z3)] at hdn
          rw [← hdn] at hY4
          simp (disch := omega) only [xX12_signs_217, xX12_signs_218, xX12_signs_221, xX12_signs_224, xX12_signs_225, xX12_signs_226, xX12_signs_227, xX12_signs_228, xX12_signs_231, xX12_signs_232, xX12_signs_233, xX12_signs_236, xX12_signs_237, xX12_signs_238, xX12_signs_241, xX12_signs_242, xX12_signs_245, xX12_signs_246, xX12_signs_249, xX12_signs_250, xX12_signs_253, xX12_signs_254, xX12_signs_257, xX12_signs_258, kd_123, fi_123_44, kd_147, ln_147, kd_123, ↓reduceIte, gd_t, hK_p, hN_p, hF_p, hI_p, hJ_p, hR_p, stI_p, stJ_p, stR_p, stA_p, va_rf_s, va_rf_n, clr_i, clr_l, clr_r, clr_n, clr_o, w8_0, w8_1i, w8_1r, w8_2ii, w8_2ri, w8_2ir, w8_2rr, w8_3, beq_self_eq_true, Bool.and_self, Bool.and_true, Bool.true_and, decide_true, Option.toList_some, Option.toList_none, List.cons_append, List.nil_append, Option.bind_some, if_true, if_false, Nat.reduceLeDiff, Nat.reduceLT, Nat.reduceBEq, Bool.or_false, Bool.false_or, Bool.or_true, Bool.true_or, up_s, bx_uu, hic, ga, rnk_m hwt, c3, hY4, g5, n1, z11, not_true_eq_false, not_false_eq_true]
        · have c3 : 3 ≤ nI (rkF (X 57 4)) := (nI_leI (a := 3) (b := rkF (X 57 4)) (by omega) (by omega)).mpr (by omega)
          rw [if_neg (fun q => z3 (r4.mpr q))] at hdn
          rw [← hdn] at hY4
          simp (disch := omega) only [xX12_signs_217, xX12_signs_218, xX12_signs_221, xX12_signs_224, xX12_signs_225, xX12_signs_226, xX12_signs_227, xX12_signs_228, xX12_signs_231, xX12_signs_232, xX12_signs_233, xX12_signs_236, xX12_signs_237, xX12_signs_238, xX12_signs_241, xX12_signs_242, xX12_signs_245, xX12_signs_246, xX12_signs_249, xX12_signs_250, xX12_signs_253, xX12_signs_254, xX12_signs_257, xX12_signs_258, kd_123, fi_123_44, kd_147, ln_147, kd_123, ↓reduceIte, gd_t, hK_p, hN_p, hF_p, hI_p, hJ_p, hR_p, stI_p, stJ_p, stR_p, stA_p, va_rf_s, va_rf_n, clr_i, clr_l, clr_r, clr_n, clr_o, w8_0, w8_1i, w8_1r, w8_2ii, w8_2ri, w8_2ir, w8_2rr, w8_3, beq_self_eq_true, Bool.and_self, Bool.and_true, Bool.true_and, decide_true, Option.toList_some, Option.toList_none, List.cons_append, List.nil_append, Option.bind_some, if_true, if_false, Nat.reduceLeDiff, Nat.reduceLT, Nat.reduceBEq, Bool.or_false, Bool.false_or, Bool.or_true, Bool.true_or, up_s, bx_uu, hic, ga, rnk_m hwt, c3, hY4, g5, n1, z11, not_true_eq_false, not_false_eq_true]
end SG

-- MOTION, 3: the pulls
def smI (f : Nat → Int32) : Nat → Int32
  | 0 => 0
  | n + 1 => smI f n + f n
theorem smI_cong {f g : Nat → Int32} : ∀ {n : Nat}, (∀ k, k < n → f k = g k) → smI f n = smI g n
  | 0, _ => rfl
  | n + 1, h => by
    unfold smI
    rw [smI_cong (fun k hk => h k (by omega)), h n (by omega)]
theorem smI_zero {f : Nat → Int32} : ∀ {n : Nat}, (∀ k, k < n → f k = 0) → smI f n = 0
  | 0, _ => rfl
  | n + 1, h => by
    unfold smI
    rw [smI_zero (fun k hk => h k (by omega)), h n (by omega)]
    rfl
def paiF (sa ph bo : Nat → Int32) (i j : Nat) (r : Nat → Int32) : Nat → Int32 := if sa j = 1 then upd (upd r i (r i + bo (i * 6 + j) * leaF (ph j - ph i))) j (upd r i (r i + bo (i * 6 + j) * leaF (ph j - ph i)) j - bo (j * 6 + i) * leaF (ph j - ph i)) else r
def weiF (n : Nat) (sa ph bo r : Nat → Int32) : Nat → Int32 := itf (fun i r => if sa i = 1 then itf (paiF sa ph bo i) (n - (i + 1)) (i + 1) r else r) n 0 (itf (fun i r => upd r i 0) n 0 r)
theorem wei_spec {d m n : Nat} {I : Mem} {J : MemL} {R : MemR} (hm : isMo m) (hn : I m 1 = nI n) (hn6 : n ≤ 6) :
    C (d + 2) MX4_weighPulls [.ref m] (hp I J R) = some (none, hp (va_up I (m + 12) (weiF n (I (m + 10)) (I (m + 7)) (I (m + 11)) (I (m + 12)))) J R) := by
  have hm2 := mo_lo hm
  have h1 : ∀ r, E (C (d + 1)) MX4_weighPulls 2 [some (.ref m), some (.int (nI 0)), none, none] [] (hp (va_up I (m + 12) r) J R) = E (C (d + 1)) MX4_weighPulls 23 [some (.ref m), some (.int (nI n)), none, none] [] (hp (va_up I (m + 12) (itf (fun i r => upd r i 0) n 0 r)) J R) := by
    intro r
    refine for_0 (P := fun i r => E (C (d + 1)) MX4_weighPulls 2 [some (.ref m), some (.int (nI i)), none, none] [] (hp (va_up I (m + 12) r) J R)) (fin := fun r => E (C (d + 1)) MX4_weighPulls 23 [some (.ref m), some (.int (nI n)), none, none] [] (hp (va_up I (m + 12) r) J R)) ?_ ?_
    · intro i r hi
      rw [xX4_weighPulls_2]
      simp (disch := omega) only [xX4_weighPulls_0, xX4_weighPulls_1, xX4_weighPulls_3, xX4_weighPulls_4, xX4_weighPulls_7, xX4_weighPulls_10, xX4_weighPulls_11, xX4_weighPulls_14, xX4_weighPulls_15, xX4_weighPulls_16, xX4_weighPulls_17, xX4_weighPulls_20, xX4_weighPulls_23, xX4_weighPulls_24, xX4_weighPulls_26, xX4_weighPulls_27, xX4_weighPulls_30, xX4_weighPulls_33, xX4_weighPulls_34, xX4_weighPulls_37, xX4_weighPulls_38, xX4_weighPulls_39, xX4_weighPulls_40, xX4_weighPulls_43, xX4_weighPulls_44, xX4_weighPulls_45, xX4_weighPulls_46, xX4_weighPulls_48, xX4_weighPulls_49, xX4_weighPulls_52, xX4_weighPulls_55, xX4_weighPulls_56, xX4_weighPulls_59, xX4_weighPulls_60, xX4_weighPulls_61, xX4_weighPulls_62, xX4_weighPulls_65, xX4_weighPulls_66, xX4_weighPulls_69, xX4_weighPulls_70, xX4_weighPulls_71, xX4_weighPulls_72, xX4_weighPulls_75, xX4_weighPulls_76, xX4_weighPulls_77, xX4_weighPulls_78, xX4_weighPulls_81, xX4_weighPulls_82, xX4_weighPulls_83, xX4_weighPulls_86, xX4_weighPulls_87, xX4_weighPulls_88, xX4_weighPulls_89, xX4_weighPulls_90, xX4_weighPulls_93, xX4_weighPulls_94, xX4_weighPulls_96, xX4_weighPulls_97, xX4_weighPulls_98, xX4_weighPulls_99, xX4_weighPulls_100, xX4_weighPulls_101, xX4_weighPulls_102, xX4_weighPulls_103, xX4_weighPulls_104, xX4_weighPulls_105, xX4_weighPulls_108, xX4_weighPulls_109, xX4_weighPulls_110, xX4_weighPulls_111, xX4_weighPulls_112, xX4_weighPulls_115, xX4_weighPulls_116, xX4_weighPulls_118, xX4_weighPulls_119, xX4_weighPulls_120, xX4_weighPulls_121, xX4_weighPulls_122, xX4_weighPulls_123, xX4_weighPulls_124, xX4_weighPulls_125, xX4_weighPulls_126, xX4_weighPulls_129, xX4_weighPulls_132, xX4_weighPulls_135, xX4_weighPulls_138, mo_k0 hm, mo_f0_11 hm, mo_k7 hm, mo_n7 hm, mo_f0_14 hm, mo_k10 hm, mo_n10 hm, mo_f0_15 hm, mo_k11 hm, mo_n11 hm, mo_f0_16 hm, mo_k12 hm, mo_n12 hm, ↓reduceIte, gd_t, hK_p, hN_p, hF_p, hI_p, hJ_p, hR_p, stI_p, stJ_p, stR_p, stA_p, va_rf_s, va_rf_n, clr_i, clr_l, clr_r, clr_n, clr_o, w8_0, w8_1i, w8_1r, w8_2ii, w8_2ri, w8_2ir, w8_2rr, w8_3, beq_self_eq_true, Bool.and_self, Bool.and_true, Bool.true_and, decide_true, Option.toList_some, Option.toList_none, List.cons_append, List.nil_append, Option.bind_some, if_true, if_false, Nat.reduceLeDiff, Nat.reduceLT, Nat.reduceBEq, Bool.or_false, Bool.false_or, Bool.or_true, Bool.true_or, nI_leI, nI_ltI, nI_eq, nI_clamp, inb_n, up_s, up_n, bx_uu, if_pos, if_neg, nI_1, ix6, nI_0n, pk_us, pk_un, ge_0n, hn]
    · intro r
      rw [xX4_weighPulls_2]
      simp (disch := omega) only [xX4_weighPulls_0, xX4_weighPulls_1, xX4_weighPulls_3, xX4_weighPulls_4, xX4_weighPulls_7, xX4_weighPulls_10, xX4_weighPulls_11, xX4_weighPulls_14, xX4_weighPulls_15, xX4_weighPulls_16, xX4_weighPulls_17, xX4_weighPulls_20, xX4_weighPulls_24, xX4_weighPulls_26, xX4_weighPulls_27, xX4_weighPulls_30, xX4_weighPulls_33, xX4_weighPulls_34, xX4_weighPulls_37, xX4_weighPulls_38, xX4_weighPulls_39, xX4_weighPulls_40, xX4_weighPulls_43, xX4_weighPulls_44, xX4_weighPulls_45, xX4_weighPulls_46, xX4_weighPulls_48, xX4_weighPulls_49, xX4_weighPulls_52, xX4_weighPulls_55, xX4_weighPulls_56, xX4_weighPulls_59, xX4_weighPulls_60, xX4_weighPulls_61, xX4_weighPulls_62, xX4_weighPulls_65, xX4_weighPulls_66, xX4_weighPulls_69, xX4_weighPulls_70, xX4_weighPulls_71, xX4_weighPulls_72, xX4_weighPulls_75, xX4_weighPulls_76, xX4_weighPulls_77, xX4_weighPulls_78, xX4_weighPulls_81, xX4_weighPulls_82, xX4_weighPulls_83, xX4_weighPulls_86, xX4_weighPulls_87, xX4_weighPulls_88, xX4_weighPulls_89, xX4_weighPulls_90, xX4_weighPulls_93, xX4_weighPulls_94, xX4_weighPulls_96, xX4_weighPulls_97, xX4_weighPulls_98, xX4_weighPulls_99, xX4_weighPulls_100, xX4_weighPulls_101, xX4_weighPulls_102, xX4_weighPulls_103, xX4_weighPulls_104, xX4_weighPulls_105, xX4_weighPulls_108, xX4_weighPulls_109, xX4_weighPulls_110, xX4_weighPulls_111, xX4_weighPulls_112, xX4_weighPulls_115, xX4_weighPulls_116, xX4_weighPulls_118, xX4_weighPulls_119, xX4_weighPulls_120, xX4_weighPulls_121, xX4_weighPulls_122, xX4_weighPulls_123, xX4_weighPulls_124, xX4_weighPulls_125, xX4_weighPulls_126, xX4_weighPulls_129, xX4_weighPulls_132, xX4_weighPulls_135, xX4_weighPulls_138, mo_k0 hm, mo_f0_11 hm, mo_k7 hm, mo_n7 hm, mo_f0_14 hm, mo_k10 hm, mo_n10 hm, mo_f0_15 hm, mo_k11 hm, mo_n11 hm, mo_f0_16 hm, mo_k12 hm, mo_n12 hm, ↓reduceIte, gd_t, hK_p, hN_p, hF_p, hI_p, hJ_p, hR_p, stI_p, stJ_p, stR_p, stA_p, va_rf_s, va_rf_n, clr_i, clr_l, clr_r, clr_n, clr_o, w8_0, w8_1i, w8_1r, w8_2ii, w8_2ri, w8_2ir, w8_2rr, w8_3, beq_self_eq_true, Bool.and_self, Bool.and_true, Bool.true_and, decide_true, Option.toList_some, Option.toList_none, List.cons_append, List.nil_append, Option.bind_some, if_true, if_false, Nat.reduceLeDiff, Nat.reduceLT, Nat.reduceBEq, Bool.or_false, Bool.false_or, Bool.or_true, Bool.true_or, nI_leI, nI_ltI, nI_eq, nI_clamp, inb_n, up_s, up_n, bx_uu, if_pos, if_neg, nI_1, ix6, nI_0n, pk_us, pk_un, ge_0n, hn]
  have hin : ∀ (i : Nat), i < n → ∀ (k j : Nat) (r : Nat → Int32) (g : Option Value), j + k = n → ∃ q : Option Value, E (C (d + 1)) MX4_weighPulls 47 [some (.ref m), some (.int (nI i)), some (.int (nI j)), g] [] (hp (va_up I (m + 12) r) J R) = E (C (d + 1)) MX4_weighPulls 132 [some (.ref m), some (.int (nI i)), some (.int (nI n)), q] [] (hp (va_up I (m + 12) (itf (paiF (I (m + 10)) (I (m + 7)) (I (m + 11)) i) k j r)) J R) := by
    intro i hi
    refine for_j (P := fun j r (g : Option Value) => E (C (d + 1)) MX4_weighPulls 47 [some (.ref m), some (.int (nI i)), some (.int (nI j)), g] [] (hp (va_up I (m + 12) r) J R)) (F := fun r (q : Option Value) => E (C (d + 1)) MX4_weighPulls 132 [some (.ref m), some (.int (nI i)), some (.int (nI n)), q] [] (hp (va_up I (m + 12) r) J R)) (n := n) ?_ ?_
    · intro j r g hj
      by_cases h : I (m + 10) j = 1
      · refine ⟨some (.int (leaF (I (m + 7) j - I (m + 7) i))), ?_⟩
        rw [xX4_weighPulls_47]
        simp (disch := omega) only [xX4_weighPulls_0, xX4_weighPulls_1, xX4_weighPulls_3, xX4_weighPulls_4, xX4_weighPulls_7, xX4_weighPulls_10, xX4_weighPulls_11, xX4_weighPulls_14, xX4_weighPulls_15, xX4_weighPulls_16, xX4_weighPulls_17, xX4_weighPulls_20, xX4_weighPulls_23, xX4_weighPulls_24, xX4_weighPulls_26, xX4_weighPulls_27, xX4_weighPulls_30, xX4_weighPulls_33, xX4_weighPulls_34, xX4_weighPulls_37, xX4_weighPulls_38, xX4_weighPulls_39, xX4_weighPulls_40, xX4_weighPulls_43, xX4_weighPulls_44, xX4_weighPulls_45, xX4_weighPulls_46, xX4_weighPulls_48, xX4_weighPulls_49, xX4_weighPulls_52, xX4_weighPulls_55, xX4_weighPulls_56, xX4_weighPulls_59, xX4_weighPulls_60, xX4_weighPulls_61, xX4_weighPulls_62, xX4_weighPulls_65, xX4_weighPulls_66, xX4_weighPulls_69, xX4_weighPulls_70, xX4_weighPulls_71, xX4_weighPulls_72, xX4_weighPulls_75, xX4_weighPulls_76, xX4_weighPulls_77, xX4_weighPulls_78, xX4_weighPulls_81, xX4_weighPulls_82, xX4_weighPulls_83, xX4_weighPulls_86, xX4_weighPulls_87, xX4_weighPulls_88, xX4_weighPulls_89, xX4_weighPulls_90, xX4_weighPulls_93, xX4_weighPulls_94, xX4_weighPulls_96, xX4_weighPulls_97, xX4_weighPulls_98, xX4_weighPulls_99, xX4_weighPulls_100, xX4_weighPulls_101, xX4_weighPulls_102, xX4_weighPulls_103, xX4_weighPulls_104, xX4_weighPulls_105, xX4_weighPulls_108, xX4_weighPulls_109, xX4_weighPulls_110, xX4_weighPulls_111, xX4_weighPulls_112, xX4_weighPulls_115, xX4_weighPulls_116, xX4_weighPulls_118, xX4_weighPulls_119, xX4_weighPulls_120, xX4_weighPulls_121, xX4_weighPulls_122, xX4_weighPulls_123, xX4_weighPulls_124, xX4_weighPulls_125, xX4_weighPulls_126, xX4_weighPulls_129, xX4_weighPulls_132, xX4_weighPulls_135, xX4_weighPulls_138, mo_k0 hm, mo_f0_11 hm, mo_k7 hm, mo_n7 hm, mo_f0_14 hm, mo_k10 hm, mo_n10 hm, mo_f0_15 hm, mo_k11 hm, mo_n11 hm, mo_f0_16 hm, mo_k12 hm, mo_n12 hm, ↓reduceIte, gd_t, hK_p, hN_p, hF_p, hI_p, hJ_p, hR_p, stI_p, stJ_p, stR_p, stA_p, va_rf_s, va_rf_n, clr_i, clr_l, clr_r, clr_n, clr_o, w8_0, w8_1i, w8_1r, w8_2ii, w8_2ri, w8_2ir, w8_2rr, w8_3, beq_self_eq_true, Bool.and_self, Bool.and_true, Bool.true_and, decide_true, Option.toList_some, Option.toList_none, List.cons_append, List.nil_append, Option.bind_some, if_true, if_false, Nat.reduceLeDiff, Nat.reduceLT, Nat.reduceBEq, Bool.or_false, Bool.false_or, Bool.or_true, Bool.true_or, nI_leI, nI_ltI, nI_eq, nI_clamp, inb_n, up_s, up_n, bx_uu, if_pos, if_neg, nI_1, ix6, nI_0n, pk_us, pk_un, ge_0n, hn, h, lea_spec, paiF, not_true_eq_false]
      · refine ⟨g, ?_⟩
        rw [xX4_weighPulls_47]
        simp (disch := omega) only [xX4_weighPulls_0, xX4_weighPulls_1, xX4_weighPulls_3, xX4_weighPulls_4, xX4_weighPulls_7, xX4_weighPulls_10, xX4_weighPulls_11, xX4_weighPulls_14, xX4_weighPulls_15, xX4_weighPulls_16, xX4_weighPulls_17, xX4_weighPulls_20, xX4_weighPulls_23, xX4_weighPulls_24, xX4_weighPulls_26, xX4_weighPulls_27, xX4_weighPulls_30, xX4_weighPulls_33, xX4_weighPulls_34, xX4_weighPulls_37, xX4_weighPulls_38, xX4_weighPulls_39, xX4_weighPulls_40, xX4_weighPulls_43, xX4_weighPulls_44, xX4_weighPulls_45, xX4_weighPulls_46, xX4_weighPulls_48, xX4_weighPulls_49, xX4_weighPulls_52, xX4_weighPulls_55, xX4_weighPulls_56, xX4_weighPulls_59, xX4_weighPulls_60, xX4_weighPulls_61, xX4_weighPulls_62, xX4_weighPulls_65, xX4_weighPulls_66, xX4_weighPulls_69, xX4_weighPulls_70, xX4_weighPulls_71, xX4_weighPulls_72, xX4_weighPulls_75, xX4_weighPulls_76, xX4_weighPulls_77, xX4_weighPulls_78, xX4_weighPulls_81, xX4_weighPulls_82, xX4_weighPulls_83, xX4_weighPulls_86, xX4_weighPulls_87, xX4_weighPulls_88, xX4_weighPulls_89, xX4_weighPulls_90, xX4_weighPulls_93, xX4_weighPulls_94, xX4_weighPulls_96, xX4_weighPulls_97, xX4_weighPulls_98, xX4_weighPulls_99, xX4_weighPulls_100, xX4_weighPulls_101, xX4_weighPulls_102, xX4_weighPulls_103, xX4_weighPulls_104, xX4_weighPulls_105, xX4_weighPulls_108, xX4_weighPulls_109, xX4_weighPulls_110, xX4_weighPulls_111, xX4_weighPulls_112, xX4_weighPulls_115, xX4_weighPulls_116, xX4_weighPulls_118, xX4_weighPulls_119, xX4_weighPulls_120, xX4_weighPulls_121, xX4_weighPulls_122, xX4_weighPulls_123, xX4_weighPulls_124, xX4_weighPulls_125, xX4_weighPulls_126, xX4_weighPulls_129, xX4_weighPulls_132, xX4_weighPulls_135, xX4_weighPulls_138, mo_k0 hm, mo_f0_11 hm, mo_k7 hm, mo_n7 hm, mo_f0_14 hm, mo_k10 hm, mo_n10 hm, mo_f0_15 hm, mo_k11 hm, mo_n11 hm, mo_f0_16 hm, mo_k12 hm, mo_n12 hm, ↓reduceIte, gd_t, hK_p, hN_p, hF_p, hI_p, hJ_p, hR_p, stI_p, stJ_p, stR_p, stA_p, va_rf_s, va_rf_n, clr_i, clr_l, clr_r, clr_n, clr_o, w8_0, w8_1i, w8_1r, w8_2ii, w8_2ri, w8_2ir, w8_2rr, w8_3, beq_self_eq_true, Bool.and_self, Bool.and_true, Bool.true_and, decide_true, Option.toList_some, Option.toList_none, List.cons_append, List.nil_append, Option.bind_some, if_true, if_false, Nat.reduceLeDiff, Nat.reduceLT, Nat.reduceBEq, Bool.or_false, Bool.false_or, Bool.or_true, Bool.true_or, nI_leI, nI_ltI, nI_eq, nI_clamp, inb_n, up_s, up_n, bx_uu, if_pos, if_neg, nI_1, ix6, nI_0n, pk_us, pk_un, ge_0n, hn, h, paiF, not_false_eq_true]
    · intro r g
      refine ⟨g, ?_⟩
      rw [xX4_weighPulls_47]
      simp (disch := omega) only [xX4_weighPulls_0, xX4_weighPulls_1, xX4_weighPulls_3, xX4_weighPulls_4, xX4_weighPulls_7, xX4_weighPulls_10, xX4_weighPulls_11, xX4_weighPulls_14, xX4_weighPulls_15, xX4_weighPulls_16, xX4_weighPulls_17, xX4_weighPulls_20, xX4_weighPulls_23, xX4_weighPulls_24, xX4_weighPulls_26, xX4_weighPulls_27, xX4_weighPulls_30, xX4_weighPulls_33, xX4_weighPulls_34, xX4_weighPulls_37, xX4_weighPulls_38, xX4_weighPulls_39, xX4_weighPulls_40, xX4_weighPulls_43, xX4_weighPulls_44, xX4_weighPulls_45, xX4_weighPulls_46, xX4_weighPulls_48, xX4_weighPulls_49, xX4_weighPulls_52, xX4_weighPulls_55, xX4_weighPulls_56, xX4_weighPulls_59, xX4_weighPulls_60, xX4_weighPulls_61, xX4_weighPulls_62, xX4_weighPulls_65, xX4_weighPulls_66, xX4_weighPulls_69, xX4_weighPulls_70, xX4_weighPulls_71, xX4_weighPulls_72, xX4_weighPulls_75, xX4_weighPulls_76, xX4_weighPulls_77, xX4_weighPulls_78, xX4_weighPulls_81, xX4_weighPulls_82, xX4_weighPulls_83, xX4_weighPulls_86, xX4_weighPulls_87, xX4_weighPulls_88, xX4_weighPulls_89, xX4_weighPulls_90, xX4_weighPulls_93, xX4_weighPulls_94, xX4_weighPulls_96, xX4_weighPulls_97, xX4_weighPulls_98, xX4_weighPulls_99, xX4_weighPulls_100, xX4_weighPulls_101, xX4_weighPulls_102, xX4_weighPulls_103, xX4_weighPulls_104, xX4_weighPulls_105, xX4_weighPulls_108, xX4_weighPulls_109, xX4_weighPulls_110, xX4_weighPulls_111, xX4_weighPulls_112, xX4_weighPulls_115, xX4_weighPulls_116, xX4_weighPulls_118, xX4_weighPulls_119, xX4_weighPulls_120, xX4_weighPulls_121, xX4_weighPulls_122, xX4_weighPulls_123, xX4_weighPulls_124, xX4_weighPulls_125, xX4_weighPulls_126, xX4_weighPulls_129, xX4_weighPulls_135, xX4_weighPulls_138, mo_k0 hm, mo_f0_11 hm, mo_k7 hm, mo_n7 hm, mo_f0_14 hm, mo_k10 hm, mo_n10 hm, mo_f0_15 hm, mo_k11 hm, mo_n11 hm, mo_f0_16 hm, mo_k12 hm, mo_n12 hm, ↓reduceIte, gd_t, hK_p, hN_p, hF_p, hI_p, hJ_p, hR_p, stI_p, stJ_p, stR_p, stA_p, va_rf_s, va_rf_n, clr_i, clr_l, clr_r, clr_n, clr_o, w8_0, w8_1i, w8_1r, w8_2ii, w8_2ri, w8_2ir, w8_2rr, w8_3, beq_self_eq_true, Bool.and_self, Bool.and_true, Bool.true_and, decide_true, Option.toList_some, Option.toList_none, List.cons_append, List.nil_append, Option.bind_some, if_true, if_false, Nat.reduceLeDiff, Nat.reduceLT, Nat.reduceBEq, Bool.or_false, Bool.false_or, Bool.or_true, Bool.true_or, nI_leI, nI_ltI, nI_eq, nI_clamp, inb_n, up_s, up_n, bx_uu, if_pos, if_neg, nI_1, ix6, nI_0n, pk_us, pk_un, ge_0n, hn]
  have hgo : ∀ (k i : Nat) (r : Nat → Int32) (g : Option Value × Option Value), i + k = n → ∃ q : Option Value × Option Value, E (C (d + 1)) MX4_weighPulls 25 [some (.ref m), some (.int (nI i)), g.1, g.2] [] (hp (va_up I (m + 12) r) J R) =
      E (C (d + 1)) MX4_weighPulls 138 [some (.ref m), some (.int (nI n)), q.1, q.2] [] (hp (va_up I (m + 12) (itf (fun i r => if I (m + 10) i = 1 then itf (paiF (I (m + 10)) (I (m + 7)) (I (m + 11)) i) (n - (i + 1)) (i + 1) r else r) k i r)) J R) := by
    refine for_j (P := fun i r (g : Option Value × Option Value) => E (C (d + 1)) MX4_weighPulls 25 [some (.ref m), some (.int (nI i)), g.1, g.2] [] (hp (va_up I (m + 12) r) J R)) (F := fun r (q : Option Value × Option Value) => E (C (d + 1)) MX4_weighPulls 138 [some (.ref m), some (.int (nI n)), q.1, q.2] [] (hp (va_up I (m + 12) r) J R)) (n := n) ?_ ?_
    · intro i r g hi
      by_cases h : I (m + 10) i = 1
      · obtain ⟨q, hq⟩ := hin i hi (n - (i + 1)) (i + 1) r g.2 (by omega)
        refine ⟨(some (.int (nI n)), q), ?_⟩
        rw [xX4_weighPulls_25]
        simp (disch := omega) only [xX4_weighPulls_0, xX4_weighPulls_1, xX4_weighPulls_3, xX4_weighPulls_4, xX4_weighPulls_7, xX4_weighPulls_10, xX4_weighPulls_11, xX4_weighPulls_14, xX4_weighPulls_15, xX4_weighPulls_16, xX4_weighPulls_17, xX4_weighPulls_20, xX4_weighPulls_23, xX4_weighPulls_24, xX4_weighPulls_26, xX4_weighPulls_27, xX4_weighPulls_30, xX4_weighPulls_33, xX4_weighPulls_34, xX4_weighPulls_37, xX4_weighPulls_38, xX4_weighPulls_39, xX4_weighPulls_40, xX4_weighPulls_43, xX4_weighPulls_44, xX4_weighPulls_45, xX4_weighPulls_46, xX4_weighPulls_48, xX4_weighPulls_49, xX4_weighPulls_52, xX4_weighPulls_55, xX4_weighPulls_56, xX4_weighPulls_59, xX4_weighPulls_60, xX4_weighPulls_61, xX4_weighPulls_62, xX4_weighPulls_65, xX4_weighPulls_66, xX4_weighPulls_69, xX4_weighPulls_70, xX4_weighPulls_71, xX4_weighPulls_72, xX4_weighPulls_75, xX4_weighPulls_76, xX4_weighPulls_77, xX4_weighPulls_78, xX4_weighPulls_81, xX4_weighPulls_82, xX4_weighPulls_83, xX4_weighPulls_86, xX4_weighPulls_87, xX4_weighPulls_88, xX4_weighPulls_89, xX4_weighPulls_90, xX4_weighPulls_93, xX4_weighPulls_94, xX4_weighPulls_96, xX4_weighPulls_97, xX4_weighPulls_98, xX4_weighPulls_99, xX4_weighPulls_100, xX4_weighPulls_101, xX4_weighPulls_102, xX4_weighPulls_103, xX4_weighPulls_104, xX4_weighPulls_105, xX4_weighPulls_108, xX4_weighPulls_109, xX4_weighPulls_110, xX4_weighPulls_111, xX4_weighPulls_112, xX4_weighPulls_115, xX4_weighPulls_116, xX4_weighPulls_118, xX4_weighPulls_119, xX4_weighPulls_120, xX4_weighPulls_121, xX4_weighPulls_122, xX4_weighPulls_123, xX4_weighPulls_124, xX4_weighPulls_125, xX4_weighPulls_126, xX4_weighPulls_129, xX4_weighPulls_132, xX4_weighPulls_135, xX4_weighPulls_138, mo_k0 hm, mo_f0_11 hm, mo_k7 hm, mo_n7 hm, mo_f0_14 hm, mo_k10 hm, mo_n10 hm, mo_f0_15 hm, mo_k11 hm, mo_n11 hm, mo_f0_16 hm, mo_k12 hm, mo_n12 hm, ↓reduceIte, gd_t, hK_p, hN_p, hF_p, hI_p, hJ_p, hR_p, stI_p, stJ_p, stR_p, stA_p, va_rf_s, va_rf_n, clr_i, clr_l, clr_r, clr_n, clr_o, w8_0, w8_1i, w8_1r, w8_2ii, w8_2ri, w8_2ir, w8_2rr, w8_3, beq_self_eq_true, Bool.and_self, Bool.and_true, Bool.true_and, decide_true, Option.toList_some, Option.toList_none, List.cons_append, List.nil_append, Option.bind_some, if_true, if_false, Nat.reduceLeDiff, Nat.reduceLT, Nat.reduceBEq, Bool.or_false, Bool.false_or, Bool.or_true, Bool.true_or, nI_leI, nI_ltI, nI_eq, nI_clamp, inb_n, up_s, up_n, bx_uu, if_pos, if_neg, nI_1, ix6, nI_0n, pk_us, pk_un, ge_0n, hn, h, not_true_eq_false, hq]
      · refine ⟨g, ?_⟩
        rw [xX4_weighPulls_25]
        simp (disch := omega) only [xX4_weighPulls_0, xX4_weighPulls_1, xX4_weighPulls_3, xX4_weighPulls_4, xX4_weighPulls_7, xX4_weighPulls_10, xX4_weighPulls_11, xX4_weighPulls_14, xX4_weighPulls_15, xX4_weighPulls_16, xX4_weighPulls_17, xX4_weighPulls_20, xX4_weighPulls_23, xX4_weighPulls_24, xX4_weighPulls_26, xX4_weighPulls_27, xX4_weighPulls_30, xX4_weighPulls_33, xX4_weighPulls_34, xX4_weighPulls_37, xX4_weighPulls_38, xX4_weighPulls_39, xX4_weighPulls_40, xX4_weighPulls_43, xX4_weighPulls_44, xX4_weighPulls_45, xX4_weighPulls_46, xX4_weighPulls_48, xX4_weighPulls_49, xX4_weighPulls_52, xX4_weighPulls_55, xX4_weighPulls_56, xX4_weighPulls_59, xX4_weighPulls_60, xX4_weighPulls_61, xX4_weighPulls_62, xX4_weighPulls_65, xX4_weighPulls_66, xX4_weighPulls_69, xX4_weighPulls_70, xX4_weighPulls_71, xX4_weighPulls_72, xX4_weighPulls_75, xX4_weighPulls_76, xX4_weighPulls_77, xX4_weighPulls_78, xX4_weighPulls_81, xX4_weighPulls_82, xX4_weighPulls_83, xX4_weighPulls_86, xX4_weighPulls_87, xX4_weighPulls_88, xX4_weighPulls_89, xX4_weighPulls_90, xX4_weighPulls_93, xX4_weighPulls_94, xX4_weighPulls_96, xX4_weighPulls_97, xX4_weighPulls_98, xX4_weighPulls_99, xX4_weighPulls_100, xX4_weighPulls_101, xX4_weighPulls_102, xX4_weighPulls_103, xX4_weighPulls_104, xX4_weighPulls_105, xX4_weighPulls_108, xX4_weighPulls_109, xX4_weighPulls_110, xX4_weighPulls_111, xX4_weighPulls_112, xX4_weighPulls_115, xX4_weighPulls_116, xX4_weighPulls_118, xX4_weighPulls_119, xX4_weighPulls_120, xX4_weighPulls_121, xX4_weighPulls_122, xX4_weighPulls_123, xX4_weighPulls_124, xX4_weighPulls_125, xX4_weighPulls_126, xX4_weighPulls_129, xX4_weighPulls_132, xX4_weighPulls_135, xX4_weighPulls_138, mo_k0 hm, mo_f0_11 hm, mo_k7 hm, mo_n7 hm, mo_f0_14 hm, mo_k10 hm, mo_n10 hm, mo_f0_15 hm, mo_k11 hm, mo_n11 hm, mo_f0_16 hm, mo_k12 hm, mo_n12 hm, ↓reduceIte, gd_t, hK_p, hN_p, hF_p, hI_p, hJ_p, hR_p, stI_p, stJ_p, stR_p, stA_p, va_rf_s, va_rf_n, clr_i, clr_l, clr_r, clr_n, clr_o, w8_0, w8_1i, w8_1r, w8_2ii, w8_2ri, w8_2ir, w8_2rr, w8_3, beq_self_eq_true, Bool.and_self, Bool.and_true, Bool.true_and, decide_true, Option.toList_some, Option.toList_none, List.cons_append, List.nil_append, Option.bind_some, if_true, if_false, Nat.reduceLeDiff, Nat.reduceLT, Nat.reduceBEq, Bool.or_false, Bool.false_or, Bool.or_true, Bool.true_or, nI_leI, nI_ltI, nI_eq, nI_clamp, inb_n, up_s, up_n, bx_uu, if_pos, if_neg, nI_1, ix6, nI_0n, pk_us, pk_un, ge_0n, hn, h, not_false_eq_true]
    · intro r g
      refine ⟨g, ?_⟩
      rw [xX4_weighPulls_25]
      simp (disch := omega) only [xX4_weighPulls_0, xX4_weighPulls_1, xX4_weighPulls_3, xX4_weighPulls_4, xX4_weighPulls_7, xX4_weighPulls_10, xX4_weighPulls_11, xX4_weighPulls_14, xX4_weighPulls_15, xX4_weighPulls_16, xX4_weighPulls_17, xX4_weighPulls_20, xX4_weighPulls_23, xX4_weighPulls_24, xX4_weighPulls_26, xX4_weighPulls_27, xX4_weighPulls_30, xX4_weighPulls_33, xX4_weighPulls_34, xX4_weighPulls_37, xX4_weighPulls_38, xX4_weighPulls_39, xX4_weighPulls_40, xX4_weighPulls_43, xX4_weighPulls_44, xX4_weighPulls_45, xX4_weighPulls_46, xX4_weighPulls_48, xX4_weighPulls_49, xX4_weighPulls_52, xX4_weighPulls_55, xX4_weighPulls_56, xX4_weighPulls_59, xX4_weighPulls_60, xX4_weighPulls_61, xX4_weighPulls_62, xX4_weighPulls_65, xX4_weighPulls_66, xX4_weighPulls_69, xX4_weighPulls_70, xX4_weighPulls_71, xX4_weighPulls_72, xX4_weighPulls_75, xX4_weighPulls_76, xX4_weighPulls_77, xX4_weighPulls_78, xX4_weighPulls_81, xX4_weighPulls_82, xX4_weighPulls_83, xX4_weighPulls_86, xX4_weighPulls_87, xX4_weighPulls_88, xX4_weighPulls_89, xX4_weighPulls_90, xX4_weighPulls_93, xX4_weighPulls_94, xX4_weighPulls_96, xX4_weighPulls_97, xX4_weighPulls_98, xX4_weighPulls_99, xX4_weighPulls_100, xX4_weighPulls_101, xX4_weighPulls_102, xX4_weighPulls_103, xX4_weighPulls_104, xX4_weighPulls_105, xX4_weighPulls_108, xX4_weighPulls_109, xX4_weighPulls_110, xX4_weighPulls_111, xX4_weighPulls_112, xX4_weighPulls_115, xX4_weighPulls_116, xX4_weighPulls_118, xX4_weighPulls_119, xX4_weighPulls_120, xX4_weighPulls_121, xX4_weighPulls_122, xX4_weighPulls_123, xX4_weighPulls_124, xX4_weighPulls_125, xX4_weighPulls_126, xX4_weighPulls_129, xX4_weighPulls_132, xX4_weighPulls_135, mo_k0 hm, mo_f0_11 hm, mo_k7 hm, mo_n7 hm, mo_f0_14 hm, mo_k10 hm, mo_n10 hm, mo_f0_15 hm, mo_k11 hm, mo_n11 hm, mo_f0_16 hm, mo_k12 hm, mo_n12 hm, ↓reduceIte, gd_t, hK_p, hN_p, hF_p, hI_p, hJ_p, hR_p, stI_p, stJ_p, stR_p, stA_p, va_rf_s, va_rf_n, clr_i, clr_l, clr_r, clr_n, clr_o, w8_0, w8_1i, w8_1r, w8_2ii, w8_2ri, w8_2ir, w8_2rr, w8_3, beq_self_eq_true, Bool.and_self, Bool.and_true, Bool.true_and, decide_true, Option.toList_some, Option.toList_none, List.cons_append, List.nil_append, Option.bind_some, if_true, if_false, Nat.reduceLeDiff, Nat.reduceLT, Nat.reduceBEq, Bool.or_false, Bool.false_or, Bool.or_true, Bool.true_or, nI_leI, nI_ltI, nI_eq, nI_clamp, inb_n, up_s, up_n, bx_uu, if_pos, if_neg, nI_1, ix6, nI_0n, pk_us, pk_un, ge_0n, hn]
  obtain ⟨q, hq⟩ := hgo n 0 (itf (fun i r => upd r i 0) n 0 (I (m + 12))) (none, none) (by omega)
  have h2 := h1 (I (m + 12))
  rw [up_self] at h2
  rw [eX4_weighPulls]
  simp only [xX4_weighPulls_0, xX4_weighPulls_1, clr_r]
  rw [← nI_0, h2]
  simp only [xX4_weighPulls_23, xX4_weighPulls_24, clr_r]
  rw [← nI_0]
  refine Eq.trans hq ?_
  simp only [xX4_weighPulls_138]
  rfl
/-- what k pulls at c -/
def tugF (sa ph bo : Nat → Int32) (c k : Nat) : Int32 := if k = c then 0 else if sa c = 1 then (if sa k = 1 then bo (c * 6 + k) * leaF (ph k - ph c) else 0) else 0
theorem lea_neg : ∀ k, k < 1000 → leaF (-(nI k)) = -(leaF (nI k)) := by decide +kernel
theorem lea_anti {x y : Int32} (hx : ∃ p, p < 1000 ∧ x = nI p) (hy : ∃ p, p < 1000 ∧ y = nI p) : leaF (x - y) = -(leaF (y - x)) := by
  obtain ⟨p, hp, rfl⟩ := hx
  obtain ⟨q, hq, rfl⟩ := hy
  rcases Nat.le_total p q with h | h
  · rw [pk_sub h, show nI p - nI q = -(nI (q - p)) by rw [← pk_sub h, Int32.neg_sub]]
    exact lea_neg _ (by omega)
  · rw [pk_sub h, show nI q - nI p = -(nI (p - q)) by rw [← pk_sub h, Int32.neg_sub], lea_neg _ (by omega), Int32.neg_neg]
theorem tug_self {sa ph bo : Nat → Int32} {c : Nat} : tugF sa ph bo c c = 0 := by simp [tugF]
theorem smI_add0 {f : Nat → Int32} {n : Nat} (h : f n = 0) : smI f (n + 1) = smI f n := by
  show smI f n + f n = smI f n
  rw [h, Int32.add_zero]
theorem wei_in {n i : Nat} {sa ph bo r : Nat → Int32} (hph : ∀ c, c < n → ∃ p, p < 1000 ∧ ph c = nI p) (hi : i < n) (hsi : sa i = 1) {j : Nat} {s : Nat → Int32} (hij : i < j) (hj : j < n)
    (hq : ∀ c, s c = if c < n then smI (tugF sa ph bo c) (if c < i then n else if c = i then j else if c < j then i + 1 else i) else r c) :
    ∀ c, paiF sa ph bo i j s c = if c < n then smI (tugF sa ph bo c) (if c < i then n else if c = i then j + 1 else if c < j + 1 then i + 1 else i) else r c := by
  have hsj : s j = smI (tugF sa ph bo j) i := by rw [hq j, if_pos hj, if_neg (by omega), if_neg (by omega), if_neg (by omega)]
  have hsi2 : s i = smI (tugF sa ph bo i) j := by rw [hq i, if_pos hi, if_neg (by omega), if_pos rfl]
  have ho : ∀ c, c ≠ i → c ≠ j → s c = if c < n then smI (tugF sa ph bo c) (if c < i then n else if c = i then j + 1 else if c < j + 1 then i + 1 else i) else r c := by
    intro c h1 h2
    rw [hq c, if_neg h1, if_neg h1]
    by_cases h3 : c < j
    · rw [if_pos h3, if_pos (show c < j + 1 by omega)]
    · rw [if_neg h3, if_neg (show ¬ c < j + 1 by omega)]
  have hti : ∀ c, c = i → (if c < n then smI (tugF sa ph bo c) (if c < i then n else if c = i then j + 1 else if c < j + 1 then i + 1 else i) else r c) = smI (tugF sa ph bo i) (j + 1) := by
    rintro c rfl
    rw [if_pos hi, if_neg (by omega), if_pos rfl]
  have htj : ∀ c, c = j → (if c < n then smI (tugF sa ph bo c) (if c < i then n else if c = i then j + 1 else if c < j + 1 then i + 1 else i) else r c) = smI (tugF sa ph bo j) (i + 1) := by
    rintro c rfl
    rw [if_pos hj, if_neg (by omega), if_neg (by omega), if_pos (by omega)]
  intro c
  unfold paiF
  by_cases hs : sa j = 1
  · rw [if_pos hs]
    by_cases h2 : c = j
    · rw [htj c h2, h2, pk_us, pk_un (by omega), hsj]
      show _ = smI (tugF sa ph bo j) i + tugF sa ph bo j i
      rw [show tugF sa ph bo j i = bo (j * 6 + i) * leaF (ph i - ph j) by simp [tugF, hs, hsi, show ¬ i = j by omega], lea_anti (hph i hi) (hph j hj), Int32.mul_neg, Int32.sub_eq_add_neg]
    · rw [pk_un h2]
      by_cases h1 : c = i
      · rw [hti c h1, h1, pk_us, hsi2]
        show _ = smI (tugF sa ph bo i) j + tugF sa ph bo i j
        rw [show tugF sa ph bo i j = bo (i * 6 + j) * leaF (ph j - ph i) by simp [tugF, hs, hsi, show ¬ j = i by omega]]
      · rw [pk_un h1, ho c h1 h2]
  · rw [if_neg hs]
    by_cases h2 : c = j
    · rw [htj c h2, h2, hsj, smI_add0 (by simp [tugF, hs])]
    · by_cases h1 : c = i
      · rw [hti c h1, h1, hsi2, smI_add0 (by simp [tugF, hs])]
      · rw [ho c h1 h2]
theorem wei_at {n : Nat} {sa ph bo r : Nat → Int32} (hph : ∀ c, c < n → ∃ p, p < 1000 ∧ ph c = nI p) : ∀ c, weiF n sa ph bo r c = if c < n then smI (tugF sa ph bo c) n else r c := by
  have h0 : ∀ c, itf (fun i r => upd r i 0) n 0 r c = if c < n then 0 else r c := by
    intro c
    rw [itf_fill (v := fun _ => 0)]
  have h := itf_inv (f := fun i r => if sa i = 1 then itf (paiF sa ph bo i) (n - (i + 1)) (i + 1) r else r) (n := n) (Q := fun i s => ∀ c, s c = if c < n then smI (tugF sa ph bo c) (if c < i then n else i) else r c) (by
    intro i s hi hs c
    by_cases hsi : sa i = 1
    · rw [if_pos hsi]
      have h := itf_inv (f := paiF sa ph bo i) (n := n) (Q := fun j s => i < j ∧ ∀ c, s c = if c < n then smI (tugF sa ph bo c) (if c < i then n else if c = i then j else if c < j then i + 1 else i) else r c) (fun j s hj hq => ⟨by omega, wei_in hph hi hsi hq.1 hj hq.2⟩) (n - (i + 1)) (i + 1) s (by omega) ⟨by omega, by
        intro c
        rw [hs c]
        by_cases h1 : c < i
        · rw [if_pos h1, if_pos h1]
        · rw [if_neg h1, if_neg h1]
          by_cases h2 : c = i
          · rw [if_pos h2, h2, smI_add0 tug_self]
          · rw [if_neg h2, if_neg (show ¬ c < i + 1 by omega)]⟩
      rw [h.2 c]
      by_cases hc : c < n
      · by_cases h1 : c < i
        · simp only [hc, h1, show c < i + 1 from by omega, if_true]
        · by_cases h2 : c = i
          · simp only [hc, h1, h2, show i < i + 1 from by omega, if_true, if_false, hi, show ¬ i < i from by omega]
          · simp only [hc, h1, h2, show ¬ c < i + 1 from by omega, if_true, if_false]
      · rw [if_neg hc, if_neg hc]
    · rw [if_neg hsi, hs c]
      by_cases hc : c < n
      · rw [if_pos hc, if_pos hc]
        by_cases h1 : c < i
        · rw [if_pos h1, if_pos (show c < i + 1 by omega)]
        · rw [if_neg h1]
          by_cases h2 : c = i
          · subst h2
            rw [if_pos (show c < c + 1 by omega), smI_zero (fun k _ => by simp [tugF, hsi]), smI_zero (fun k _ => by simp [tugF, hsi])]
          · rw [if_neg (show ¬ c < i + 1 by omega), smI_add0 (by simp [tugF, hsi])]
      · rw [if_neg hc, if_neg hc]) n 0 (itf (fun i r => upd r i 0) n 0 r) (by omega) (by
    intro c
    rw [h0 c, if_neg (show ¬ c < 0 by omega)]
    rfl)
  intro c
  have := h c
  unfold weiF
  rw [this]
  by_cases hc : c < n
  · rw [if_pos hc, if_pos hc, if_pos hc]
  · rw [if_neg hc, if_neg hc]

-- PAIRS, 10: undo, keep, back
theorem undo_p {I : Mem} {J : MemL} {R : MemR} {t t' n nb nm fL lL fG lG st : Nat} (h : cAll I R t t' n nb nm fL lL fG lG st) : chgP MX11_undo MX12_undo [] I J R t t' n nb nm fL lL fG lG := by
  have hn6 := h.n6
  have ht := te_hi h.te
  have n1 : ¬ (1 : Int32) = 0 := by decide
  obtain ⟨hs, s1, s2, s3, s4⟩ := h.hnd
  by_cases h0 : hs = 0
  · subst h0
    have c0 : ¬ (0 : Int32) < nI 0 := by decide
    have e0 : nI 0 = 0 := rfl
    have ht0 : C 10 MX0_takeBack [.ref 105, .ref 60] (hp I J R) = some (some (.int 0), hp I J R) := by
      have c1 : (0 : Int32) ≤ 0 := by decide
      have c2 : ¬ (0 : Int32) < 0 := by decide
      rw [eX0_takeBack]
      simp (disch := omega) only [xX0_takeBack_0, xX0_takeBack_1, xX0_takeBack_4, xX0_takeBack_7, xX0_takeBack_8, xX0_takeBack_9, xX0_takeBack_10, xX0_takeBack_10I, xX0_takeBack_11, xX0_takeBack_14, xX0_takeBack_15, xX0_takeBack_16, xX0_takeBack_19, xX0_takeBack_20, xX0_takeBack_23, xX0_takeBack_24, xX0_takeBack_25, xX0_takeBack_26, xX0_takeBack_27, xX0_takeBack_30, xX0_takeBack_31, xX0_takeBack_32, xX0_takeBack_33, xX0_takeBack_34, xX0_takeBack_37, xX0_takeBack_38, xX0_takeBack_40, xX0_takeBack_43, xX0_takeBack_44, xX0_takeBack_47, xX0_takeBack_48, xX0_takeBack_49, xX0_takeBack_52, xX0_takeBack_53, xX0_takeBack_54, xX0_takeBack_55, xX0_takeBack_56, xX0_takeBack_57, xX0_takeBack_58, xX0_takeBack_61, xX0_takeBack_62, xX0_takeBack_63, xX0_takeBack_66, xX0_takeBack_67, xX0_takeBack_68, xX0_takeBack_69, xX0_takeBack_70, xX0_takeBack_71, xX0_takeBack_72, xX0_takeBack_75, xX0_takeBack_76, xX0_takeBack_77, xX0_takeBack_80, xX0_takeBack_81, xX0_takeBack_82, xX0_takeBack_83, xX0_takeBack_84, xX0_takeBack_85, xX0_takeBack_86, xX0_takeBack_89, xX0_takeBack_90, xX0_takeBack_91, xX0_takeBack_94, xX0_takeBack_95, xX0_takeBack_96, xX0_takeBack_97, xX0_takeBack_98, xX0_takeBack_99, xX0_takeBack_100, kd_105, fi_105_0, kd_106, ln_106, kd_60, fi_60_6, kd_62, ln_62, fi_60_7, kd_63, ln_63, fi_60_12, kd_68, ln_68, fi_60_14, kd_70, ln_70, ↓reduceIte, gd_t, hK_p, hN_p, hF_p, hI_p, hJ_p, hR_p, stI_p, stJ_p, stR_p, stA_p, va_rf_s, va_rf_n, clr_i, clr_l, clr_r, clr_n, clr_o, w8_0, w8_1i, w8_1r, w8_2ii, w8_2ri, w8_2ir, w8_2rr, w8_3, beq_self_eq_true, Bool.and_self, Bool.and_true, Bool.true_and, decide_true, Option.toList_some, Option.toList_none, List.cons_append, List.nil_append, Option.bind_some, if_true, if_false, Nat.reduceLeDiff, Nat.reduceLT, Nat.reduceBEq, Bool.or_false, Bool.false_or, Bool.or_true, Bool.true_or, s1, e0, c1, c2, z01]
    refine askP.chg h (askP.mk0 (v := -1) (w := -1) ?_ ?_ rfl)
    · rw [eX11_undo]
      simp (disch := omega) only [xX11_undo_0, xX11_undo_1, xX11_undo_4, xX11_undo_5, xX11_undo_8, xX11_undo_11, xX11_undo_14, xX11_undo_15, xX11_undo_16, xX11_undo_17, xX11_undo_20, xX11_undo_23, xX11_undo_24, xX11_undo_27, xX11_undo_28, xX11_undo_31, xX11_undo_34, kd_0, fi_0_5, kd_60, fi_0_10, kd_105, kd_105, kd_60, ↓reduceIte, gd_t, hK_p, hN_p, hF_p, hI_p, hJ_p, hR_p, stI_p, stJ_p, stR_p, stA_p, va_rf_s, va_rf_n, clr_i, clr_l, clr_r, clr_n, clr_o, w8_0, w8_1i, w8_1r, w8_2ii, w8_2ri, w8_2ir, w8_2rr, w8_3, beq_self_eq_true, Bool.and_self, Bool.and_true, Bool.true_and, decide_true, Option.toList_some, Option.toList_none, List.cons_append, List.nil_append, Option.bind_some, if_true, if_false, Nat.reduceLeDiff, Nat.reduceLT, Nat.reduceBEq, Bool.or_false, Bool.false_or, Bool.or_true, Bool.true_or, ht0, not_true_eq_false]
    · rw [eX12_undo]
      simp (disch := omega) only [xX12_undo_0, xX12_undo_1, xX12_undo_2, xX12_undo_5, xX12_undo_6, xX12_undo_9, xX12_undo_12, xX12_undo_13, xX12_undo_14, xX12_undo_15, xX12_undo_15I, xX12_undo_16, xX12_undo_19, xX12_undo_20, xX12_undo_21, xX12_undo_24, xX12_undo_25, xX12_undo_28, xX12_undo_29, xX12_undo_30, xX12_undo_33, xX12_undo_34, xX12_undo_35, xX12_undo_36, xX12_undo_37, xX12_undo_40, xX12_undo_41, xX12_undo_42, xX12_undo_45, xX12_undo_46, xX12_undo_47, xX12_undo_50, xX12_undo_51, xX12_undo_52, xX12_undo_53, xX12_undo_54, xX12_undo_55, xX12_undo_56, xX12_undo_59, xX12_undo_60, xX12_undo_61, xX12_undo_64, xX12_undo_65, xX12_undo_66, xX12_undo_69, xX12_undo_70, xX12_undo_71, xX12_undo_72, xX12_undo_73, xX12_undo_74, xX12_undo_75, xX12_undo_78, xX12_undo_79, xX12_undo_80, xX12_undo_83, xX12_undo_84, xX12_undo_85, xX12_undo_88, xX12_undo_89, xX12_undo_90, xX12_undo_91, xX12_undo_92, xX12_undo_93, xX12_undo_94, xX12_undo_97, xX12_undo_98, xX12_undo_99, xX12_undo_102, xX12_undo_103, xX12_undo_104, xX12_undo_107, xX12_undo_108, xX12_undo_109, xX12_undo_110, xX12_undo_111, xX12_undo_112, xX12_undo_113, xX12_undo_116, kd_123, fi_123_55, kd_151, ln_151, fi_123_56, kd_152, ln_152, fi_123_58, kd_154, ln_154, fi_123_60, kd_156, ln_156, fi_123_74, kd_162, ln_162, ↓reduceIte, gd_t, hK_p, hN_p, hF_p, hI_p, hJ_p, hR_p, stI_p, stJ_p, stR_p, stA_p, va_rf_s, va_rf_n, clr_i, clr_l, clr_r, clr_n, clr_o, w8_0, w8_1i, w8_1r, w8_2ii, w8_2ri, w8_2ir, w8_2rr, w8_3, beq_self_eq_true, Bool.and_self, Bool.and_true, Bool.true_and, decide_true, Option.toList_some, Option.toList_none, List.cons_append, List.nil_append, Option.bind_some, if_true, if_false, Nat.reduceLeDiff, Nat.reduceLT, Nat.reduceBEq, Bool.or_false, Bool.false_or, Bool.or_true, Bool.true_or, nI_leI, nI_ltI, nI_eq, nI_clamp, inb_n, up_s, up_n, bx_uu, nI_1, ix6, nI_0n, pk_us, pk_un, ge_0n, s2, e0, not_true_eq_false]
  · obtain ⟨e, rfl⟩ : ∃ e, hs = e + 1 := ⟨hs - 1, by omega⟩
    obtain ⟨⟨c, hc, ec⟩, ⟨b, hb, eb⟩, ⟨p, -, hp', ep⟩, a4⟩ := s4 e (by omega)
    have q0 := a4 0 (by omega)
    have q1 := a4 1 (by omega)
    have q2 := a4 2 (by omega)
    have q3 := a4 3 (by omega)
    have q4 := a4 4 (by omega)
    rw [Nat.add_zero] at q0
    obtain ⟨c1, c2, c3, c4, c5, c6, c7, c8, ⟨c9, c9'⟩, c10, c11, c12⟩ := h.now
    generalize hI1 : va_up (va_up (va_up (va_up (va_up I 105 (upd (I 105) 1 (nI e))) 62 (upd (I 62) c (I 106 (5 * e + 1)))) 63 (upd (I 63) c (I 106 (5 * e + 2)))) 68 (upd (I 68) c (I 106 (5 * e + 3)))) 70 (upd (I 70) c (I 106 (5 * e + 4))) = K1
    have htb : C 10 MX0_takeBack [.ref 105, .ref 60] (hp I J R) = some (some (.int 1), hp K1 J R) := by
      have d0 : (0 : Int32) < nI (e + 1) := by rw [← nI_0]; exact nI_lt (by omega) (by omega)
      have d1 : ¬ nI (e + 1) ≤ (0 : Int32) := Int32.not_le.mpr d0
      have d2 : ¬ (6 : Int32) ≤ nI c := nI_ge (b := 6) (by omega) (by omega)
      rw [eX0_takeBack]
      simp (disch := omega) only [xX0_takeBack_0, xX0_takeBack_1, xX0_takeBack_4, xX0_takeBack_7, xX0_takeBack_8, xX0_takeBack_9, xX0_takeBack_10, xX0_takeBack_10I, xX0_takeBack_11, xX0_takeBack_14, xX0_takeBack_15, xX0_takeBack_16, xX0_takeBack_19, xX0_takeBack_20, xX0_takeBack_23, xX0_takeBack_24, xX0_takeBack_25, xX0_takeBack_26, xX0_takeBack_27, xX0_takeBack_30, xX0_takeBack_31, xX0_takeBack_32, xX0_takeBack_33, xX0_takeBack_34, xX0_takeBack_37, xX0_takeBack_38, xX0_takeBack_40, xX0_takeBack_43, xX0_takeBack_44, xX0_takeBack_47, xX0_takeBack_48, xX0_takeBack_49, xX0_takeBack_52, xX0_takeBack_53, xX0_takeBack_54, xX0_takeBack_55, xX0_takeBack_56, xX0_takeBack_57, xX0_takeBack_58, xX0_takeBack_61, xX0_takeBack_62, xX0_takeBack_63, xX0_takeBack_66, xX0_takeBack_67, xX0_takeBack_68, xX0_takeBack_69, xX0_takeBack_70, xX0_takeBack_71, xX0_takeBack_72, xX0_takeBack_75, xX0_takeBack_76, xX0_takeBack_77, xX0_takeBack_80, xX0_takeBack_81, xX0_takeBack_82, xX0_takeBack_83, xX0_takeBack_84, xX0_takeBack_85, xX0_takeBack_86, xX0_takeBack_89, xX0_takeBack_90, xX0_takeBack_91, xX0_takeBack_94, xX0_takeBack_95, xX0_takeBack_96, xX0_takeBack_97, xX0_takeBack_98, xX0_takeBack_99, xX0_takeBack_100, kd_105, fi_105_0, kd_106, ln_106, kd_60, fi_60_6, kd_62, ln_62, fi_60_7, kd_63, ln_63, fi_60_12, kd_68, ln_68, fi_60_14, kd_70, ln_70, ↓reduceIte, gd_t, hK_p, hN_p, hF_p, hI_p, hJ_p, hR_p, stI_p, stJ_p, stR_p, stA_p, va_rf_s, va_rf_n, clr_i, clr_l, clr_r, clr_n, clr_o, w8_0, w8_1i, w8_1r, w8_2ii, w8_2ri, w8_2ir, w8_2rr, w8_3, beq_self_eq_true, Bool.and_self, Bool.and_true, Bool.true_and, decide_true, Option.toList_some, Option.toList_none, List.cons_append, List.nil_append, Option.bind_some, if_true, if_false, Nat.reduceLeDiff, Nat.reduceLT, Nat.reduceBEq, Bool.or_false, Bool.false_or, Bool.or_true, Bool.true_or, nI_leI, nI_ltI, nI_eq, nI_clamp, inb_n, up_s, up_n, bx_uu, nI_1, ix6, nI_0n, pk_us, pk_un, ge_0n, s1, d0, d1, nI_p1, k5r, ec, d2, p2, p3, p4, z11]
      rw [hI1]
    have k62 : K1 62 = upd (I 62) c (I 106 (5 * e + 1)) := by rw [← hI1]; simp (disch := omega) only [up_n, up_s]
    have k63 : K1 63 = upd (I 63) c (I 106 (5 * e + 2)) := by rw [← hI1]; simp (disch := omega) only [up_n, up_s]
    have k68 : K1 68 = upd (I 68) c (I 106 (5 * e + 3)) := by rw [← hI1]; simp (disch := omega) only [up_n, up_s]
    have k70 : K1 70 = upd (I 70) c (I 106 (5 * e + 4)) := by rw [← hI1]; simp (disch := omega) only [up_s]
    have k105 : K1 105 = upd (I 105) 1 (nI e) := by rw [← hI1]; simp (disch := omega) only [up_n, up_s]
    have ko : ∀ a, a ≠ 62 → a ≠ 63 → a ≠ 68 → a ≠ 70 → a ≠ 105 → K1 a = I a := fun a h1 h2 h3 h4 h5 => by rw [← hI1]; simp (disch := omega) only [up_n]
    have hmes := mes_spec (d := 7) (m := 60) (n := n) (I := K1) (J := J) (R := R) (Or.inl rfl) h.te c1 (by rw [ko _ (by decide) (by decide) (by decide) (by decide) (by decide)]; exact c2) hn6
    simp only [Nat.reduceAdd] at hmes
    generalize hI2 : va_up K1 71 (mesF n (bonF (K1 64) (K1 (t + 3)) (K1 61) (K1 63) (K1 62) (K1 60 3)) (K1 71)) = K2 at hmes
    have l71 : K2 71 = mesF n (bonF (I 64) (I (t + 3)) (I 61) (K1 63) (K1 62) (I 60 3)) (K1 71) := by
      rw [← hI2, up_s, ko 64 (by decide) (by decide) (by decide) (by decide) (by decide), ko (t + 3) (by omega) (by omega) (by omega) (by omega) (by omega), ko 61 (by decide) (by decide) (by decide) (by decide) (by decide), ko 60 (by decide) (by decide) (by decide) (by decide) (by decide)]
    have lo : ∀ a, a ≠ 71 → K2 a = K1 a := fun a h1 => by rw [← hI2, up_n h1]
    have fo : ∀ a, a ≠ 112 → a ≠ 117 → ffM K2 a = K2 a := fun a h1 h2 => by unfold ffM; simp (disch := omega) only [up_n]
    generalize hI3 : va_up (va_up (va_up (va_up (va_up (ffM K2) 123 (upd (upd (I 123) 2 0) 73 (nI e))) 151 (upd (I 151) c (I 162 (5 * e + 1)))) 152 (upd (I 152) c (I 162 (5 * e + 2)))) 154 (upd (I 154) c (I 162 (5 * e + 3)))) 156 (upd (I 156) c (I 162 (5 * e + 4))) = K3
    have o : ∀ a, a ≠ 62 → a ≠ 63 → a ≠ 68 → a ≠ 70 → a ≠ 71 → a ≠ 105 → a ≠ 112 → a ≠ 117 → a ≠ 123 → a ≠ 151 → a ≠ 152 → a ≠ 154 → a ≠ 156 → K3 a = I a := by
      intro a h1 h2 h3 h4 h5 h6 h7 h8 h9 h10 h11 h12 h13
      rw [← hI3]
      simp (disch := omega) only [up_n, fo, lo, ko]
    have f : ∀ k, k ≠ 2 → k ≠ 73 → K3 123 k = I 123 k := by
      intro k h1 h2
      rw [← hI3]
      simp (disch := omega) only [up_n, up_s, pk_un]
    have m62 : K3 62 = upd (I 62) c (I 106 (5 * e + 1)) := by rw [← hI3]; simp (disch := omega) only [up_n, fo, lo, k62]
    have m63 : K3 63 = upd (I 63) c (I 106 (5 * e + 2)) := by rw [← hI3]; simp (disch := omega) only [up_n, fo, lo, k63]
    have m68 : K3 68 = upd (I 68) c (I 106 (5 * e + 3)) := by rw [← hI3]; simp (disch := omega) only [up_n, fo, lo, k68]
    have m70 : K3 70 = upd (I 70) c (I 106 (5 * e + 4)) := by rw [← hI3]; simp (disch := omega) only [up_n, fo, lo, k70]
    have m71 : K3 71 = mesF n (bonF (I 64) (I (t + 3)) (I 61) (K1 63) (K1 62) (I 60 3)) (K1 71) := by rw [← hI3]; simp (disch := omega) only [up_n, fo, l71]
    have m105 : K3 105 = upd (I 105) 1 (nI e) := by rw [← hI3]; simp (disch := omega) only [up_n, fo, lo, k105]
    have m151 : K3 151 = upd (I 151) c (I 162 (5 * e + 1)) := by rw [← hI3]; simp (disch := omega) only [up_n, up_s]
    have m152 : K3 152 = upd (I 152) c (I 162 (5 * e + 2)) := by rw [← hI3]; simp (disch := omega) only [up_n, up_s]
    have m154 : K3 154 = upd (I 154) c (I 162 (5 * e + 3)) := by rw [← hI3]; simp (disch := omega) only [up_n, up_s]
    have m156 : K3 156 = upd (I 156) c (I 162 (5 * e + 4)) := by rw [← hI3]; simp (disch := omega) only [up_s]
    have m73 : K3 123 73 = nI e := by rw [← hI3]; simp (disch := omega) only [up_n, up_s, pk_us]
    refine ⟨nI e, ffM K2, J, R, K3, J, st, ?_, ?_, ?_, ?_⟩
    · have g5 : ffM K2 105 1 = nI e := by rw [fo _ (by decide) (by decide), lo _ (by decide), k105, pk_us]
      rw [eX11_undo]
      simp (disch := omega) only [xX11_undo_0, xX11_undo_1, xX11_undo_4, xX11_undo_5, xX11_undo_8, xX11_undo_11, xX11_undo_14, xX11_undo_15, xX11_undo_16, xX11_undo_17, xX11_undo_20, xX11_undo_23, xX11_undo_24, xX11_undo_27, xX11_undo_28, xX11_undo_31, xX11_undo_34, kd_0, fi_0_5, kd_60, fi_0_10, kd_105, kd_0, kd_105, kd_60, ↓reduceIte, gd_t, hK_p, hN_p, hF_p, hI_p, hJ_p, hR_p, stI_p, stJ_p, stR_p, stA_p, va_rf_s, va_rf_n, clr_i, clr_l, clr_r, clr_n, clr_o, w8_0, w8_1i, w8_1r, w8_2ii, w8_2ri, w8_2ir, w8_2rr, w8_3, beq_self_eq_true, Bool.and_self, Bool.and_true, Bool.true_and, decide_true, Option.toList_some, Option.toList_none, List.cons_append, List.nil_append, Option.bind_some, if_true, if_false, Nat.reduceLeDiff, Nat.reduceLT, Nat.reduceBEq, Bool.or_false, Bool.false_or, Bool.or_true, Bool.true_or, nI_leI, nI_ltI, nI_eq, nI_clamp, inb_n, up_s, up_n, bx_uu, nI_1, ix6, nI_0n, pk_us, pk_un, ge_0n, htb, n1, hmes, ff_c, g5, not_false_eq_true]
    · have d1 : ¬ nI (e + 1) = 0 := fun q => absurd ((nI_eq (b := 0) (by omega) (by omega)).mp q) (by omega)
      have ec2 : I 162 (5 * e) = nI c := by rw [← q0]; exact ec
      rw [eX12_undo]
      simp (disch := omega) only [xX12_undo_0, xX12_undo_1, xX12_undo_2, xX12_undo_5, xX12_undo_6, xX12_undo_9, xX12_undo_12, xX12_undo_13, xX12_undo_14, xX12_undo_15, xX12_undo_15I, xX12_undo_16, xX12_undo_19, xX12_undo_20, xX12_undo_21, xX12_undo_24, xX12_undo_25, xX12_undo_28, xX12_undo_29, xX12_undo_30, xX12_undo_33, xX12_undo_34, xX12_undo_35, xX12_undo_36, xX12_undo_37, xX12_undo_40, xX12_undo_41, xX12_undo_42, xX12_undo_45, xX12_undo_46, xX12_undo_47, xX12_undo_50, xX12_undo_51, xX12_undo_52, xX12_undo_53, xX12_undo_54, xX12_undo_55, xX12_undo_56, xX12_undo_59, xX12_undo_60, xX12_undo_61, xX12_undo_64, xX12_undo_65, xX12_undo_66, xX12_undo_69, xX12_undo_70, xX12_undo_71, xX12_undo_72, xX12_undo_73, xX12_undo_74, xX12_undo_75, xX12_undo_78, xX12_undo_79, xX12_undo_80, xX12_undo_83, xX12_undo_84, xX12_undo_85, xX12_undo_88, xX12_undo_89, xX12_undo_90, xX12_undo_91, xX12_undo_92, xX12_undo_93, xX12_undo_94, xX12_undo_97, xX12_undo_98, xX12_undo_99, xX12_undo_102, xX12_undo_103, xX12_undo_104, xX12_undo_107, xX12_undo_108, xX12_undo_109, xX12_undo_110, xX12_undo_111, xX12_undo_112, xX12_undo_113, xX12_undo_116, kd_123, fi_123_55, kd_151, ln_151, fi_123_56, kd_152, ln_152, fi_123_58, kd_154, ln_154, fi_123_60, kd_156, ln_156, fi_123_74, kd_162, ln_162, ↓reduceIte, gd_t, hK_p, hN_p, hF_p, hI_p, hJ_p, hR_p, stI_p, stJ_p, stR_p, stA_p, va_rf_s, va_rf_n, clr_i, clr_l, clr_r, clr_n, clr_o, w8_0, w8_1i, w8_1r, w8_2ii, w8_2ri, w8_2ir, w8_2rr, w8_3, beq_self_eq_true, Bool.and_self, Bool.and_true, Bool.true_and, decide_true, Option.toList_some, Option.toList_none, List.cons_append, List.nil_append, Option.bind_some, if_true, if_false, Nat.reduceLeDiff, Nat.reduceLT, Nat.reduceBEq, Bool.or_false, Bool.false_or, Bool.or_true, Bool.true_or, nI_leI, nI_ltI, nI_eq, nI_clamp, inb_n, up_s, up_n, bx_uu, nI_1, ix6, nI_0n, pk_us, pk_un, ge_0n, fo, lo, ko, s2, d1, nI_p1, k5l, ec2, p2, p3, p4, not_false_eq_true]
      rw [hI3]
    · refine cAll_fr h (fun a q => o a (by omega) (by omega) (by omega) (by omega) (by omega) (by omega) (by omega) (by omega) (by omega) (by omega) (by omega) (by omega) (by omega)) (fun k q => f k (by omega) (by omega)) ?_ ?_ (cHea_fr h.hea (fun a h1 h2 => o a (by omega) (by omega) (by omega) (by omega) (by omega) (by omega) (by omega) (by omega) (by omega) (by omega) (by omega) (by omega) (by omega)) (o _ (by omega) (by omega) (by omega) (by omega) (by omega) (by omega) (by omega) (by omega) (by omega) (by omega) (by omega) (by omega) (by omega)) (f _ (by omega) (by omega)) (f _ (by omega) (by omega))) rfl rfl
      · refine cNow_re (z := K1 71) h.now hn6 (fun a h1 h2 => o a (by omega) (by omega) (by omega) (by omega) (by omega) (by omega) (by omega) (by omega) (by omega) (by omega) (by omega) (by omega) (by omega)) (by simp (disch := omega) only [o]) (by simp (disch := omega) only [o]) (by simp (disch := omega) only [o]) (by simp (disch := omega) only [o]) (by simp (disch := omega) only [o]) (by simp (disch := omega) only [o]) (by simp (disch := omega) only [o]) ⟨fun i hi => ?_, fun i h1 h2 => ?_⟩ (fun i hi => ?_) (by simp (disch := omega) only [o]) (by simp (disch := omega) only [o]) (f _ (by omega) (by omega)) ?_ rfl
        · rw [m62, m63, m151, m152, Nat.zero_add]
          by_cases hic : i = c
          · subst hic
            simp only [pk_us]
            exact ⟨q1, ⟨b, hb, eb⟩, q2, ⟨p, by omega, hp', ep⟩⟩
          · have := c9 i hi
            rw [Nat.zero_add] at this
            simp only [pk_un hic]
            exact this
        · rw [m62, pk_un (by omega)]
          exact c9' i h1 h2
        · rw [m68, m70, m154, m156]
          by_cases hic : i = c
          · subst hic
            simp only [pk_us]
            exact ⟨q3, q4⟩
          · simp only [pk_un hic]
            exact ⟨(c11 i hi).2.2.1, (c11 i hi).2.2.2.2⟩
        · rw [m71, m62, m63, k62, k63]
      · refine ⟨e, by rw [m105, pk_us], m73, by omega, fun k hk => ?_⟩
        simp (disch := omega) only [o]
        exact s4 k (by omega)
    · refine Or.inl ⟨?_, ?_⟩
      · rw [← hI3]
        unfold ffM
        simp (disch := omega) only [up_n, up_s, pk_us]
      · rw [← hI3]
        unfold ffM
        simp (disch := omega) only [up_n, up_s, pk_us]
-- what take leaves
section TAKE
variable {I : Mem} {m f t n : Nat}
theorem takM_o {a : Nat} (h : a < m ∨ m + 12 ≤ a) : takM I m f t n a = I a := by
  unfold takM
  simp (disch := omega) only [up_n, begM_o]
theorem takM_0 (k : Nat) (hk : k = 1 ∨ k = 2 ∨ k = 3 ∨ k = 4) : takM I m f t n m k = if k = 1 then I (t + 5) 1 else if k = 2 then I f 2 else if k = 3 then I t 12 else 0 := by
  unfold takM begM begA begO
  rcases hk with rfl | rfl | rfl | rfl <;> simp (disch := omega) only [up_n, up_s, pk_un, pk_us] <;> rfl
theorem takM_1 : takM I m f t n (m + 1) = cpF (I (t + 4)) (I (m + 1)) 3 := by
  unfold takM begM begA
  simp (disch := omega) only [up_n, up_s]
theorem takM_2 : takM I m f t n (m + 2) = cpF (I (f + 2)) (I (m + 2)) 6 := by
  unfold takM begM begA
  simp (disch := omega) only [up_n, up_s]
theorem takM_3 : takM I m f t n (m + 3) = cpF (I (f + 3)) (I (m + 3)) 6 := by
  unfold takM begM begA
  simp (disch := omega) only [up_n, up_s]
theorem takM_4 : takM I m f t n (m + 4) = cpF (I (t + 9)) (I (m + 4)) 6 := by
  unfold takM begM begA
  simp (disch := omega) only [up_n, up_s]
theorem takM_5 : takM I m f t n (m + 5) = cpF (I (t + 10)) (I (m + 5)) 6 := by
  unfold takM begM begA
  simp (disch := omega) only [up_n, up_s]
theorem takM_6 : takM I m f t n (m + 6) = cpF (I (t + 14)) (I (m + 6)) 6 := by
  unfold takM begM begA
  simp (disch := omega) only [up_n, up_s]
theorem takM_11 : takM I m f t n (m + 11) = mesF n (bonF (cpF (I (t + 9)) (I (m + 4)) 6) (I (t + 3)) (cpF (I (t + 4)) (I (m + 1)) 3) (cpF (I (f + 3)) (I (m + 3)) 6) (cpF (I (f + 2)) (I (m + 2)) 6) (I t 12)) (I (m + 11)) := by
  unfold takM begM begA
  simp (disch := omega) only [up_n, up_s]
theorem cpF_at {f g : Nat → Int32} {n k : Nat} (h : k < n) : cpF f g n k = f k := if_pos h
theorem takM_7 {k : Nat} (h : k < 6) : takM I m f t n (m + 7) k = I (f + 7) k ∧ takM I m f t n (m + 8) k = I (f + 8) k ∧ takM I m f t n (m + 9) k = I (f + 9) k ∧ takM I m f t n (m + 10) k = I (f + 10) k := by
  unfold takM
  simp (disch := omega) only [up_n, up_s, cpF_at h, and_self]
end TAKE
theorem keep_p {I : Mem} {J : MemL} {R : MemR} {t t' n nb nm fL lL fG lG st : Nat} (h : cAll I R t t' n nb nm fL lL fG lG st) : chgP MX11_keep MX12_keep [] I J R t t' n nb nm fL lL fG lG := by
  have hn6 := h.n6
  have ht := te_hi h.te
  obtain ⟨c1, c2, c3, c4, c5, c6, c7, c8, ⟨c9, c9'⟩, c10, c11, c12⟩ := h.now
  have htk := tak_spec (d := 5) (m := 74) (f := 60) (t := t) (n := n) (I := I) (J := J) (R := R) (Or.inr (Or.inl rfl)) (Or.inl rfl) (by decide) h.te c1 h.nc hn6
  generalize hR1 : va_up R 74 (va_up (R 74) 0 (some t)) = R1 at htk
  generalize hI1 : va_up (takM I 74 60 t n) 0 (upd (takM I 74 60 t n 0) 7 1) = K1
  have ko : ∀ a, a ≠ 0 → a < 74 ∨ 86 ≤ a → K1 a = I a := fun a h1 h2 => by rw [← hI1, up_n h1, takM_o h2]
  have k0 : K1 0 = upd (I 0) 7 1 := by rw [← hI1, up_s, takM_o (by omega)]
  have km : ∀ a, a ≠ 0 → K1 a = takM I 74 60 t n a := fun a h1 => by rw [← hI1, up_n h1]
  have hr0 : R1 0 = R 0 := by rw [← hR1, up_n (by decide)]
  have hr60 : R1 60 = R 60 := by rw [← hR1, up_n (by decide)]
  have hr74 : R1 74 0 = some t := by rw [← hR1, up_s, up_s]
  have hl := for_0 (P := fun i r => E (C 10) MX12_keep 20 [some (.ref 123), some (.int (nI i))] [] (hp (va_up (va_up K1 123 (upd (upd (upd (I 123) 2 0) 84 1) 85 (nI st))) 170 r) J R1)) (f := fun i r => upd (upd (upd (upd (upd (upd r (6 * i) (I 151 i)) (6 * i + 1) (I 152 i)) (6 * i + 2) (I 153 i)) (6 * i + 3) (I 154 i)) (6 * i + 4) (I 155 i)) (6 * i + 5) (I 156 i)) (fin := fun r => some (some (.int (nI st)), hp (va_up (va_up K1 123 (upd (upd (upd (I 123) 2 0) 84 1) 85 (nI st))) 170 r) J R1)) (n := n) (s := I 170) (by
    intro i r hi
    have d0 : ¬ n ≤ i := by omega
    have e6 : (6 : Int32) * nI i = nI (6 * i) := by rw [show (6 : Int32) = nI 6 from rfl, pk_mul]
    rw [xX12_keep_20]
    simp (disch := omega) only [xX12_keep_21, xX12_keep_22, xX12_keep_25, xX12_keep_28, xX12_keep_29, xX12_keep_32, xX12_keep_34, xX12_keep_35, xX12_keep_36, xX12_keep_37, xX12_keep_40, xX12_keep_41, xX12_keep_42, xX12_keep_43, xX12_keep_44, xX12_keep_47, xX12_keep_49, xX12_keep_50, xX12_keep_51, xX12_keep_52, xX12_keep_53, xX12_keep_54, xX12_keep_57, xX12_keep_58, xX12_keep_59, xX12_keep_60, xX12_keep_61, xX12_keep_64, xX12_keep_66, xX12_keep_67, xX12_keep_68, xX12_keep_69, xX12_keep_70, xX12_keep_71, xX12_keep_74, xX12_keep_75, xX12_keep_76, xX12_keep_77, xX12_keep_78, xX12_keep_81, xX12_keep_83, xX12_keep_84, xX12_keep_85, xX12_keep_86, xX12_keep_87, xX12_keep_88, xX12_keep_91, xX12_keep_92, xX12_keep_93, xX12_keep_94, xX12_keep_95, xX12_keep_98, xX12_keep_100, xX12_keep_101, xX12_keep_102, xX12_keep_103, xX12_keep_104, xX12_keep_105, xX12_keep_108, xX12_keep_109, xX12_keep_110, xX12_keep_111, xX12_keep_112, xX12_keep_115, xX12_keep_117, xX12_keep_118, xX12_keep_119, xX12_keep_120, xX12_keep_121, xX12_keep_122, xX12_keep_125, xX12_keep_126, xX12_keep_127, xX12_keep_128, xX12_keep_131, kd_123, fi_123_55, kd_151, ln_151, fi_123_56, kd_152, ln_152, fi_123_57, kd_153, ln_153, fi_123_58, kd_154, ln_154, fi_123_59, kd_155, ln_155, fi_123_60, kd_156, ln_156, fi_123_86, kd_170, ln_170, ↓reduceIte, gd_t, hK_p, hN_p, hF_p, hI_p, hJ_p, hR_p, stI_p, stJ_p, stR_p, stA_p, va_rf_s, va_rf_n, clr_i, clr_l, clr_r, clr_n, clr_o, w8_0, w8_1i, w8_1r, w8_2ii, w8_2ri, w8_2ir, w8_2rr, w8_3, beq_self_eq_true, Bool.and_self, Bool.and_true, Bool.true_and, decide_true, Option.toList_some, Option.toList_none, List.cons_append, List.nil_append, Option.bind_some, if_true, if_false, Nat.reduceLeDiff, Nat.reduceLT, Nat.reduceBEq, Bool.or_false, Bool.false_or, Bool.or_true, Bool.true_or, nI_leI, nI_ltI, nI_eq, nI_clamp, inb_n, up_s, up_n, bx_uu, nI_1, ix6, nI_0n, pk_us, pk_un, ge_0n, h.nd, d0, e6, p2, p3, p4, p5, ko]) (by
    intro r
    have d0 : n ≤ n := Nat.le_refl n
    rw [xX12_keep_20]
    simp (disch := omega) only [xX12_keep_21, xX12_keep_22, xX12_keep_25, xX12_keep_28, xX12_keep_29, xX12_keep_32, xX12_keep_34, xX12_keep_35, xX12_keep_36, xX12_keep_37, xX12_keep_40, xX12_keep_41, xX12_keep_42, xX12_keep_43, xX12_keep_44, xX12_keep_47, xX12_keep_49, xX12_keep_50, xX12_keep_51, xX12_keep_52, xX12_keep_53, xX12_keep_54, xX12_keep_57, xX12_keep_58, xX12_keep_59, xX12_keep_60, xX12_keep_61, xX12_keep_64, xX12_keep_66, xX12_keep_67, xX12_keep_68, xX12_keep_69, xX12_keep_70, xX12_keep_71, xX12_keep_74, xX12_keep_75, xX12_keep_76, xX12_keep_77, xX12_keep_78, xX12_keep_81, xX12_keep_83, xX12_keep_84, xX12_keep_85, xX12_keep_86, xX12_keep_87, xX12_keep_88, xX12_keep_91, xX12_keep_92, xX12_keep_93, xX12_keep_94, xX12_keep_95, xX12_keep_98, xX12_keep_100, xX12_keep_101, xX12_keep_102, xX12_keep_103, xX12_keep_104, xX12_keep_105, xX12_keep_108, xX12_keep_109, xX12_keep_110, xX12_keep_111, xX12_keep_112, xX12_keep_115, xX12_keep_117, xX12_keep_118, xX12_keep_119, xX12_keep_120, xX12_keep_121, xX12_keep_122, xX12_keep_125, xX12_keep_126, xX12_keep_127, xX12_keep_128, xX12_keep_131, xX12_keep_134, xX12_keep_135, xX12_keep_138, kd_123, fi_123_55, kd_151, ln_151, fi_123_56, kd_152, ln_152, fi_123_57, kd_153, ln_153, fi_123_58, kd_154, ln_154, fi_123_59, kd_155, ln_155, fi_123_60, kd_156, ln_156, fi_123_86, kd_170, ln_170, ↓reduceIte, gd_t, hK_p, hN_p, hF_p, hI_p, hJ_p, hR_p, stI_p, stJ_p, stR_p, stA_p, va_rf_s, va_rf_n, clr_i, clr_l, clr_r, clr_n, clr_o, w8_0, w8_1i, w8_1r, w8_2ii, w8_2ri, w8_2ir, w8_2rr, w8_3, beq_self_eq_true, Bool.and_self, Bool.and_true, Bool.true_and, decide_true, Option.toList_some, Option.toList_none, List.cons_append, List.nil_append, Option.bind_some, if_true, if_false, Nat.reduceLeDiff, Nat.reduceLT, Nat.reduceBEq, Bool.or_false, Bool.false_or, Bool.or_true, Bool.true_or, nI_leI, nI_ltI, nI_eq, nI_clamp, inb_n, up_s, up_n, bx_uu, nI_1, ix6, nI_0n, pk_us, pk_un, ge_0n, h.nd, h.sd, d0])
  generalize hr : itf (fun i (r : Nat → Int32) => upd (upd (upd (upd (upd (upd r (6 * i) (I 151 i)) (6 * i + 1) (I 152 i)) (6 * i + 2) (I 153 i)) (6 * i + 3) (I 154 i)) (6 * i + 4) (I 155 i)) (6 * i + 5) (I 156 i)) n 0 (I 170) = r at hl
  have hrow : ∀ c, c < n → r (6 * c) = I 151 c ∧ r (6 * c + 1) = I 152 c ∧ r (6 * c + 2) = I 153 c ∧ r (6 * c + 3) = I 154 c ∧ r (6 * c + 4) = I 155 c ∧ r (6 * c + 5) = I 156 c := by
    have hq := itf_inv (f := fun i (r : Nat → Int32) => upd (upd (upd (upd (upd (upd r (6 * i) (I 151 i)) (6 * i + 1) (I 152 i)) (6 * i + 2) (I 153 i)) (6 * i + 3) (I 154 i)) (6 * i + 4) (I 155 i)) (6 * i + 5) (I 156 i)) (n := n) (Q := fun i r => ∀ c, c < i → r (6 * c) = I 151 c ∧ r (6 * c + 1) = I 152 c ∧ r (6 * c + 2) = I 153 c ∧ r (6 * c + 3) = I 154 c ∧ r (6 * c + 4) = I 155 c ∧ r (6 * c + 5) = I 156 c) (fun i s hi hq c hc => by
      by_cases e : c = i
      · subst e
        simp (disch := omega) only [pk_us, pk_un, and_self]
      · simp (disch := omega) only [pk_un]
        exact hq c (by omega)) n 0 (I 170) (by omega) (fun c hc => absurd hc (by omega))
    rw [hr] at hq
    exact hq
  have hs170 : va_up (va_up K1 123 (upd (upd (upd (I 123) 2 0) 84 1) 85 (nI st))) 170 (I 170) = va_up K1 123 (upd (upd (upd (I 123) 2 0) 84 1) 85 (nI st)) := by
    funext a
    by_cases ha : a = 170
    · subst ha
      rw [up_s, up_n (by decide), ko _ (by decide) (by decide)]
    · rw [up_n ha]
  rw [hs170, nI_0] at hl
  generalize hI3 : va_up (va_up K1 123 (upd (upd (upd (I 123) 2 0) 84 1) 85 (nI st))) 170 r = K3 at hl
  have o : ∀ a, a ≠ 0 → a < 74 ∨ 86 ≤ a → a ≠ 123 → a ≠ 170 → K3 a = I a := fun a h1 h2 h3 h4 => by rw [← hI3, up_n h4, up_n h3, ko a h1 h2]
  have fo : ∀ k, k ≠ 2 → k ≠ 84 → k ≠ 85 → K3 123 k = I 123 k := fun k h1 h2 h3 => by rw [← hI3, up_n (by decide), up_s, pk_un h3, pk_un h2, pk_un h1]
  have o0 : ∀ k, k ≠ 7 → K3 0 k = I 0 k := fun k h1 => by rw [← hI3, up_n (by decide), up_n (by decide), k0, pk_un h1]
  have om : ∀ a, 74 ≤ a → a < 86 → K3 a = takM I 74 60 t n a := fun a h1 h2 => by rw [← hI3, up_n (by omega), up_n (by omega), km a (by omega)]
  refine ⟨nI st, K1, J, R1, K3, J, st, ?_, ?_, ?_, ?_⟩
  · have g2 : K1 60 2 = nI st := by rw [ko _ (by decide) (by decide)]; exact c3
    rw [eX11_keep]
    simp (disch := omega) only [xX11_keep_0, xX11_keep_1, xX11_keep_4, xX11_keep_5, xX11_keep_8, xX11_keep_11, xX11_keep_12, xX11_keep_13, xX11_keep_16, xX11_keep_17, xX11_keep_20, xX11_keep_23, kd_0, fi_0_5, kd_60, fi_0_6, kd_74, kd_74, kd_60, ↓reduceIte, gd_t, hK_p, hN_p, hF_p, hI_p, hJ_p, hR_p, stI_p, stJ_p, stR_p, stA_p, va_rf_s, va_rf_n, clr_i, clr_l, clr_r, clr_n, clr_o, w8_0, w8_1i, w8_1r, w8_2ii, w8_2ri, w8_2ir, w8_2rr, w8_3, beq_self_eq_true, Bool.and_self, Bool.and_true, Bool.true_and, decide_true, Option.toList_some, Option.toList_none, List.cons_append, List.nil_append, Option.bind_some, if_true, if_false, Nat.reduceLeDiff, Nat.reduceLT, Nat.reduceBEq, Bool.or_false, Bool.false_or, Bool.or_true, Bool.true_or, nI_leI, nI_ltI, nI_eq, nI_clamp, inb_n, up_s, up_n, bx_uu, nI_1, ix6, nI_0n, pk_us, pk_un, ge_0n, htk, hI1, g2, z11]
  · rw [eX12_keep]
    simp (disch := omega) only [xX12_keep_0, xX12_keep_1, xX12_keep_2, xX12_keep_5, xX12_keep_6, xX12_keep_7, xX12_keep_10, xX12_keep_11, xX12_keep_12, xX12_keep_15, xX12_keep_18, xX12_keep_19, kd_123, fi_123_55, kd_151, ln_151, fi_123_56, kd_152, ln_152, fi_123_57, kd_153, ln_153, fi_123_58, kd_154, ln_154, fi_123_59, kd_155, ln_155, fi_123_60, kd_156, ln_156, fi_123_86, kd_170, ln_170, ↓reduceIte, gd_t, hK_p, hN_p, hF_p, hI_p, hJ_p, hR_p, stI_p, stJ_p, stR_p, stA_p, va_rf_s, va_rf_n, clr_i, clr_l, clr_r, clr_n, clr_o, w8_0, w8_1i, w8_1r, w8_2ii, w8_2ri, w8_2ir, w8_2rr, w8_3, beq_self_eq_true, Bool.and_self, Bool.and_true, Bool.true_and, decide_true, Option.toList_some, Option.toList_none, List.cons_append, List.nil_append, Option.bind_some, if_true, if_false, Nat.reduceLeDiff, Nat.reduceLT, Nat.reduceBEq, Bool.or_false, Bool.false_or, Bool.or_true, Bool.true_or, nI_leI, nI_ltI, nI_eq, nI_clamp, inb_n, up_s, up_n, bx_uu, nI_1, ix6, nI_0n, pk_us, pk_un, ge_0n, ko, h.sd, z11]
    exact hl
  · refine ⟨h.te, h.2.1, h.2.2.1, by rw [hr0]; exact h.r3, by rw [hr0]; exact h.r4, ?_, ?_, ?_, ?_, ?_, ?_, ?_, ?_, ?_, ?_⟩
    · exact cTxt_fr h.txt (fun q h1 h2 => o q (by omega) (by omega) (by omega) (by omega)) (fun q h1 h2 => o q (by omega) (by omega) (by omega) (by omega)) (fo _ (by decide) (by decide) (by decide)) (fo _ (by decide) (by decide) (by decide)) (fo _ (by decide) (by decide) (by decide)) (fo _ (by decide) (by decide) (by decide))
    · exact cLws_fr h.lws (fun q h1 h2 => o q (by omega) (by omega) (by omega) (by omega)) (fun q h1 h2 => o q (by omega) (by omega) (by omega) (by omega))
    · rw [fo _ (by decide) (by decide) (by decide)]; exact h.kno
    · exact cNow_fr h.now hn6 (fun q h1 h2 => o q (by omega) (by omega) (by omega) (by omega)) (fun q h1 h2 => o q (by omega) (by omega) (by omega) (by omega)) (fun q k h1 h2 _ => by rw [o q (by omega) (by omega) (by omega) (by omega)]) (fo _ (by decide) (by decide) (by decide)) hr60
    · have e7 : K3 0 7 = 1 := by rw [← hI3, up_n (by decide), up_n (by decide), k0, pk_us]
      have e84 : K3 123 84 = 1 := by rw [← hI3, up_n (by decide), up_s, pk_un (by decide), pk_us]
      have e85 : K3 123 85 = nI st := by rw [← hI3, up_n (by decide), up_s, pk_us]
      have e170 : K3 170 = r := by rw [← hI3, up_s]
      refine ⟨by rw [e7, e84], Or.inr ⟨e7, hr74, st, ?_, e85, Nat.le_refl _, fun c hc => ?_, fun c h1 h2 => ?_⟩⟩
      · rw [om 74 (by omega) (by omega), takM_0 2 (by omega)]
        exact c3
      · obtain ⟨r1, r2, r3, r4, r5, r6⟩ := hrow c hc
        obtain ⟨d1, d2, d3, d4, d5⟩ := c11 c hc
        obtain ⟨b1, b2, b3, b4⟩ := c9 c hc
        rw [Nat.zero_add] at b1 b3
        have e76 : K3 76 c = I 62 c := by rw [om 76 (by omega) (by omega)]; exact (congrFun takM_2 c).trans (cpF_at (by omega))
        have e77 : K3 77 c = I 63 c := by rw [om 77 (by omega) (by omega)]; exact (congrFun takM_3 c).trans (cpF_at (by omega))
        have e81 : K3 81 c = I 67 c := by rw [om 81 (by omega) (by omega)]; exact (takM_7 (by omega)).1
        have e82 : K3 82 c = I 68 c := by rw [om 82 (by omega) (by omega)]; exact (takM_7 (by omega)).2.1
        have e83 : K3 83 c = I 69 c := by rw [om 83 (by omega) (by omega)]; exact (takM_7 (by omega)).2.2.1
        have e84' : K3 84 c = I 70 c := by rw [om 84 (by omega) (by omega)]; exact (takM_7 (by omega)).2.2.2
        rw [e76, e77, e81, e82, e83, e84', e170, r1, r2, r3, r4, r5, r6]
        exact ⟨b1, b2, b3, b4, d1, d2, d3, d4, d5⟩
      · rw [om 76 (by omega) (by omega)]
        exact ((congrFun takM_2 c).trans (cpF_at (by omega))).trans (c9' c h1 h2)
    · exact cSto_fr h.sto (o _ (by omega) (by omega) (by omega) (by omega)) (o _ (by omega) (by omega) (by omega) (by omega)) (o _ (by omega) (by omega) (by omega) (by omega)) (o _ (by omega) (by omega) (by omega) (by omega))
    · exact cHnd_fr h.hnd (o _ (by omega) (by omega) (by omega) (by omega)) (o _ (by omega) (by omega) (by omega) (by omega)) (o _ (by omega) (by omega) (by omega) (by omega)) (fo _ (by decide) (by decide) (by decide))
    · exact cHea_fr h.hea (fun a h1 h2 => o a (by omega) (by omega) (by omega) (by omega)) (o _ (by omega) (by omega) (by omega) (by omega)) (fo _ (by decide) (by decide) (by decide)) (fo _ (by decide) (by decide) (by decide))
    · exact cTap_fr h.tap (o0 _ (by decide)) (o _ (by omega) (by omega) (by omega) (by omega)) (o _ (by omega) (by omega) (by omega) (by omega)) (fo _ (by decide) (by decide) (by decide))
    · exact cFau_fr h.fau (o _ (by omega) (by omega) (by omega) (by omega)) (fo _ (by decide) (by decide) (by decide)) (fo _ (by decide) (by decide) (by decide)) (o _ (by omega) (by omega) (by omega) (by omega)) (o _ (by omega) (by omega) (by omega) (by omega))
  · exact Or.inr ⟨fun a h1 h2 => o a (by omega) (by omega) (by omega) (by omega), o _ (by omega) (by omega) (by omega) (by omega), o _ (by omega) (by omega) (by omega) (by omega), o _ (by omega) (by omega) (by omega) (by omega), o _ (by omega) (by omega) (by omega) (by omega), o _ (by omega) (by omega) (by omega) (by omega), o _ (by omega) (by omega) (by omega) (by omega)⟩

-- PAIRS, 11: back
theorem for_c {d : Nat} {I : Mem} {J : MemL} {R : MemR} : C (d + 1) MX0_forget [.ref 105] (hp I J R) = some (none, hp (va_up I 105 (upd (I 105) 1 0)) J R) := by
  rw [eX0_forget]
  simp only [xX0_forget_0, xX0_forget_1, xX0_forget_2, xX0_forget_5, kd_105, ↓reduceIte, gd_t, hK_p, hN_p, hF_p, hI_p, hJ_p, hR_p, stI_p, stJ_p, stR_p, stA_p, va_rf_s, va_rf_n, clr_i, clr_l, clr_r, clr_n, clr_o, w8_0, w8_1i, w8_1r, w8_2ii, w8_2ri, w8_2ir, w8_2rr, w8_3, beq_self_eq_true, Bool.and_self, Bool.and_true, Bool.true_and, decide_true, Option.toList_some, Option.toList_none, List.cons_append, List.nil_append, Option.bind_some, if_true, if_false, Nat.reduceLeDiff, Nat.reduceLT, Nat.reduceBEq, Bool.or_false, Bool.false_or, Bool.or_true, Bool.true_or]
theorem back_p {I : Mem} {J : MemL} {R : MemR} {t t' n nb nm fL lL fG lG st : Nat} (h : cAll I R t t' n nb nm fL lL fG lG st) : chgP MX11_back MX12_back [] I J R t t' n nb nm fL lL fG lG := by
  have hn6 := h.n6
  have ht := te_hi h.te
  have n1 : ¬ (1 : Int32) = 0 := by decide
  obtain ⟨i1, i2⟩ := h.img
  rcases i2 with i0 | ⟨i0, r74, si, si1, si2, si3, iro, ineg⟩
  · refine askP.chg h (askP.mk0 (v := -1) (w := -1) ?_ ?_ rfl)
    · rw [eX11_back]
      simp (disch := omega) only [xX11_back_0, xX11_back_1, xX11_back_4, xX11_back_7, xX11_back_8, xX11_back_9, xX11_back_10, xX11_back_13, xX11_back_14, xX11_back_17, xX11_back_20, xX11_back_21, xX11_back_24, xX11_back_27, xX11_back_28, xX11_back_31, xX11_back_32, xX11_back_35, xX11_back_38, kd_0, fi_0_5, kd_60, fi_0_6, kd_74, fi_0_10, kd_105, ↓reduceIte, gd_t, hK_p, hN_p, hF_p, hI_p, hJ_p, hR_p, stI_p, stJ_p, stR_p, stA_p, va_rf_s, va_rf_n, clr_i, clr_l, clr_r, clr_n, clr_o, w8_0, w8_1i, w8_1r, w8_2ii, w8_2ri, w8_2ir, w8_2rr, w8_3, beq_self_eq_true, Bool.and_self, Bool.and_true, Bool.true_and, decide_true, Option.toList_some, Option.toList_none, List.cons_append, List.nil_append, Option.bind_some, if_true, if_false, Nat.reduceLeDiff, Nat.reduceLT, Nat.reduceBEq, Bool.or_false, Bool.false_or, Bool.or_true, Bool.true_or, nI_leI, nI_ltI, nI_eq, nI_clamp, inb_n, up_s, up_n, bx_uu, nI_1, ix6, nI_0n, pk_us, pk_un, ge_0n, i0, not_true_eq_false]
    · rw [eX12_back]
      simp (disch := omega) only [xX12_back_0, xX12_back_1, xX12_back_2, xX12_back_5, xX12_back_6, xX12_back_9, xX12_back_12, xX12_back_13, xX12_back_14, xX12_back_15, xX12_back_16, xX12_back_19, xX12_back_22, xX12_back_23, kd_123, fi_123_55, kd_151, ln_151, fi_123_56, kd_152, ln_152, fi_123_57, kd_153, ln_153, fi_123_58, kd_154, ln_154, fi_123_59, kd_155, ln_155, fi_123_60, kd_156, ln_156, fi_123_86, kd_170, ln_170, ↓reduceIte, gd_t, hK_p, hN_p, hF_p, hI_p, hJ_p, hR_p, stI_p, stJ_p, stR_p, stA_p, va_rf_s, va_rf_n, clr_i, clr_l, clr_r, clr_n, clr_o, w8_0, w8_1i, w8_1r, w8_2ii, w8_2ri, w8_2ir, w8_2rr, w8_3, beq_self_eq_true, Bool.and_self, Bool.and_true, Bool.true_and, decide_true, Option.toList_some, Option.toList_none, List.cons_append, List.nil_append, Option.bind_some, if_true, if_false, Nat.reduceLeDiff, Nat.reduceLT, Nat.reduceBEq, Bool.or_false, Bool.false_or, Bool.or_true, Bool.true_or, nI_leI, nI_ltI, nI_eq, nI_clamp, inb_n, up_s, up_n, bx_uu, nI_1, ix6, nI_0n, pk_us, pk_un, ge_0n, ← i1, i0, not_true_eq_false]
  · have htk := tak_spec (d := 5) (m := 60) (f := 74) (t := t) (n := n) (I := I) (J := J) (R := R) (Or.inl rfl) (Or.inr (Or.inl rfl)) (by decide) h.te r74 h.nc hn6
    generalize hR1 : va_up R 60 (va_up (R 60) 0 (some t)) = R1 at htk
    have hr0 : R1 0 = R 0 := by rw [← hR1, up_n (by decide)]
    have hr74 : R1 74 = R 74 := by rw [← hR1, up_n (by decide)]
    have hr60 : R1 60 0 = some t := by rw [← hR1, up_s, up_s]
    generalize hI1 : va_up (takM I 60 74 t n) 105 (upd (takM I 60 74 t n 105) 1 0) = K1
    have fo : ∀ a, a ≠ 112 → a ≠ 117 → ffM K1 a = K1 a := fun a h1 h2 => by unfold ffM; simp (disch := omega) only [up_n]
    have ko : ∀ a, a ≠ 105 → a < 60 ∨ 72 ≤ a → K1 a = I a := fun a h1 h2 => by rw [← hI1, up_n h1, takM_o h2]
    have km : ∀ a, a ≠ 105 → K1 a = takM I 60 74 t n a := fun a h1 => by rw [← hI1, up_n h1]
    have hl := for_0 (P := fun i (s : (Nat → Int32) × (Nat → Int32) × (Nat → Int32) × (Nat → Int32) × (Nat → Int32) × (Nat → Int32)) => E (C 10) MX12_back 24 [some (.ref 123), some (.int (nI i))] [] (hp (va_up (va_up (mdM (ffM K1) (upd (upd (I 123) 2 0) 70 (nI si)) s.2.2.1 s.2.2.2.1 s.2.2.2.2.1 s.2.2.2.2.2) 151 s.1) 152 s.2.1) J R1)) (f := fun i s => (upd s.1 i (I 170 (6 * i)), upd s.2.1 i (I 170 (6 * i + 1)), upd s.2.2.1 i (I 170 (6 * i + 2)), upd s.2.2.2.1 i (I 170 (6 * i + 3)), upd s.2.2.2.2.1 i (I 170 (6 * i + 4)), upd s.2.2.2.2.2 i (I 170 (6 * i + 5)))) (fin := fun s => some (some (.int (nI si)), hp (va_up (va_up (mdM (ffM K1) (upd (upd (upd (I 123) 2 0) 70 (nI si)) 73 0) s.2.2.1 s.2.2.2.1 s.2.2.2.2.1 s.2.2.2.2.2) 151 s.1) 152 s.2.1) J R1)) (n := n) (s := (I 151, I 152, I 153, I 154, I 155, I 156)) (by
      intro i s hi
      have d0 : ¬ n ≤ i := by omega
      have e6 : (6 : Int32) * nI i = nI (6 * i) := by rw [show (6 : Int32) = nI 6 from rfl, pk_mul]
      have w1 : ∀ (X : Mem) (a b x y : Nat → Int32) (k : Nat), k ≠ 151 → k ≠ 152 → va_up (va_up (va_up X 151 a) 152 b) k x = va_up (va_up (va_up X k x) 151 a) 152 b := by
        intro X a b x y k h1 h2
        funext q
        unfold va_up
        by_cases e1 : q = k
        · subst e1
          simp [h1, h2]
        · simp [e1]
      rw [xX12_back_24]
      simp (disch := omega) only [xX12_back_25, xX12_back_26, xX12_back_29, xX12_back_32, xX12_back_33, xX12_back_36, xX12_back_37, xX12_back_38, xX12_back_41, xX12_back_43, xX12_back_44, xX12_back_45, xX12_back_46, xX12_back_47, xX12_back_48, xX12_back_51, xX12_back_52, xX12_back_53, xX12_back_56, xX12_back_58, xX12_back_59, xX12_back_60, xX12_back_61, xX12_back_62, xX12_back_63, xX12_back_64, xX12_back_65, xX12_back_68, xX12_back_69, xX12_back_70, xX12_back_73, xX12_back_75, xX12_back_76, xX12_back_77, xX12_back_78, xX12_back_79, xX12_back_80, xX12_back_81, xX12_back_82, xX12_back_85, xX12_back_86, xX12_back_87, xX12_back_90, xX12_back_92, xX12_back_93, xX12_back_94, xX12_back_95, xX12_back_96, xX12_back_97, xX12_back_98, xX12_back_99, xX12_back_102, xX12_back_103, xX12_back_104, xX12_back_107, xX12_back_109, xX12_back_110, xX12_back_111, xX12_back_112, xX12_back_113, xX12_back_114, xX12_back_115, xX12_back_116, xX12_back_119, xX12_back_120, xX12_back_121, xX12_back_124, xX12_back_126, xX12_back_127, xX12_back_128, xX12_back_129, xX12_back_130, xX12_back_131, xX12_back_132, xX12_back_135, kd_123, fi_123_55, kd_151, ln_151, fi_123_56, kd_152, ln_152, fi_123_57, kd_153, ln_153, fi_123_58, kd_154, ln_154, fi_123_59, kd_155, ln_155, fi_123_60, kd_156, ln_156, fi_123_86, kd_170, ln_170, ↓reduceIte, gd_t, hK_p, hN_p, hF_p, hI_p, hJ_p, hR_p, stI_p, stJ_p, stR_p, stA_p, va_rf_s, va_rf_n, clr_i, clr_l, clr_r, clr_n, clr_o, w8_0, w8_1i, w8_1r, w8_2ii, w8_2ri, w8_2ir, w8_2rr, w8_3, beq_self_eq_true, Bool.and_self, Bool.and_true, Bool.true_and, decide_true, Option.toList_some, Option.toList_none, List.cons_append, List.nil_append, Option.bind_some, if_true, if_false, Nat.reduceLeDiff, Nat.reduceLT, Nat.reduceBEq, Bool.or_false, Bool.false_or, Bool.or_true, Bool.true_or, nI_leI, nI_ltI, nI_eq, nI_clamp, inb_n, up_s, up_n, bx_uu, nI_1, ix6, nI_0n, pk_us, pk_un, ge_0n, mdM_0, mdM_1, mdM_2, mdM_3, mdM_4, mdM_o, h.nd, d0, e6, p2, p3, p4, p5, fo, ko, up_31]
      simp (disch := omega) only [w1 _ _ _ _ (s.1), mdM_w1, mdM_w2, mdM_w3, mdM_w4]) (by
      intro s
      have d0 : n ≤ n := Nat.le_refl n
      have w1 : ∀ (X : Mem) (a b x y : Nat → Int32) (k : Nat), k ≠ 151 → k ≠ 152 → va_up (va_up (va_up X 151 a) 152 b) k x = va_up (va_up (va_up X k x) 151 a) 152 b := by
        intro X a b x y k h1 h2
        funext q
        unfold va_up
        by_cases e1 : q = k
        · subst e1
          simp [h1, h2]
        · simp [e1]
      rw [xX12_back_24]
      simp (disch := omega) only [xX12_back_25, xX12_back_26, xX12_back_29, xX12_back_32, xX12_back_33, xX12_back_36, xX12_back_37, xX12_back_38, xX12_back_41, xX12_back_43, xX12_back_44, xX12_back_45, xX12_back_46, xX12_back_47, xX12_back_48, xX12_back_51, xX12_back_52, xX12_back_53, xX12_back_56, xX12_back_58, xX12_back_59, xX12_back_60, xX12_back_61, xX12_back_62, xX12_back_63, xX12_back_64, xX12_back_65, xX12_back_68, xX12_back_69, xX12_back_70, xX12_back_73, xX12_back_75, xX12_back_76, xX12_back_77, xX12_back_78, xX12_back_79, xX12_back_80, xX12_back_81, xX12_back_82, xX12_back_85, xX12_back_86, xX12_back_87, xX12_back_90, xX12_back_92, xX12_back_93, xX12_back_94, xX12_back_95, xX12_back_96, xX12_back_97, xX12_back_98, xX12_back_99, xX12_back_102, xX12_back_103, xX12_back_104, xX12_back_107, xX12_back_109, xX12_back_110, xX12_back_111, xX12_back_112, xX12_back_113, xX12_back_114, xX12_back_115, xX12_back_116, xX12_back_119, xX12_back_120, xX12_back_121, xX12_back_124, xX12_back_126, xX12_back_127, xX12_back_128, xX12_back_129, xX12_back_130, xX12_back_131, xX12_back_132, xX12_back_135, xX12_back_138, xX12_back_139, xX12_back_140, xX12_back_143, xX12_back_144, xX12_back_147, kd_123, fi_123_55, kd_151, ln_151, fi_123_56, kd_152, ln_152, fi_123_57, kd_153, ln_153, fi_123_58, kd_154, ln_154, fi_123_59, kd_155, ln_155, fi_123_60, kd_156, ln_156, fi_123_86, kd_170, ln_170, ↓reduceIte, gd_t, hK_p, hN_p, hF_p, hI_p, hJ_p, hR_p, stI_p, stJ_p, stR_p, stA_p, va_rf_s, va_rf_n, clr_i, clr_l, clr_r, clr_n, clr_o, w8_0, w8_1i, w8_1r, w8_2ii, w8_2ri, w8_2ir, w8_2rr, w8_3, beq_self_eq_true, Bool.and_self, Bool.and_true, Bool.true_and, decide_true, Option.toList_some, Option.toList_none, List.cons_append, List.nil_append, Option.bind_some, if_true, if_false, Nat.reduceLeDiff, Nat.reduceLT, Nat.reduceBEq, Bool.or_false, Bool.false_or, Bool.or_true, Bool.true_or, nI_leI, nI_ltI, nI_eq, nI_clamp, inb_n, up_s, up_n, bx_uu, nI_1, ix6, nI_0n, pk_us, pk_un, ge_0n, mdM_0, h.nd, d0]
      simp (disch := omega) only [w1 _ _ _ _ (s.1), mdM_w0])
    generalize hs : itf (fun i (s : (Nat → Int32) × (Nat → Int32) × (Nat → Int32) × (Nat → Int32) × (Nat → Int32) × (Nat → Int32)) => (upd s.1 i (I 170 (6 * i)), upd s.2.1 i (I 170 (6 * i + 1)), upd s.2.2.1 i (I 170 (6 * i + 2)), upd s.2.2.2.1 i (I 170 (6 * i + 3)), upd s.2.2.2.2.1 i (I 170 (6 * i + 4)), upd s.2.2.2.2.2 i (I 170 (6 * i + 5)))) n 0 (I 151, I 152, I 153, I 154, I 155, I 156) = s at hl
    have hrow : ∀ c, c < n → s.1 c = I 170 (6 * c) ∧ s.2.1 c = I 170 (6 * c + 1) ∧ s.2.2.1 c = I 170 (6 * c + 2) ∧ s.2.2.2.1 c = I 170 (6 * c + 3) ∧ s.2.2.2.2.1 c = I 170 (6 * c + 4) ∧ s.2.2.2.2.2 c = I 170 (6 * c + 5) := by
      have hq := itf_inv (f := fun i (s : (Nat → Int32) × (Nat → Int32) × (Nat → Int32) × (Nat → Int32) × (Nat → Int32) × (Nat → Int32)) => (upd s.1 i (I 170 (6 * i)), upd s.2.1 i (I 170 (6 * i + 1)), upd s.2.2.1 i (I 170 (6 * i + 2)), upd s.2.2.2.1 i (I 170 (6 * i + 3)), upd s.2.2.2.2.1 i (I 170 (6 * i + 4)), upd s.2.2.2.2.2 i (I 170 (6 * i + 5)))) (n := n) (Q := fun i s => ∀ c, c < i → s.1 c = I 170 (6 * c) ∧ s.2.1 c = I 170 (6 * c + 1) ∧ s.2.2.1 c = I 170 (6 * c + 2) ∧ s.2.2.2.1 c = I 170 (6 * c + 3) ∧ s.2.2.2.2.1 c = I 170 (6 * c + 4) ∧ s.2.2.2.2.2 c = I 170 (6 * c + 5)) (fun i s hi hq c hc => by
        by_cases e : c = i
        · subst e
          simp (disch := omega) only [pk_us, and_self]
        · simp (disch := omega) only [pk_un]
          exact hq c (by omega)) n 0 (I 151, I 152, I 153, I 154, I 155, I 156) (by omega) (fun c hc => absurd hc (by omega))
      rw [hs] at hq
      exact hq
    have hst : va_up (va_up (mdM (ffM K1) (upd (upd (I 123) 2 0) 70 (nI si)) (I 153) (I 154) (I 155) (I 156)) 151 (I 151)) 152 (I 152) = va_up (ffM K1) 123 (upd (upd (I 123) 2 0) 70 (nI si)) := by
      funext a
      by_cases ha : a = 152
      · subst ha
        rw [up_s, up_n (by decide), fo _ (by decide) (by decide), ko _ (by decide) (by decide)]
      rw [up_n ha]
      by_cases hb : a = 151
      · subst hb
        rw [up_s, up_n (by decide), fo _ (by decide) (by decide), ko _ (by decide) (by decide)]
      rw [up_n hb]
      unfold mdM va_up
      repeat' split
      all_goals first | rfl | (subst_vars; rw [fo _ (by decide) (by decide), ko _ (by decide) (by decide)])
    dsimp only at hl
    rw [hst, nI_0] at hl
    generalize hI3 : va_up (va_up (mdM (ffM K1) (upd (upd (upd (I 123) 2 0) 70 (nI si)) 73 0) s.2.2.1 s.2.2.2.1 s.2.2.2.2.1 s.2.2.2.2.2) 151 s.1) 152 s.2.1 = K3 at hl
    have o : ∀ a, a < 60 ∨ (72 ≤ a ∧ a ≠ 105 ∧ a ≠ 112 ∧ a ≠ 117 ∧ a ≠ 123 ∧ (a < 151 ∨ 156 < a)) → K3 a = I a := fun a h1 => by
      rw [← hI3, up_n (by omega), up_n (by omega), mdM_o (by omega) (by omega) (by omega) (by omega) (by omega), fo a (by omega) (by omega), ko a (by omega) (by omega)]
    have f : ∀ k, k ≠ 2 → k ≠ 70 → k ≠ 73 → K3 123 k = I 123 k := fun k h1 h2 h3 => by rw [← hI3, up_n (by decide), up_n (by decide), mdM_0, pk_un h3, pk_un h2, pk_un h1]
    have om : ∀ a, 60 ≤ a → a < 72 → K3 a = takM I 60 74 t n a := fun a h1 h2 => by
      rw [← hI3, up_n (by omega), up_n (by omega), mdM_o (by omega) (by omega) (by omega) (by omega) (by omega), fo a (by omega) (by omega), km a (by omega)]
    have f70 : K3 123 70 = nI si := by rw [← hI3, up_n (by decide), up_n (by decide), mdM_0, pk_un (by decide), pk_us]
    have f73 : K3 123 73 = 0 := by rw [← hI3, up_n (by decide), up_n (by decide), mdM_0, pk_us]
    have m151 : K3 151 = s.1 := by rw [← hI3, up_n (by decide), up_s]
    have m152 : K3 152 = s.2.1 := by rw [← hI3, up_s]
    have m153 : K3 153 = s.2.2.1 := by rw [← hI3, up_n (by decide), up_n (by decide), mdM_1]
    have m154 : K3 154 = s.2.2.2.1 := by rw [← hI3, up_n (by decide), up_n (by decide), mdM_2]
    have m155 : K3 155 = s.2.2.2.2.1 := by rw [← hI3, up_n (by decide), up_n (by decide), mdM_3]
    have m156 : K3 156 = s.2.2.2.2.2 := by rw [← hI3, up_n (by decide), up_n (by decide), mdM_4]
    have m105 : K3 105 1 = 0 := by
      rw [← hI3, up_n (by decide), up_n (by decide), mdM_o (by decide) (by decide) (by decide) (by decide) (by decide), fo _ (by decide) (by decide), ← hI1, up_s, pk_us]
    have e60 : ∀ k, k = 1 ∨ k = 2 ∨ k = 3 ∨ k = 4 → K3 60 k = if k = 1 then I (t + 5) 1 else if k = 2 then I 74 2 else if k = 3 then I t 12 else 0 := fun k hk => by
      rw [om 60 (by omega) (by omega)]
      exact takM_0 k hk
    refine ⟨nI si, ffM K1, J, R1, K3, J, si, ?_, ?_, ?_, ?_⟩
    · have g2 : ffM K1 60 2 = nI si := by
        rw [fo _ (by decide) (by decide), km _ (by decide)]
        exact (takM_0 2 (by omega)).trans si1
      rw [eX11_back]
      simp (disch := omega) only [xX11_back_0, xX11_back_1, xX11_back_4, xX11_back_7, xX11_back_8, xX11_back_9, xX11_back_10, xX11_back_13, xX11_back_14, xX11_back_17, xX11_back_20, xX11_back_21, xX11_back_24, xX11_back_27, xX11_back_28, xX11_back_31, xX11_back_32, xX11_back_35, xX11_back_38, kd_0, fi_0_5, kd_60, fi_0_6, kd_74, fi_0_10, kd_105, kd_0, kd_60, kd_74, kd_105, ↓reduceIte, gd_t, hK_p, hN_p, hF_p, hI_p, hJ_p, hR_p, stI_p, stJ_p, stR_p, stA_p, va_rf_s, va_rf_n, clr_i, clr_l, clr_r, clr_n, clr_o, w8_0, w8_1i, w8_1r, w8_2ii, w8_2ri, w8_2ir, w8_2rr, w8_3, beq_self_eq_true, Bool.and_self, Bool.and_true, Bool.true_and, decide_true, Option.toList_some, Option.toList_none, List.cons_append, List.nil_append, Option.bind_some, if_true, if_false, Nat.reduceLeDiff, Nat.reduceLT, Nat.reduceBEq, Bool.or_false, Bool.false_or, Bool.or_true, Bool.true_or, nI_leI, nI_ltI, nI_eq, nI_clamp, inb_n, up_s, up_n, bx_uu, nI_1, ix6, nI_0n, pk_us, pk_un, ge_0n, i0, n1, htk, for_c, hI1, ff_c, g2, not_false_eq_true]
    · have g84 : I 123 84 = 1 := by rw [← i1]; exact i0
      rw [eX12_back]
      simp (disch := omega) only [xX12_back_0, xX12_back_1, xX12_back_2, xX12_back_5, xX12_back_6, xX12_back_9, xX12_back_12, xX12_back_13, xX12_back_14, xX12_back_15, xX12_back_16, xX12_back_19, xX12_back_22, xX12_back_23, kd_123, fi_123_55, kd_151, ln_151, fi_123_56, kd_152, ln_152, fi_123_57, kd_153, ln_153, fi_123_58, kd_154, ln_154, fi_123_59, kd_155, ln_155, fi_123_60, kd_156, ln_156, fi_123_86, kd_170, ln_170, ↓reduceIte, gd_t, hK_p, hN_p, hF_p, hI_p, hJ_p, hR_p, stI_p, stJ_p, stR_p, stA_p, va_rf_s, va_rf_n, clr_i, clr_l, clr_r, clr_n, clr_o, w8_0, w8_1i, w8_1r, w8_2ii, w8_2ri, w8_2ir, w8_2rr, w8_3, beq_self_eq_true, Bool.and_self, Bool.and_true, Bool.true_and, decide_true, Option.toList_some, Option.toList_none, List.cons_append, List.nil_append, Option.bind_some, if_true, if_false, Nat.reduceLeDiff, Nat.reduceLT, Nat.reduceBEq, Bool.or_false, Bool.false_or, Bool.or_true, Bool.true_or, nI_leI, nI_ltI, nI_eq, nI_clamp, inb_n, up_s, up_n, bx_uu, nI_1, ix6, nI_0n, pk_us, pk_un, ge_0n, fo, ko, g84, si2, n1, not_false_eq_true]
      exact hl
    · refine ⟨h.te, h.2.1, h.2.2.1, by rw [hr0]; exact h.r3, by rw [hr0]; exact h.r4, ?_, ?_, ?_, ?_, ?_, ?_, ?_, ?_, ?_, ?_⟩
      · exact cTxt_fr h.txt (fun q h1 h2 => o q (by omega)) (fun q h1 h2 => o q (by omega)) (f _ (by decide) (by decide) (by decide)) (f _ (by decide) (by decide) (by decide)) (f _ (by decide) (by decide) (by decide)) (f _ (by decide) (by decide) (by decide))
      · exact cLws_fr h.lws (fun q h1 h2 => o q (by omega)) (fun q h1 h2 => o q (by omega))
      · rw [f _ (by decide) (by decide) (by decide)]; exact h.kno
      · have t61 : K3 61 = cpF (I (t + 4)) (I 61) 3 := (om 61 (by omega) (by omega)).trans takM_1
        have t62 : K3 62 = cpF (I 76) (I 62) 6 := (om 62 (by omega) (by omega)).trans takM_2
        have t63 : K3 63 = cpF (I 77) (I 63) 6 := (om 63 (by omega) (by omega)).trans takM_3
        have t64 : K3 64 = cpF (I (t + 9)) (I 64) 6 := (om 64 (by omega) (by omega)).trans takM_4
        have t65 : K3 65 = cpF (I (t + 10)) (I 65) 6 := (om 65 (by omega) (by omega)).trans takM_5
        have t66 : K3 66 = cpF (I (t + 14)) (I 66) 6 := (om 66 (by omega) (by omega)).trans takM_6
        have t71 : K3 71 = mesF n (bonF (cpF (I (t + 9)) (I 64) 6) (I (t + 3)) (cpF (I (t + 4)) (I 61) 3) (cpF (I 77) (I 63) 6) (cpF (I 76) (I 62) 6) (I t 12)) (I 71) := (om 71 (by omega) (by omega)).trans takM_11
        have hb3 := h.txt.1.2.2
        refine ⟨hr60, (e60 1 (by omega)).trans h.nc, (e60 2 (by omega)).trans si1, f70, by have := h.s4; omega, ?_, e60 4 (by omega), fun i hi => ?_, ⟨fun i hi => ?_, fun i h1 h2 => ?_⟩, fun i hi => ?_, fun i hi => ?_, fun c q hc hq => ?_⟩
        · rw [o t (by omega)]
          exact e60 3 (by omega)
        · rw [t61, o (t + 4) (by omega), cpF_at (by omega)]
        · obtain ⟨a1, a2, a3, a4, a5, a6, a7, a8, a9⟩ := iro i hi
          obtain ⟨r1, r2, r3, r4, r5, r6⟩ := hrow i hi
          rw [t62, t63, m151, m152, cpF_at (by omega), cpF_at (by omega), Nat.zero_add, r1, r2]
          exact ⟨a1, a2, a3, a4⟩
        · rw [t62, cpF_at (by omega)]
          exact ineg i h1 h2
        · rw [t64, t65, t66, cpF_at (by omega), cpF_at (by omega), cpF_at (by omega), o (t + 9) (by omega), o (t + 10) (by omega), o (t + 14) (by omega)]
          exact ⟨rfl, rfl, rfl⟩
        · obtain ⟨a1, a2, a3, a4, a5, a6, a7, a8, a9⟩ := iro i hi
          obtain ⟨r1, r2, r3, r4, r5, r6⟩ := hrow i hi
          have t7 := takM_7 (I := I) (m := 60) (f := 74) (t := t) (n := n) (k := i) (by omega)
          have u1 : K3 67 i = I 81 i := by rw [om 67 (by omega) (by omega)]; exact t7.1
          have u2 : K3 68 i = I 82 i := by rw [om 68 (by omega) (by omega)]; exact t7.2.1
          have u3 : K3 69 i = I 83 i := by rw [om 69 (by omega) (by omega)]; exact t7.2.2.1
          have u4 : K3 70 i = I 84 i := by rw [om 70 (by omega) (by omega)]; exact t7.2.2.2
          rw [u1, u2, u3, u4, m153, m154, m155, m156, r3, r4, r5, r6]
          exact ⟨a5, a6, a7, a8, a9⟩
        · rw [t71, mesF_at hn6 c q hc hq, t64, t61, t63, t62, o (t + 3) (by omega), e60 3 (by omega)]
          rfl
      · refine ⟨by rw [o 0 (by omega), f _ (by decide) (by decide) (by decide)]; exact i1, Or.inr ⟨by rw [o 0 (by omega)]; exact i0, by rw [hr74]; exact r74, si, by rw [o 74 (by omega)]; exact si1, by rw [f _ (by decide) (by decide) (by decide)]; exact si2, Nat.le_refl _, ?_, ?_⟩⟩
        · simp (disch := omega) only [o]
          exact iro
        · simp (disch := omega) only [o]
          exact ineg
      · have := h.sto
        unfold cSto at this ⊢
        simp (disch := omega) only [o]
        exact fun τ hτ => this τ (by omega)
      · exact ⟨0, m105, f73, by omega, fun e he => absurd he (by omega)⟩
      · exact cHea_fr h.hea (fun a h1 h2 => o a (by omega)) (o _ (by omega)) (f _ (by decide) (by decide) (by decide)) (f _ (by decide) (by decide) (by decide))
      · exact cTap_fr h.tap (by rw [o 0 (by omega)]) (o _ (by omega)) (o _ (by omega)) (f _ (by decide) (by decide) (by decide))
      · exact cFau_fr h.fau (o _ (by omega)) (f _ (by decide) (by decide) (by decide)) (f _ (by decide) (by decide) (by decide)) (o _ (by omega)) (o _ (by omega))
    · refine Or.inl ⟨?_, ?_⟩
      · rw [← hI3]
        unfold ffM
        rw [up_n (by decide), up_n (by decide), mdM_o (by decide) (by decide) (by decide) (by decide) (by decide)]
        simp (disch := omega) only [up_n, up_s, pk_us]
      · rw [← hI3]
        unfold ffM
        rw [up_n (by decide), up_n (by decide), mdM_o (by decide) (by decide) (by decide) (by decide) (by decide)]
        simp (disch := omega) only [up_n, up_s, pk_us]

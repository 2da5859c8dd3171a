-- FITS, 5: the model's runs, and the pair
theorem b63 : ∀ q, q < 64 → (nI q &&& 63 = 0 ↔ nI q = 0) := by decide +kernel
theorem b1c : ∀ q, q < 64 → ∀ c, c < 6 → (nI q &&& (1 : Int32) <<< (nI c &&& 31) = 0 ↔ ¬ isB (nI q) (nI c)) := by decide +kernel
section FIN
variable {I Q X : Mem} {J : MemL} {R R' R1 : MemR} {t t' n nb nm fL lL fG lG st : Nat}
theorem hg_ok {m : Nat} (h : cAll I R t t' n nb nm fL lL fG lG st) : (∀ c, c < n → ∃ x, x < nb ∧ hgB I t nm m c = nI x) ∧ ∀ c, c < n → inN (hgP I t nm m c) 0 30 := by
  refine ⟨fun c hc => ?_, fun c hc => ?_⟩
  · unfold hgB
    by_cases z : m < nm
    · rw [if_pos z]
      obtain ⟨h1, h2⟩ := (h.txt.2.2.2.2.2.2.2.2 m z).2 c hc
      rw [h1]
      rcases h2 with h2 | ⟨⟨x, x1, x2⟩, -⟩
      · rw [if_pos h2, (h.txt.2.2.2.2.1 c hc).2.1]
        exact (h.txt.2.2.2.2.2.1 c hc).1
      · rw [if_neg (fun q => nI_nm (j := x) (by have := h.txt.1.2.2; omega) (by rw [← q, x2]))]
        exact ⟨x, x1, x2⟩
    · rw [if_neg z, (h.txt.2.2.2.2.1 c hc).2.1]
      exact (h.txt.2.2.2.2.2.1 c hc).1
  · unfold hgP
    by_cases z : m < nm
    · rw [if_pos z]
      obtain ⟨h1, h2⟩ := (h.txt.2.2.2.2.2.2.2.2 m z).2 c hc
      rw [h1]
      rcases h2 with h2 | ⟨⟨x, x1, x2⟩, h3, h4⟩
      · rw [if_pos h2, (h.txt.2.2.2.2.1 c hc).2.2.1]
        exact (h.txt.2.2.2.2.2.1 c hc).2.1
      · rw [if_neg (fun q => nI_nm (j := x) (by have := h.txt.1.2.2; omega) (by rw [← q, x2])), h3]
        exact h4
    · rw [if_neg z, (h.txt.2.2.2.2.1 c hc).2.2.1]
      exact (h.txt.2.2.2.2.2.1 c hc).2.1
theorem fih_m {d m e : Nat} {Y : Mem} (h : cAll I R t t' n nb nm fL lL fG lG st) (k : kp I Y) (hm : m ≤ nm) : ∃ l4, E (C d) MX12_isFit 6 [some (.ref 123), some (.int (nI m)), some (.int (nI e)), some (.int 0), none, none] [] (hp Y J R1) = E (C d) MX12_isFit 117 [some (.ref 123), some (.int (nI m)), some (.int (nI e)), some (.int (nI n)), l4, none] [] (hp (huxM Y n (hgB I t nm m) (hgP I t nm m)) J R1) := by
  have hn6 := h.n6
  have hb3 := h.txt.1.2.2
  have hm4 := h.txt.2.2.1.2.2
  have n1 : ¬ (1 : Int32) = 0 := by decide
  have a6 : ∀ c, (6 : Int32) + nI c = nI (6 + c) := fun c => nI_add 6 c
  have r : ∀ a, 124 ≤ a → a ≤ 146 → Y a = I a := fun a h1 h2 => k.1 a (by unfold kpA; omega)
  have y13 : Y 123 13 = nI n := by rw [k.2.1 13 (by unfold kpK; omega)]; exact h.nd
  have y14 : Y 123 14 = nI nm := by rw [k.2.1 14 (by unfold kpK; omega)]; exact h.txt.2.2.1.2.1
  have hl := for_0 (P := fun i (s : (Nat → Int32) × (Nat → Int32) × Option Value) => E (C d) MX12_isFit 6 [some (.ref 123), some (.int (nI m)), some (.int (nI e)), some (.int (nI i)), s.2.2, none] [] (hp (va_up (va_up Y 151 (pt 6 (Y 151) s.1)) 152 (pt 6 (Y 152) s.2.1)) J R1)) (fin := fun s => E (C d) MX12_isFit 117 [some (.ref 123), some (.int (nI m)), some (.int (nI e)), some (.int (nI n)), s.2.2, none] [] (hp (va_up (va_up Y 151 (pt 6 (Y 151) s.1)) 152 (pt 6 (Y 152) s.2.1)) J R1)) (f := fun i s => (upd s.1 i (hgB I t nm m i), upd s.2.1 i (hgP I t nm m i), some (.int (if m < nm then (if I (t + 17) (m * 6 + i) = -1 then 0 else 1) else 0)))) (n := n) (s := (shR 6 (Y 151), shR 6 (Y 152), none)) (by
    intro i s hi
    have c0 : ¬ n ≤ i := by omega
    rw [xX12_isFit_6]
    unfold hgB hgP
    obtain ⟨-, e2, e3, -⟩ := h.txt.2.2.2.2.1 i hi
    by_cases z : m < nm
    · have z' : ¬ nm ≤ m := by omega
      obtain ⟨h1, h2⟩ := (h.txt.2.2.2.2.2.2.2.2 m z).2 i hi
      rw [h1]
      rcases h2 with h2 | ⟨⟨x, x1, x2⟩, h3, h4⟩
      · have m1 : (-1 : Int32) < 0 := by decide
        simp (disch := omega) only [xX12_isFit_7, xX12_isFit_8, xX12_isFit_11, xX12_isFit_14, xX12_isFit_15, xX12_isFit_16, xX12_isFit_19, xX12_isFit_22, xX12_isFit_23, xX12_isFit_26, xX12_isFit_28, xX12_isFit_29, xX12_isFit_30, xX12_isFit_31, xX12_isFit_32, xX12_isFit_33, xX12_isFit_36, xX12_isFit_37, xX12_isFit_40, xX12_isFit_41, xX12_isFit_43, xX12_isFit_44, xX12_isFit_47, xX12_isFit_49, xX12_isFit_50, xX12_isFit_51, xX12_isFit_53, xX12_isFit_56, xX12_isFit_57, xX12_isFit_60, xX12_isFit_62, xX12_isFit_63, xX12_isFit_64, xX12_isFit_65, xX12_isFit_66, xX12_isFit_67, xX12_isFit_70, xX12_isFit_71, xX12_isFit_74, xX12_isFit_75, xX12_isFit_76, xX12_isFit_77, xX12_isFit_78, xX12_isFit_81, xX12_isFit_83, xX12_isFit_84, xX12_isFit_85, xX12_isFit_87, xX12_isFit_90, xX12_isFit_91, xX12_isFit_94, xX12_isFit_96, xX12_isFit_97, xX12_isFit_98, xX12_isFit_99, xX12_isFit_100, xX12_isFit_101, xX12_isFit_104, xX12_isFit_105, xX12_isFit_108, xX12_isFit_109, xX12_isFit_110, xX12_isFit_111, xX12_isFit_114, kd_123, fi_123_27, kd_130, ln_130, fi_123_28, kd_131, ln_131, fi_123_36, kd_139, ln_139, fi_123_37, kd_140, ln_140, fi_123_55, kd_151, ln_151, fi_123_56, kd_152, ln_152, fi_123_81, kd_167, ln_167, fi_123_82, kd_168, ln_168, fi_123_83, kd_169, ln_169, ↓reduceIte, gd_t, hK_p, hN_p, hF_p, hI_p, hJ_p, hR_p, stI_p, stJ_p, stR_p, stA_p, va_rf_s, va_rf_n, clr_i, clr_l, clr_r, clr_n, clr_o, w8_0, w8_1i, w8_1r, w8_2ii, w8_2ri, w8_2ir, w8_2rr, w8_3, beq_self_eq_true, Bool.and_self, Bool.and_true, Bool.true_and, decide_true, Option.toList_some, Option.toList_none, List.cons_append, List.nil_append, Option.bind_some, if_true, if_false, Nat.reduceLeDiff, Nat.reduceLT, Nat.reduceBEq, Bool.or_false, Bool.false_or, Bool.or_true, Bool.true_or, nI_leI, nI_ltI, nI_eq, nI_clamp, inb_n, up_s, up_n, bx_uu, nI_1, ix6, nI_0n, pk_us, pk_un, ge_0n, r, y13, y14, m6c, a6, c0, z, z', h2, m1, e2, e3, pt_up, up_31]
      · have m1 : ¬ nI x < 0 := nI_pos (by omega)
        have m2 : ¬ nI x = -1 := fun q => nI_nm (j := x) (by omega) q.symm
        simp (disch := omega) only [xX12_isFit_7, xX12_isFit_8, xX12_isFit_11, xX12_isFit_14, xX12_isFit_15, xX12_isFit_16, xX12_isFit_19, xX12_isFit_22, xX12_isFit_23, xX12_isFit_26, xX12_isFit_28, xX12_isFit_29, xX12_isFit_30, xX12_isFit_31, xX12_isFit_32, xX12_isFit_33, xX12_isFit_36, xX12_isFit_37, xX12_isFit_40, xX12_isFit_41, xX12_isFit_43, xX12_isFit_44, xX12_isFit_47, xX12_isFit_49, xX12_isFit_50, xX12_isFit_51, xX12_isFit_53, xX12_isFit_56, xX12_isFit_57, xX12_isFit_60, xX12_isFit_62, xX12_isFit_63, xX12_isFit_64, xX12_isFit_65, xX12_isFit_66, xX12_isFit_67, xX12_isFit_70, xX12_isFit_71, xX12_isFit_74, xX12_isFit_75, xX12_isFit_76, xX12_isFit_77, xX12_isFit_78, xX12_isFit_81, xX12_isFit_83, xX12_isFit_84, xX12_isFit_85, xX12_isFit_87, xX12_isFit_90, xX12_isFit_91, xX12_isFit_94, xX12_isFit_96, xX12_isFit_97, xX12_isFit_98, xX12_isFit_99, xX12_isFit_100, xX12_isFit_101, xX12_isFit_104, xX12_isFit_105, xX12_isFit_108, xX12_isFit_109, xX12_isFit_110, xX12_isFit_111, xX12_isFit_114, kd_123, fi_123_27, kd_130, ln_130, fi_123_28, kd_131, ln_131, fi_123_36, kd_139, ln_139, fi_123_37, kd_140, ln_140, fi_123_55, kd_151, ln_151, fi_123_56, kd_152, ln_152, fi_123_81, kd_167, ln_167, fi_123_82, kd_168, ln_168, fi_123_83, kd_169, ln_169, ↓reduceIte, gd_t, hK_p, hN_p, hF_p, hI_p, hJ_p, hR_p, stI_p, stJ_p, stR_p, stA_p, va_rf_s, va_rf_n, clr_i, clr_l, clr_r, clr_n, clr_o, w8_0, w8_1i, w8_1r, w8_2ii, w8_2ri, w8_2ir, w8_2rr, w8_3, beq_self_eq_true, Bool.and_self, Bool.and_true, Bool.true_and, decide_true, Option.toList_some, Option.toList_none, List.cons_append, List.nil_append, Option.bind_some, if_true, if_false, Nat.reduceLeDiff, Nat.reduceLT, Nat.reduceBEq, Bool.or_false, Bool.false_or, Bool.or_true, Bool.true_or, nI_leI, nI_ltI, nI_eq, nI_clamp, inb_n, up_s, up_n, bx_uu, nI_1, ix6, nI_0n, pk_us, pk_un, ge_0n, r, y13, y14, m6c, a6, c0, z, z', x2, m1, m2, n1, h3, pt_up, up_31]
    · have z' : nm ≤ m := by omega
      simp (disch := omega) only [xX12_isFit_7, xX12_isFit_8, xX12_isFit_11, xX12_isFit_14, xX12_isFit_15, xX12_isFit_16, xX12_isFit_19, xX12_isFit_22, xX12_isFit_23, xX12_isFit_26, xX12_isFit_28, xX12_isFit_29, xX12_isFit_30, xX12_isFit_31, xX12_isFit_32, xX12_isFit_33, xX12_isFit_36, xX12_isFit_37, xX12_isFit_40, xX12_isFit_41, xX12_isFit_43, xX12_isFit_44, xX12_isFit_47, xX12_isFit_49, xX12_isFit_50, xX12_isFit_51, xX12_isFit_53, xX12_isFit_56, xX12_isFit_57, xX12_isFit_60, xX12_isFit_62, xX12_isFit_63, xX12_isFit_64, xX12_isFit_65, xX12_isFit_66, xX12_isFit_67, xX12_isFit_70, xX12_isFit_71, xX12_isFit_74, xX12_isFit_75, xX12_isFit_76, xX12_isFit_77, xX12_isFit_78, xX12_isFit_81, xX12_isFit_83, xX12_isFit_84, xX12_isFit_85, xX12_isFit_87, xX12_isFit_90, xX12_isFit_91, xX12_isFit_94, xX12_isFit_96, xX12_isFit_97, xX12_isFit_98, xX12_isFit_99, xX12_isFit_100, xX12_isFit_101, xX12_isFit_104, xX12_isFit_105, xX12_isFit_108, xX12_isFit_109, xX12_isFit_110, xX12_isFit_111, xX12_isFit_114, kd_123, fi_123_27, kd_130, ln_130, fi_123_28, kd_131, ln_131, fi_123_36, kd_139, ln_139, fi_123_37, kd_140, ln_140, fi_123_55, kd_151, ln_151, fi_123_56, kd_152, ln_152, fi_123_81, kd_167, ln_167, fi_123_82, kd_168, ln_168, fi_123_83, kd_169, ln_169, ↓reduceIte, gd_t, hK_p, hN_p, hF_p, hI_p, hJ_p, hR_p, stI_p, stJ_p, stR_p, stA_p, va_rf_s, va_rf_n, clr_i, clr_l, clr_r, clr_n, clr_o, w8_0, w8_1i, w8_1r, w8_2ii, w8_2ri, w8_2ir, w8_2rr, w8_3, beq_self_eq_true, Bool.and_self, Bool.and_true, Bool.true_and, decide_true, Option.toList_some, Option.toList_none, List.cons_append, List.nil_append, Option.bind_some, if_true, if_false, Nat.reduceLeDiff, Nat.reduceLT, Nat.reduceBEq, Bool.or_false, Bool.false_or, Bool.or_true, Bool.true_or, nI_leI, nI_ltI, nI_eq, nI_clamp, inb_n, up_s, up_n, bx_uu, nI_1, ix6, nI_0n, pk_us, pk_un, ge_0n, r, y13, y14, m6c, a6, c0, z, z', e2, e3, pt_up, up_31]) (by
    intro s
    have c0 : n ≤ n := Nat.le_refl n
    rw [xX12_isFit_6]
    simp (disch := omega) only [xX12_isFit_7, xX12_isFit_8, xX12_isFit_11, xX12_isFit_14, xX12_isFit_15, xX12_isFit_16, xX12_isFit_19, xX12_isFit_22, xX12_isFit_23, xX12_isFit_26, xX12_isFit_28, xX12_isFit_29, xX12_isFit_30, xX12_isFit_31, xX12_isFit_32, xX12_isFit_33, xX12_isFit_36, xX12_isFit_37, xX12_isFit_40, xX12_isFit_41, xX12_isFit_43, xX12_isFit_44, xX12_isFit_47, xX12_isFit_49, xX12_isFit_50, xX12_isFit_51, xX12_isFit_53, xX12_isFit_56, xX12_isFit_57, xX12_isFit_60, xX12_isFit_62, xX12_isFit_63, xX12_isFit_64, xX12_isFit_65, xX12_isFit_66, xX12_isFit_67, xX12_isFit_70, xX12_isFit_71, xX12_isFit_74, xX12_isFit_75, xX12_isFit_76, xX12_isFit_77, xX12_isFit_78, xX12_isFit_81, xX12_isFit_83, xX12_isFit_84, xX12_isFit_85, xX12_isFit_87, xX12_isFit_90, xX12_isFit_91, xX12_isFit_94, xX12_isFit_96, xX12_isFit_97, xX12_isFit_98, xX12_isFit_99, xX12_isFit_100, xX12_isFit_101, xX12_isFit_104, xX12_isFit_105, xX12_isFit_108, xX12_isFit_109, xX12_isFit_110, xX12_isFit_111, xX12_isFit_114, kd_123, fi_123_27, kd_130, ln_130, fi_123_28, kd_131, ln_131, fi_123_36, kd_139, ln_139, fi_123_37, kd_140, ln_140, fi_123_55, kd_151, ln_151, fi_123_56, kd_152, ln_152, fi_123_81, kd_167, ln_167, fi_123_82, kd_168, ln_168, fi_123_83, kd_169, ln_169, ↓reduceIte, gd_t, hK_p, hN_p, hF_p, hI_p, hJ_p, hR_p, stI_p, stJ_p, stR_p, stA_p, va_rf_s, va_rf_n, clr_i, clr_l, clr_r, clr_n, clr_o, w8_0, w8_1i, w8_1r, w8_2ii, w8_2ri, w8_2ir, w8_2rr, w8_3, beq_self_eq_true, Bool.and_self, Bool.and_true, Bool.true_and, decide_true, Option.toList_some, Option.toList_none, List.cons_append, List.nil_append, Option.bind_some, if_true, if_false, Nat.reduceLeDiff, Nat.reduceLT, Nat.reduceBEq, Bool.or_false, Bool.false_or, Bool.or_true, Bool.true_or, nI_leI, nI_ltI, nI_eq, nI_clamp, inb_n, up_s, up_n, bx_uu, nI_1, ix6, nI_0n, pk_us, pk_un, ge_0n, y13, c0])
  have e : ∀ (k i : Nat) (s : (Nat → Int32) × (Nat → Int32) × Option Value), (itf (fun i (s : (Nat → Int32) × (Nat → Int32) × Option Value) => (upd s.1 i (hgB I t nm m i), upd s.2.1 i (hgP I t nm m i), some (Value.int (if m < nm then (if I (t + 17) (m * 6 + i) = -1 then 0 else 1) else 0)))) k i s).1 = itf (fun i r => upd r i (hgB I t nm m i)) k i s.1 ∧ (itf (fun i (s : (Nat → Int32) × (Nat → Int32) × Option Value) => (upd s.1 i (hgB I t nm m i), upd s.2.1 i (hgP I t nm m i), some (Value.int (if m < nm then (if I (t + 17) (m * 6 + i) = -1 then 0 else 1) else 0)))) k i s).2.1 = itf (fun i r => upd r i (hgP I t nm m i)) k i s.2.1 := by
    intro k
    induction k with
    | zero => intro i s; exact ⟨rfl, rfl⟩
    | succ k ih => intro i s; exact ih (i + 1) _
  rw [(e n 0 _).1, (e n 0 _).2, itf_cp, itf_cp] at hl
  dsimp only at hl
  rw [nI_0, pt_sh, pt_sh, up_self, up_self] at hl
  exact ⟨_, hl⟩
theorem fil_m {d e m : Nat} {P : PR} {l4 : Option Value} (hE : e ≤ 2000) : ∀ (q j : Nat) (X : Mem) (J : MemL), j + q = e → mSt X n fL lL fG lG P j → (∀ τ, τ < j → X 169 τ = (rnG P n (τ + 1)).2.2.2.2) → ∃ X1 J1, E (C (d + 5)) MX12_isFit 125 [some (.ref 123), some (.int (nI m)), some (.int (nI e)), some (.int (nI j)), l4, none] [] (hp X J R1) = E (C (d + 5)) MX12_isFit 153 [some (.ref 123), some (.int (nI m)), some (.int (nI e)), some (.int (nI e)), l4, none] [] (hp X1 J1 R1) ∧ (∀ τ, τ < e → X1 169 τ = (rnG P n (τ + 1)).2.2.2.2) ∧ (∀ I t n, plQ I t n X → plQ I t n X1) ∧ X1 167 = X 167 ∧ X1 168 = X 168 ∧ X1 123 79 = X 123 79 ∧ X1 123 80 = X 123 80 := by
  intro q
  induction q with
  | zero =>
    intro j X J hj s g
    obtain rfl : j = e := by omega
    have c0 : j ≤ j := Nat.le_refl j
    refine ⟨X, J, ?_, g, fun _ _ _ q => q, rfl, rfl, rfl, rfl⟩
    rw [xX12_isFit_125]
    simp (disch := omega) only [xX12_isFit_126, xX12_isFit_127, xX12_isFit_130, xX12_isFit_131, xX12_isFit_133, xX12_isFit_134, xX12_isFit_137, xX12_isFit_138, xX12_isFit_141, xX12_isFit_142, xX12_isFit_143, xX12_isFit_146, xX12_isFit_147, xX12_isFit_150, kd_123, fi_123_27, kd_130, ln_130, fi_123_28, kd_131, ln_131, fi_123_36, kd_139, ln_139, fi_123_37, kd_140, ln_140, fi_123_55, kd_151, ln_151, fi_123_56, kd_152, ln_152, fi_123_81, kd_167, ln_167, fi_123_82, kd_168, ln_168, fi_123_83, kd_169, ln_169, ↓reduceIte, gd_t, hK_p, hN_p, hF_p, hI_p, hJ_p, hR_p, stI_p, stJ_p, stR_p, stA_p, va_rf_s, va_rf_n, clr_i, clr_l, clr_r, clr_n, clr_o, w8_0, w8_1i, w8_1r, w8_2ii, w8_2ri, w8_2ir, w8_2rr, w8_3, beq_self_eq_true, Bool.and_self, Bool.and_true, Bool.true_and, decide_true, Option.toList_some, Option.toList_none, List.cons_append, List.nil_append, Option.bind_some, if_true, if_false, Nat.reduceLeDiff, Nat.reduceLT, Nat.reduceBEq, Bool.or_false, Bool.false_or, Bool.or_true, Bool.true_or, nI_leI, nI_ltI, nI_eq, nI_clamp, inb_n, up_s, up_n, bx_uu, nI_1, ix6, nI_0n, pk_us, pk_un, ge_0n, c0]
  | succ q ih =>
    intro j X J hj s g
    have c0 : ¬ e ≤ j := by omega
    obtain ⟨X1, J1, e1, s1, o1⟩ := mSt_step (d := d) (J := J) (R := R1) (by omega) s
    have e69 : X1 123 69 = (rnG P n (j + 1)).2.2.2.2 := s1.2.2 (by omega)
    obtain ⟨X2, J2, e2, g2, p2, u1, u2, u3, u4⟩ := ih (j + 1) (va_up X1 169 (upd (X1 169) j (rnG P n (j + 1)).2.2.2.2)) J1 (by omega) (mSt_o s1 (by omega)) (fun τ hτ => by
      rw [up_s]
      by_cases z : τ = j
      · rw [z, pk_us]
      · rw [pk_un z, o1.1 169 (by decide) (by decide) (by decide) (by decide) (by decide) (by decide)]
        exact g τ (by omega))
    refine ⟨X2, J2, ?_, g2, fun I t n q => p2 I t n (plQ_o (plQ_rs q o1) (by omega)), ?_, ?_, ?_, ?_⟩
    · rw [xX12_isFit_125]
      simp (disch := omega) only [xX12_isFit_126, xX12_isFit_127, xX12_isFit_130, xX12_isFit_131, xX12_isFit_133, xX12_isFit_134, xX12_isFit_137, xX12_isFit_138, xX12_isFit_141, xX12_isFit_142, xX12_isFit_143, xX12_isFit_146, xX12_isFit_147, xX12_isFit_150, kd_123, fi_123_27, kd_130, ln_130, fi_123_28, kd_131, ln_131, fi_123_36, kd_139, ln_139, fi_123_37, kd_140, ln_140, fi_123_55, kd_151, ln_151, fi_123_56, kd_152, ln_152, fi_123_81, kd_167, ln_167, fi_123_82, kd_168, ln_168, fi_123_83, kd_169, ln_169, kd_123, ↓reduceIte, gd_t, hK_p, hN_p, hF_p, hI_p, hJ_p, hR_p, stI_p, stJ_p, stR_p, stA_p, va_rf_s, va_rf_n, clr_i, clr_l, clr_r, clr_n, clr_o, w8_0, w8_1i, w8_1r, w8_2ii, w8_2ri, w8_2ir, w8_2rr, w8_3, beq_self_eq_true, Bool.and_self, Bool.and_true, Bool.true_and, decide_true, Option.toList_some, Option.toList_none, List.cons_append, List.nil_append, Option.bind_some, if_true, if_false, Nat.reduceLeDiff, Nat.reduceLT, Nat.reduceBEq, Bool.or_false, Bool.false_or, Bool.or_true, Bool.true_or, nI_leI, nI_ltI, nI_eq, nI_clamp, inb_n, up_s, up_n, bx_uu, nI_1, ix6, nI_0n, pk_us, pk_un, ge_0n, c0, e1, e69, e2]
    · rw [u1, up_n (by decide)]; exact o1.1 167 (by decide) (by decide) (by decide) (by decide) (by decide) (by decide)
    · rw [u2, up_n (by decide)]; exact o1.1 168 (by decide) (by decide) (by decide) (by decide) (by decide) (by decide)
    · rw [u3, up_n (by decide)]; exact o1.2.1 79 (by decide) (by decide)
    · rw [u4, up_n (by decide)]; exact o1.2.1 80 (by decide) (by decide)
/-- what counts, of both -/
def cntR (I Q : Mem) (a e : Nat) : Prop := a ≤ 40 ∧ e ≤ 2000 ∧ (if 0 ≤ Q 123 80 then Q 123 80 else Q 123 79) = nI a ∧ (∀ k, k < a → Q 168 k = if I 111 k = 0 then 0 else if I 108 k = 2 then 0 else 1) ∧ (∀ k, a ≤ k → k < 40 → I 111 k = 0) ∧ ∀ k, k < 40 → ¬ I 111 k = 0 → ¬ I 108 k = 2 → ∃ s, s < e ∧ I 109 k = nI s
theorem fit_m {d a e m : Nat} (hm : m ≤ nm) (h : cAll I R t t' n nb nm fL lL fG lG st) (kq : kp I Q) (c : cntR I Q a e) (haz : ∃ hz, I 107 4 = nI hz ∧ a ≤ hz ∧ hz ≤ 40) : ∃ Q' J', C (d + 6) MX12_isFit [.ref 123, .int (nI m), .int (nI e)] (hp Q J R1) = some (some (.int (fiV I t lL lG n nm m)), hp Q' J' R1) ∧ kp I Q' ∧ cntR I Q' a e := by
  have hn6 := h.n6
  obtain ⟨hg1, hg2⟩ := hg_ok (m := m) h
  have ep := pla_spec (d := d + 4) (I := Q) (J := J) (R := R1)
  obtain ⟨l4, e1⟩ := fih_m (d := d + 5) (J := J) (R1 := R1) (m := m) (e := e) h (kq.tr kp_pla) hm
  obtain ⟨s1, k1⟩ := mBegX (f := hgB I t nm m) (g := hgP I t nm m) h (plQ_pla h kq) hg1 hg2
  have eb := bgn_spec (d := d + 4) (at1 := 6) (n := n) (I := huxM (plaM Q) n (hgB I t nm m) (hgP I t nm m)) (J := J) (R := R1) (by omega) (by rw [hux_o (by decide) (by decide), pla_f (by omega), kq.2.1 13 (by unfold kpK; omega)]; exact h.nd) hn6
  rw [nI_6] at eb
  obtain ⟨c1, c2, c3, c4, c5, c6⟩ := c
  obtain ⟨X1, J1, e2, g2, p2, u1, u2, u3, u4⟩ := fil_m (d := d) (m := m) (R1 := R1) (l4 := l4) c2 e 0 _ J (by omega) s1 (fun τ hτ => absurd hτ (by omega))
  have k2 := p2 I t n k1
  rw [nI_0] at e2
  have v167 : X1 167 = I 167 := k2.1.1 167 (by unfold kpA; omega)
  have v168 : X1 168 = Q 168 := by rw [u2, bgx_o (by omega), pla_o (by decide) (by decide) (by decide)]
  have v79 : X1 123 79 = Q 123 79 := by rw [u3, bgx_o (by omega), pla_f (by omega)]
  have v80 : X1 123 80 = Q 123 80 := by rw [u4, bgx_o (by omega), pla_f (by omega)]
  have ha : (if 0 ≤ X1 123 80 then X1 123 80 else X1 123 79) = nI a := by rw [v79, v80]; exact c3
  obtain ⟨hz, z1, z2, z3, z4, z5, z6⟩ := h.hea
  obtain ⟨hz', y1, y2, y3⟩ := haz
  have hzz : a ≤ hz := by
    have : hz' = hz := (nI_eq (by omega) (by omega)).mp (y1.symm.trans z1)
    omega
  have hact : ∀ k, k < a → ¬ X1 168 k = 0 → ¬ I 111 k = 0 ∧ ¬ I 108 k = 2 := by
    intro k hk q
    rw [v168, c4 k hk] at q
    by_cases w0 : I 111 k = 0
    · rw [if_pos w0] at q; exact absurd rfl q
    · rw [if_neg w0] at q
      by_cases w1 : I 108 k = 2
      · rw [if_pos w1] at q; exact absurd rfl q
      · exact ⟨w0, w1⟩
  have e3 := agr_m (d := d + 4) (m := m) (e := e) (X := X1) (J := J1) (R := R1) (l4 := l4) (l5 := none) c1 ha (fun k hk q => by
    obtain ⟨w0, w1⟩ := hact k hk q
    obtain ⟨s, s1, s2⟩ := c6 k (by omega) w0 w1
    rcases z6 k (by omega) with ⟨x1, -⟩ | ⟨-, x2, -⟩
    · exact absurd x1 w1
    · exact ⟨s, by omega, by rw [v167, x2]; exact s2⟩)
  have eV : tgV (srF (fun i (_ : Unit) => agM (X1 168) (X1 167) (X1 169) i) (fun _ s => s) a 0 ()).1 = fiV I t lL lG n nm m := by
    unfold fiV
    refine tgV_eq ?_
    have hk : ∀ j, j < a → agM (X1 168) (X1 167) (X1 169) j = agC (I 111) (I 108) (I 109) (I 110) (fun τ => (rnG (fiP I t lL lG nm m) n (τ + 1)).2.2.2.2) j := by
      intro j hj
      unfold agM agC
      by_cases w0 : I 111 j = 0
      · have : X1 168 j = 0 := by rw [v168, c4 j hj, if_pos w0]
        simp [this, w0]
      by_cases w1 : I 108 j = 2
      · have : X1 168 j = 0 := by rw [v168, c4 j hj, if_neg w0, if_pos w1]
        simp [this, w1]
      have wm : ¬ X1 168 j = 0 := by rw [v168, c4 j hj, if_neg w0, if_neg w1]; decide
      obtain ⟨s, s1, s2⟩ := c6 j (by omega) w0 w1
      obtain ⟨p, p1, p2'⟩ := rnG_sk (P := fiP I t lL lG nm m) (n := n) (k := s) hn6
      have hS : X1 169 s = nI p := by rw [g2 s s1]; exact p2'
      rcases z6 j (by omega) with ⟨x1, -⟩ | ⟨-, x2, -, x4, x5⟩
      · exact absurd x1 w1
      · rw [v167, x2, x4, s2, nI_clamp (by omega), hS]
        simp only [p2']
        have t1 : ¬ nI s < 0 := nI_pos (by omega)
        have t2 : ¬ (2000 : Int32) ≤ nI s := fun w => absurd ((nI_leI (a := 2000) (by omega) (by omega)).mp w) (by omega)
        have t3 : (if 0 ≤ I 167 (3 * j + 1) then bi (isB (nI p) (I 167 (3 * j + 1))) else bi (¬ nI p = 0)) = bi (¬ nI p &&& I 110 j = 0) := by
          rcases x5 with ⟨x6, x7⟩ | ⟨c, x6, x7, x8⟩
          · rw [x6, x7, if_neg (by decide)]
            unfold bi
            simp only [b63 p p1]
          · rw [x7, x8, if_pos (nI_pos' (by omega))]
            unfold bi
            simp only [b1c p p1 c (by omega), Decidable.not_not]
        rw [t3]
        simp [w0, w1, wm, t1, t2]
    constructor
    · rintro ⟨j, j1, j2⟩; exact ⟨j, by omega, by rw [← hk j j1]; exact j2⟩
    · rintro ⟨j, j1, j2⟩
      rcases Nat.lt_or_ge j a with w | w
      · exact ⟨j, w, by rw [hk j w]; exact j2⟩
      · exfalso
        unfold agC at j2
        rw [c5 j w j1] at j2
        simp at j2
  rw [eV] at e3
  refine ⟨X1, J1, ?_, k2.1, c1, c2, ha, fun k hk => by rw [v168]; exact c4 k hk, c5, c6⟩
  rw [eX12_isFit]
  simp (disch := omega) only [xX12_isFit_0, xX12_isFit_1, xX12_isFit_4, xX12_isFit_5, kd_123, fi_123_27, kd_130, ln_130, fi_123_28, kd_131, ln_131, fi_123_36, kd_139, ln_139, fi_123_37, kd_140, ln_140, fi_123_55, kd_151, ln_151, fi_123_56, kd_152, ln_152, fi_123_81, kd_167, ln_167, fi_123_82, kd_168, ln_168, fi_123_83, kd_169, ln_169, kd_123, ↓reduceIte, gd_t, hK_p, hN_p, hF_p, hI_p, hJ_p, hR_p, stI_p, stJ_p, stR_p, stA_p, va_rf_s, va_rf_n, clr_i, clr_l, clr_r, clr_n, clr_o, w8_0, w8_1i, w8_1r, w8_2ii, w8_2ri, w8_2ir, w8_2rr, w8_3, beq_self_eq_true, Bool.and_self, Bool.and_true, Bool.true_and, decide_true, Option.toList_some, Option.toList_none, List.cons_append, List.nil_append, Option.bind_some, if_true, if_false, Nat.reduceLeDiff, Nat.reduceLT, Nat.reduceBEq, Bool.or_false, Bool.false_or, Bool.or_true, Bool.true_or, nI_leI, nI_ltI, nI_eq, nI_clamp, inb_n, up_s, up_n, bx_uu, nI_1, ix6, nI_0n, pk_us, pk_un, ge_0n, ep]
  rw [e1]
  simp (disch := omega) only [xX12_isFit_117, xX12_isFit_118, xX12_isFit_120, xX12_isFit_123, xX12_isFit_124, kd_123, fi_123_27, kd_130, ln_130, fi_123_28, kd_131, ln_131, fi_123_36, kd_139, ln_139, fi_123_37, kd_140, ln_140, fi_123_55, kd_151, ln_151, fi_123_56, kd_152, ln_152, fi_123_81, kd_167, ln_167, fi_123_82, kd_168, ln_168, fi_123_83, kd_169, ln_169, kd_123, ↓reduceIte, gd_t, hK_p, hN_p, hF_p, hI_p, hJ_p, hR_p, stI_p, stJ_p, stR_p, stA_p, va_rf_s, va_rf_n, clr_i, clr_l, clr_r, clr_n, clr_o, w8_0, w8_1i, w8_1r, w8_2ii, w8_2ri, w8_2ir, w8_2rr, w8_3, beq_self_eq_true, Bool.and_self, Bool.and_true, Bool.true_and, decide_true, Option.toList_some, Option.toList_none, List.cons_append, List.nil_append, Option.bind_some, if_true, if_false, Nat.reduceLeDiff, Nat.reduceLT, Nat.reduceBEq, Bool.or_false, Bool.false_or, Bool.or_true, Bool.true_or, nI_leI, nI_ltI, nI_eq, nI_clamp, inb_n, up_s, up_n, bx_uu, nI_1, ix6, nI_0n, pk_us, pk_un, ge_0n, eb]
  rw [e2]
  simp (disch := omega) only [xX12_isFit_153, xX12_isFit_154, kd_123, fi_123_27, kd_130, ln_130, fi_123_28, kd_131, ln_131, fi_123_36, kd_139, ln_139, fi_123_37, kd_140, ln_140, fi_123_55, kd_151, ln_151, fi_123_56, kd_152, ln_152, fi_123_81, kd_167, ln_167, fi_123_82, kd_168, ln_168, fi_123_83, kd_169, ln_169, ↓reduceIte, gd_t, hK_p, hN_p, hF_p, hI_p, hJ_p, hR_p, stI_p, stJ_p, stR_p, stA_p, va_rf_s, va_rf_n, clr_i, clr_l, clr_r, clr_n, clr_o, w8_0, w8_1i, w8_1r, w8_2ii, w8_2ri, w8_2ir, w8_2rr, w8_3, beq_self_eq_true, Bool.and_self, Bool.and_true, Bool.true_and, decide_true, Option.toList_some, Option.toList_none, List.cons_append, List.nil_append, Option.bind_some, if_true, if_false, Nat.reduceLeDiff, Nat.reduceLT, Nat.reduceBEq, Bool.or_false, Bool.false_or, Bool.or_true, Bool.true_or]
  exact e3
theorem fits_m {d a e : Nat} (h : cAll I R t t' n nb nm fL lL fG lG st) (haz : ∃ hz, I 107 4 = nI hz ∧ a ≤ hz ∧ hz ≤ 40) : ∀ (q m : Nat) (b : Int32) (Q : Mem) (J : MemL), m + q = nm + 1 → kp I Q → cntR I Q a e → ∃ I1 J1, E (C (d + 6)) MX12_fits 14 [some (.ref 123), some (.int (nI e)), some (.int b), some (.int (nI m))] [] (hp Q J R1) = some (some (.int (itf (fiS I t lL lG n nm) q m b)), hp I1 J1 R1) ∧ kp I I1 := by
  have hm4 := h.txt.2.2.1.2.2
  intro q
  induction q with
  | zero =>
    intro m b Q J hm kq c
    obtain rfl : m = nm + 1 := by omega
    have y14 : Q 123 14 = nI nm := by rw [kq.2.1 14 (by unfold kpK; omega)]; exact h.txt.2.2.1.2.1
    have c0 : nm < nm + 1 := by omega
    refine ⟨Q, J, ?_, kq⟩
    rw [xX12_fits_14]
    simp (disch := omega) only [xX12_fits_15, xX12_fits_16, xX12_fits_19, xX12_fits_22, xX12_fits_23, xX12_fits_24, xX12_fits_25, xX12_fits_26, xX12_fits_29, xX12_fits_32, xX12_fits_33, xX12_fits_34, xX12_fits_35, xX12_fits_38, xX12_fits_39, xX12_fits_40, xX12_fits_41, xX12_fits_44, xX12_fits_47, xX12_fits_48, kd_123, ↓reduceIte, gd_t, hK_p, hN_p, hF_p, hI_p, hJ_p, hR_p, stI_p, stJ_p, stR_p, stA_p, va_rf_s, va_rf_n, clr_i, clr_l, clr_r, clr_n, clr_o, w8_0, w8_1i, w8_1r, w8_2ii, w8_2ri, w8_2ir, w8_2rr, w8_3, beq_self_eq_true, Bool.and_self, Bool.and_true, Bool.true_and, decide_true, Option.toList_some, Option.toList_none, List.cons_append, List.nil_append, Option.bind_some, if_true, if_false, Nat.reduceLeDiff, Nat.reduceLT, Nat.reduceBEq, Bool.or_false, Bool.false_or, Bool.or_true, Bool.true_or, nI_leI, nI_ltI, nI_eq, nI_clamp, inb_n, up_s, up_n, bx_uu, nI_1, ix6, nI_0n, pk_us, pk_un, ge_0n, y14, c0, itf]
  | succ q ih =>
    intro m b Q J hm kq c
    have y14 : Q 123 14 = nI nm := by rw [kq.2.1 14 (by unfold kpK; omega)]; exact h.txt.2.2.1.2.1
    have c0 : ¬ nm < m := by omega
    obtain ⟨Q1, J1, e1, k1, c1⟩ := fit_m (d := d) (m := m) (J := J) (R1 := R1) (by omega) h kq c haz
    have hS : itf (fiS I t lL lG n nm) (q + 1) m b = itf (fiS I t lL lG n nm) q (m + 1) (fiS I t lL lG n nm m b) := rfl
    rw [hS]
    obtain ⟨I3, J3, e4, k3⟩ := ih (m + 1) (fiS I t lL lG n nm m b) Q1 J1 (by omega) k1 c1
    refine ⟨I3, J3, ?_, k3⟩
    rw [← e4]
    have eS : fiS I t lL lG n nm m b = if fiV I t lL lG n nm m = 0 then b else b ||| (1 : Int32) <<< (nI m &&& 31) := rfl
    rw [eS, xX12_fits_14]
    have o0 : b ||| 0 = b := Int32.or_zero
    by_cases z : fiV I t lL lG n nm m = 0
    · simp (disch := omega) only [xX12_fits_15, xX12_fits_16, xX12_fits_19, xX12_fits_22, xX12_fits_23, xX12_fits_24, xX12_fits_25, xX12_fits_26, xX12_fits_29, xX12_fits_32, xX12_fits_33, xX12_fits_34, xX12_fits_35, xX12_fits_38, xX12_fits_39, xX12_fits_40, xX12_fits_41, xX12_fits_44, kd_123, kd_123, ↓reduceIte, gd_t, hK_p, hN_p, hF_p, hI_p, hJ_p, hR_p, stI_p, stJ_p, stR_p, stA_p, va_rf_s, va_rf_n, clr_i, clr_l, clr_r, clr_n, clr_o, w8_0, w8_1i, w8_1r, w8_2ii, w8_2ri, w8_2ir, w8_2rr, w8_3, beq_self_eq_true, Bool.and_self, Bool.and_true, Bool.true_and, decide_true, Option.toList_some, Option.toList_none, List.cons_append, List.nil_append, Option.bind_some, if_true, if_false, Nat.reduceLeDiff, Nat.reduceLT, Nat.reduceBEq, Bool.or_false, Bool.false_or, Bool.or_true, Bool.true_or, nI_leI, nI_ltI, nI_eq, nI_clamp, inb_n, up_s, up_n, bx_uu, nI_1, ix6, nI_0n, pk_us, pk_un, ge_0n, y14, c0, e1, z, o0]
    · simp (disch := omega) only [xX12_fits_15, xX12_fits_16, xX12_fits_19, xX12_fits_22, xX12_fits_23, xX12_fits_24, xX12_fits_25, xX12_fits_26, xX12_fits_29, xX12_fits_32, xX12_fits_33, xX12_fits_34, xX12_fits_35, xX12_fits_38, xX12_fits_39, xX12_fits_40, xX12_fits_41, xX12_fits_44, kd_123, kd_123, ↓reduceIte, gd_t, hK_p, hN_p, hF_p, hI_p, hJ_p, hR_p, stI_p, stJ_p, stR_p, stA_p, va_rf_s, va_rf_n, clr_i, clr_l, clr_r, clr_n, clr_o, w8_0, w8_1i, w8_1r, w8_2ii, w8_2ri, w8_2ir, w8_2rr, w8_3, beq_self_eq_true, Bool.and_self, Bool.and_true, Bool.true_and, decide_true, Option.toList_some, Option.toList_none, List.cons_append, List.nil_append, Option.bind_some, if_true, if_false, Nat.reduceLeDiff, Nat.reduceLT, Nat.reduceBEq, Bool.or_false, Bool.false_or, Bool.or_true, Bool.true_or, nI_leI, nI_ltI, nI_eq, nI_clamp, inb_n, up_s, up_n, bx_uu, nI_1, ix6, nI_0n, pk_us, pk_un, ge_0n, y14, c0, e1, z]
/-- what nobody asks -/
theorem cAll_sw {K : Mem} (h : cAll I R t t' n nb nm fL lL fG lG st) (o : ∀ a, a ≠ 111 → a ≠ 112 → a ≠ 116 → a ≠ 117 → a ≠ 119 → K a = I a) : cAll K R t t' n nb nm fL lL fG lG st := by
  have ht := te_hi h.te
  have o' : ∀ a, a < 111 ∨ 120 ≤ a → K a = I a := fun a ha => o a (by omega) (by omega) (by omega) (by omega) (by omega)
  refine ⟨h.te, h.2.1, h.2.2.1, h.r3, h.r4, ?_, ?_, ?_, ?_, ?_, ?_, ?_, ?_, ?_, ?_⟩
  · exact cTxt_fr h.txt (fun a h1 h2 => o' a (by omega)) (fun a h1 h2 => o' a (by omega)) (by rw [o' 123 (by omega)]) (by rw [o' 123 (by omega)]) (by rw [o' 123 (by omega)]) (by rw [o' 123 (by omega)])
  · exact cLws_fr h.lws (fun a h1 h2 => o' a (by omega)) (fun a h1 h2 => o' a (by omega))
  · rw [o' 123 (by omega)]; exact h.kno
  · exact cNow_fr h.now h.n6 (fun a h1 h2 => o' a (by omega)) (fun a h1 h2 => o' a (by omega)) (fun a k h1 h2 h3 => by rw [o' a (by omega)]) (by rw [o' 123 (by omega)]) rfl
  · exact cImg_fr h.img (by rw [o' 0 (by omega)]) (fun a h1 h2 => o' a (by omega)) (o' 170 (by omega)) (by rw [o' 123 (by omega)]) (by rw [o' 123 (by omega)]) rfl
  · exact cSto_fr h.sto (o' _ (by omega)) (o' _ (by omega)) (o' _ (by omega)) (o' _ (by omega))
  · exact cHnd_fr h.hnd (o' _ (by omega)) (o' _ (by omega)) (o' _ (by omega)) (by rw [o' 123 (by omega)])
  · exact cHea_fr h.hea (fun a h1 h2 => o' a (by omega)) (o' _ (by omega)) (by rw [o' 123 (by omega)]) (by rw [o' 123 (by omega)])
  · exact cTap_fr h.tap (by rw [o' 0 (by omega)]) (o' 1 (by omega)) (o' 124 (by omega)) (by rw [o' 123 (by omega)])
  · exact cFau_fr h.fau (o' 56 (by omega)) (by rw [o' 123 (by omega)]) (by rw [o' 123 (by omega)]) (o' 58 (by omega)) (o' 125 (by omega))
theorem fits_p (h : cAll I R t t' n nb nm fL lL fG lG st) : chgP MX11_fits MX12_fits [] I J R t t' n nb nm fL lL fG lG := by
  have ht := te_hi h.te
  obtain ⟨a, a40, ea, em, hz, z1, z2, z3⟩ := ask_eq h.hea
  have es := set_c (d := 8) (J := J) (R := R) ea a40
  have hN : ntR (I 108) (I 109) (I 167) a := by
    obtain ⟨hz', y1, y2, y3, y4, y5, y6⟩ := h.hea
    obtain rfl : hz' = hz := (nI_eq (by omega) (by omega)).mp (y1.symm.trans z1)
    intro k hk
    rcases y6 k (by omega) with ⟨w1, w2, w3, w4⟩ | ⟨w1, w2, w3, -⟩
    · exact Or.inl ⟨w1, w2, w3, w4⟩
    · refine Or.inr ⟨fun q => ?_, w2, w3⟩
      rw [q] at w1
      rcases w1 with w1 | w1 <;> exact absurd w1 (by decide)
  obtain ⟨e, e1, e2, e3, e4, e5⟩ := cnt_eq (r := I 111) (r' := I 168) a40 hN
  generalize hK : va_up I 111 (setF (I 108) (I 109) a (I 111)) = K at es
  have k111 : K 111 = setF (I 108) (I 109) a (I 111) := by rw [← hK, up_s]
  have ko : ∀ b, b ≠ 111 → K b = I b := fun b hb => by rw [← hK, up_n hb]
  have hA : cAll K R t t' n nb nm fL lL fG lG st := cAll_sw h (fun b h1 _ _ _ _ => ko b h1)
  have el := lst_c (d := 9) (I := K) (J := J) (R := R)
  rw [k111, ko 108 (by decide), ko 109 (by decide), e3] at el
  have hact : ∀ k, k < 40 → ¬ K 111 k = 0 → ¬ K 108 k = 2 → ∃ s, s < e ∧ K 109 k = nI s := by
    intro k hk w0 w1
    rw [k111] at w0
    rw [ko 108 (by decide)] at w1
    rw [ko 109 (by decide)]
    rcases Nat.lt_or_ge k a with w | w
    · exact e5 k w w0 w1
    · exact absurd (set_0 a40 w hk) w0
  obtain ⟨I1, J1, R1, f1, k1, r1⟩ := fit_c (d := 6) hA e1 hact (nm + 1) 0 0 K J R none (by omega) tk.rf rk.rf
  have hm : ∀ b, 123 ≤ b → I1 b = I b := fun b hb => by rw [k1 b (Or.inr hb), ko b (by omega)]
  have ely := lay_c (d := 8) (I := va_up I1 123 (upd (I1 123) 2 0)) (J := J1) (R := R1) (a := a) (by rw [up_s, pk_un (by decide), pk_un (by decide), hm 123 (by omega)]; exact em) a40 (fun k hk q => by
    rw [up_n (by decide), hm 167 (by omega)] at q ⊢
    rcases hN k hk with ⟨w1, w2, w3, x, w4, w5⟩ | ⟨w1, w2, p, p1, p2, p3⟩
    · exact ⟨x, by omega, by rw [w3]; exact w5⟩
    · rw [w2, p3] at q
      exact absurd q (nI_pos (by omega)))
  rw [up_n (by decide), up_n (by decide), hm 167 (by omega), hm 168 (by omega), e2] at ely
  have kQ : kp K (va_up (va_up I1 123 (upd (I1 123) 2 0)) 168 (layF (I 167) a (I 168)).1) := (k1.kp.tr (kp.thr (v := 0))).tr ⟨fun b hb => up_n (by unfold kpA at hb; omega), fun k _ => by rw [up_n (by decide)], fun b k h1 h2 _ => by rw [up_n (by omega)]⟩
  obtain ⟨I2, J2, f2, k2⟩ := fits_m (d := 4) (R1 := R1) (a := a) (e := e) hA ⟨hz, by rw [ko 107 (by decide)]; exact z1, z2, z3⟩ (nm + 1) 0 0 _ J1 (by omega) kQ ⟨a40, e1, by rw [up_n (by decide), up_s, pk_un (by decide), pk_un (by decide), hm 123 (by omega)]; exact em, fun k hk => by rw [up_s, k111, ko 108 (by decide)]; exact e4 k hk, fun k h1 h2 => by rw [k111]; exact set_0 a40 h1 h2, hact⟩
  rw [nI_0] at f1 f2
  refine ⟨itf (fiS K t lL lG n nm) (nm + 1) 0 0, I1, J1, R1, I2, J2, st, ?_, ?_, cAll_kp hA k2 (r1 _ (by decide)) (r1 _ (by decide)) (r1 _ (by decide)), Or.inr ⟨fun b h1 h2 => ?_, ?_, ?_, ?_, ?_, ?_, ?_⟩⟩
  · rw [eX11_fits]
    simp (disch := omega) only [xX11_fits_0, xX11_fits_1, xX11_fits_4, xX11_fits_7, xX11_fits_8, xX11_fits_11, xX11_fits_14, xX11_fits_15, xX11_fits_16, xX11_fits_17, xX11_fits_18, kd_0, fi_0_8, kd_88, fi_0_11, kd_107, fi_0_14, kd_120, ln_120, fi_0_15, kd_121, ln_121, fi_0_16, kd_122, ln_122, kd_107, ↓reduceIte, gd_t, hK_p, hN_p, hF_p, hI_p, hJ_p, hR_p, stI_p, stJ_p, stR_p, stA_p, va_rf_s, va_rf_n, clr_i, clr_l, clr_r, clr_n, clr_o, w8_0, w8_1i, w8_1r, w8_2ii, w8_2ri, w8_2ir, w8_2rr, w8_3, beq_self_eq_true, Bool.and_self, Bool.and_true, Bool.true_and, decide_true, Option.toList_some, Option.toList_none, List.cons_append, List.nil_append, Option.bind_some, if_true, if_false, Nat.reduceLeDiff, Nat.reduceLT, Nat.reduceBEq, Bool.or_false, Bool.false_or, Bool.or_true, Bool.true_or, es, el]
    exact f1
  · rw [eX12_fits]
    simp (disch := omega) only [xX12_fits_0, xX12_fits_1, xX12_fits_2, xX12_fits_5, xX12_fits_6, xX12_fits_9, xX12_fits_10, xX12_fits_11, xX12_fits_12, xX12_fits_13, kd_123, kd_123, ↓reduceIte, gd_t, hK_p, hN_p, hF_p, hI_p, hJ_p, hR_p, stI_p, stJ_p, stR_p, stA_p, va_rf_s, va_rf_n, clr_i, clr_l, clr_r, clr_n, clr_o, w8_0, w8_1i, w8_1r, w8_2ii, w8_2ri, w8_2ir, w8_2rr, w8_3, beq_self_eq_true, Bool.and_self, Bool.and_true, Bool.true_and, decide_true, Option.toList_some, Option.toList_none, List.cons_append, List.nil_append, Option.bind_some, if_true, if_false, Nat.reduceLeDiff, Nat.reduceLT, Nat.reduceBEq, Bool.or_false, Bool.false_or, Bool.or_true, Bool.true_or, ely]
    exact f2
  all_goals rw [k2.1 _ (by unfold kpA; omega), ko _ (by omega)]
end FIN

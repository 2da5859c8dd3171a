-- TEXT, 31: a line, both
section LA
variable {X Y : Mem} {J J2 : MemL} {R R2 : MemR} {L p s b n m fL lL fG lG : Nat} {u : Nat → Nat}
theorem lsR_fr {X' Y' : Mem} (h : lsR X Y s fL lL fG lG) (o1 : ∀ c, s + 19 ≤ c → c ≤ s + 25 → X' c = X c) (o2 : X' 56 7 = X 56 7) (o3 : ∀ c, 141 ≤ c → c ≤ 146 → Y' c = Y c) (o4 : ∀ k, k = 20 ∨ k = 49 → Y' 123 k = Y 123 k) : lsR X' Y' s fL lL fG lG := by
  obtain ⟨h1, h2, h3, h4, h5, h6⟩ := h
  refine ⟨lw1_fr h1 (fun c hc => o1 c (by omega) (by omega)) (fun c hc => by rw [o3 c (by omega) (by omega)]) (fun a k h1 h2 _ => by rw [o3 a (by omega) (by omega)]) (Nat.le_refl _), lw1_fr h2 (fun c hc => o1 c (by omega) (by omega)) (fun c hc => by rw [o3 c (by omega) (by omega)]) (fun a k h1 h2 _ => by rw [o3 a (by omega) (by omega)]) (Nat.le_refl _), by rw [o4 20 (by omega)]; exact h3, by rw [o2]; exact h4, by rw [o4 49 (by omega)]; exact h5, h6⟩
theorem law_p {d : Nat} (hP : psR X Y L u p) (ht : isTe s) (hR : R 56 1 = some s) (hl : lsR X Y s fL lL fG lG) : laO J J2 R R2 L u s X Y p (C (d + 6) MX7_lawLine [.ref 56] (hp X J R)) (C (d + 6) MX12_lawLine [.ref 123] (hp Y J2 R2)) := by
  have ht2 := te_hi ht
  have n1 : ¬ (1 : Int32) = 0 := by decide
  obtain ⟨X1, Y1, p1, e1, g1, s1, -, l1, o1, m1, m1'⟩ := nxt_p (d := d + 2) (J := J) (J2 := J2) (R := R) (R2 := R2) hP
  obtain ⟨fc1, fm1⟩ := nxt_fr (s := s) o1 m1 m1'
  have hl1 : lsR X1 Y1 s fL lL fG lG := lsR_fr hl (fun c _ _ => o1 c (by omega)) (by rw [o1 56 (by decide)]) (fun c _ _ => m1 c (by omega)) (fun k _ => m1' k (by omega))
  obtain ⟨a1, a2, a3, a4, a5, a6⟩ := hl1
  obtain ⟨pl, hS⟩ : ∃ pl, tkS X1 Y1 L p1 pl := s1.2
  have hTR := hS.2.2.2.2.2.2
  have k9 := TR_key (k := 9) hTR (by omega)
  have k10 := TR_key (k := 10) hTR (by omega)
  have q34 : nI (17 + kcL.getD 9 0) = 34 := by decide
  have q35 : nI (17 + kcL.getD 10 0) = 35 := by decide
  have q9 : nI 9 = 9 := rfl
  have q10 : nI 10 = 10 := rfl
  rw [q34, q9] at k9
  rw [q35, q10] at k10
  have go : ∀ {X' Y' : Mem}, lwF s X1 X' Y1 Y' → lwF s X X' Y Y' := fun {X' Y'} q => ⟨fun c h1 h2 h3 h4 => by rw [q.1 c h1 h2 h3 h4, o1 c h2], fun k hk => by rw [q.2.1 k hk, o1 56 (by decide)], fun c h1 h2 => by rw [q.2.2.1 c h1 h2, m1 c h1], fun k hk => by rw [q.2.2.2 k hk, m1' k (by omega)]⟩
  by_cases z1 : X1 57 4 = 34
  · have b9 : bi (Y1 123 8 = 1 ∧ Y1 123 9 = 9) = 1 := if_pos (k9.mp z1)
    have z1' := eq_true z1
    have ec : C (d + 6) MX7_lawLine [.ref 56] (hp X J R) = E (C (d + 5)) MX7_lawLine 37 [some (.ref 56), none] [] (hp X1 J R) := by
      rw [eX7_lawLine]
      simp (disch := omega) only [xX7_lawLine_0, xX7_lawLine_1, xX7_lawLine_4, xX7_lawLine_7, xX7_lawLine_8, xX7_lawLine_11, xX7_lawLine_14, xX7_lawLine_16, xX7_lawLine_19, xX7_lawLine_20, xX7_lawLine_23, xX7_lawLine_26, xX7_lawLine_28, xX7_lawLine_31, xX7_lawLine_32, xX7_lawLine_33, xX7_lawLine_36, kd_56, fi_56_0, kd_57, kd_56, kd_57, ↓reduceIte, gd_t, hK_p, hN_p, hF_p, hI_p, hJ_p, hR_p, stI_p, stJ_p, stR_p, stA_p, va_rf_s, va_rf_n, clr_i, clr_l, clr_r, clr_n, clr_o, w8_0, w8_1i, w8_1r, w8_2ii, w8_2ri, w8_2ir, w8_2rr, w8_3, beq_self_eq_true, Bool.and_self, Bool.and_true, Bool.true_and, decide_true, Option.toList_some, Option.toList_none, List.cons_append, List.nil_append, Option.bind_some, if_true, if_false, Nat.reduceLeDiff, Nat.reduceLT, Nat.reduceBEq, Bool.or_false, Bool.false_or, Bool.or_true, Bool.true_or, e1, z1']
    have em : C (d + 6) MX12_lawLine [.ref 123] (hp Y J2 R2) = E (C (d + 5)) MX12_lawLine 28 [some (.ref 123), none] [] (hp Y1 J2 R2) := by
      rw [eX12_lawLine]
      simp (disch := omega) only [xX12_lawLine_0, xX12_lawLine_1, xX12_lawLine_4, xX12_lawLine_5, xX12_lawLine_7, xX12_lawLine_10, xX12_lawLine_13, xX12_lawLine_14, xX12_lawLine_16, xX12_lawLine_19, xX12_lawLine_22, xX12_lawLine_23, xX12_lawLine_24, xX12_lawLine_27, kd_123, fi_123_38, kd_141, ln_141, fi_123_39, kd_142, ln_142, fi_123_40, kd_143, ln_143, kd_123, ↓reduceIte, gd_t, hK_p, hN_p, hF_p, hI_p, hJ_p, hR_p, stI_p, stJ_p, stR_p, stA_p, va_rf_s, va_rf_n, clr_i, clr_l, clr_r, clr_n, clr_o, w8_0, w8_1i, w8_1r, w8_2ii, w8_2ri, w8_2ir, w8_2rr, w8_3, beq_self_eq_true, Bool.and_self, Bool.and_true, Bool.true_and, decide_true, Option.toList_some, Option.toList_none, List.cons_append, List.nil_append, Option.bind_some, if_true, if_false, Nat.reduceLeDiff, Nat.reduceLT, Nat.reduceBEq, Bool.or_false, Bool.false_or, Bool.or_true, Bool.true_or, g1, isk_m, b9, n1, not_false_eq_true]
    rw [ec, em]
    rcases lag_p (d := d) (J := J) (J2 := J2) (R := R) (R2 := R2) (Or.inl ⟨rfl, rfl, rfl, rfl, rfl, rfl⟩) s1 ht hR a1 a2 a3 a4 a5 a6 z1 with ⟨X', Y', z1, z2, z3, z4, z5⟩ | ⟨X', Y', z1, z2, z3, z4, z5, z6, z7⟩ | ⟨X', Y', p', f, l, f', l', z1, z2, z3, z4, z5, z6, z7, z8, z9, z10, z11', z12, z13⟩
    · exact Or.inl ⟨X', Y', z1, z2, z3, fc1.tr z4, fm1.tr z5⟩
    · exact Or.inr (Or.inl ⟨X', Y', z1, z2, z3, z4, z5, fc1.tr z6, fm1.tr z7⟩)
    · exact Or.inr (Or.inr ⟨X', Y', p', f, l, f', l', z1, z2, z3, by omega, ⟨z5, z6, z7, z8, z9, z10⟩, go z11', fc1.tr z12, fm1.tr z13⟩)
  · have b9 : bi (Y1 123 8 = 1 ∧ Y1 123 9 = 9) = 0 := if_neg (fun q => z1 (k9.mpr q))
    by_cases z2 : X1 57 4 = 35
    · have b10 : bi (Y1 123 8 = 1 ∧ Y1 123 9 = 10) = 1 := if_pos (k10.mp z2)
      have z2' := eq_true z2
      have ec : C (d + 6) MX7_lawLine [.ref 56] (hp X J R) = E (C (d + 5)) MX7_lawLine 37 [some (.ref 56), none] [] (hp X1 J R) := by
        rw [eX7_lawLine]
        simp (disch := omega) only [xX7_lawLine_0, xX7_lawLine_1, xX7_lawLine_4, xX7_lawLine_7, xX7_lawLine_8, xX7_lawLine_11, xX7_lawLine_14, xX7_lawLine_16, xX7_lawLine_19, xX7_lawLine_20, xX7_lawLine_23, xX7_lawLine_26, xX7_lawLine_28, xX7_lawLine_31, xX7_lawLine_32, xX7_lawLine_33, xX7_lawLine_36, kd_56, fi_56_0, kd_57, kd_56, kd_57, ↓reduceIte, gd_t, hK_p, hN_p, hF_p, hI_p, hJ_p, hR_p, stI_p, stJ_p, stR_p, stA_p, va_rf_s, va_rf_n, clr_i, clr_l, clr_r, clr_n, clr_o, w8_0, w8_1i, w8_1r, w8_2ii, w8_2ri, w8_2ir, w8_2rr, w8_3, beq_self_eq_true, Bool.and_self, Bool.and_true, Bool.true_and, decide_true, Option.toList_some, Option.toList_none, List.cons_append, List.nil_append, Option.bind_some, if_true, if_false, Nat.reduceLeDiff, Nat.reduceLT, Nat.reduceBEq, Bool.or_false, Bool.false_or, Bool.or_true, Bool.true_or, e1, z1, z2']
      have em : C (d + 6) MX12_lawLine [.ref 123] (hp Y J2 R2) = E (C (d + 5)) MX12_lawLine 28 [some (.ref 123), none] [] (hp Y1 J2 R2) := by
        rw [eX12_lawLine]
        simp (disch := omega) only [xX12_lawLine_0, xX12_lawLine_1, xX12_lawLine_4, xX12_lawLine_5, xX12_lawLine_7, xX12_lawLine_10, xX12_lawLine_13, xX12_lawLine_14, xX12_lawLine_16, xX12_lawLine_19, xX12_lawLine_22, xX12_lawLine_23, xX12_lawLine_24, xX12_lawLine_27, kd_123, fi_123_38, kd_141, ln_141, fi_123_39, kd_142, ln_142, fi_123_40, kd_143, ln_143, kd_123, ↓reduceIte, gd_t, hK_p, hN_p, hF_p, hI_p, hJ_p, hR_p, stI_p, stJ_p, stR_p, stA_p, va_rf_s, va_rf_n, clr_i, clr_l, clr_r, clr_n, clr_o, w8_0, w8_1i, w8_1r, w8_2ii, w8_2ri, w8_2ir, w8_2rr, w8_3, beq_self_eq_true, Bool.and_self, Bool.and_true, Bool.true_and, decide_true, Option.toList_some, Option.toList_none, List.cons_append, List.nil_append, Option.bind_some, if_true, if_false, Nat.reduceLeDiff, Nat.reduceLT, Nat.reduceBEq, Bool.or_false, Bool.false_or, Bool.or_true, Bool.true_or, g1, isk_m, b9, b10, n1, not_true_eq_false, not_false_eq_true]
      rw [ec, em]
      rw [Nat.add_comm lL lG] at a1 a2 a3 a4 a5 a6
      rcases lag_p (d := d) (J := J) (J2 := J2) (R := R) (R2 := R2) (Or.inr ⟨rfl, rfl, rfl, rfl, rfl, rfl⟩) s1 ht hR a2 a1 a3 a4 a5 a6 z2 with ⟨X', Y', z1, z2, z3, z4, z5⟩ | ⟨X', Y', z1, z2, z3, z4, z5, z6, z7⟩ | ⟨X', Y', p', f, l, f', l', z1, z2, z3, z4, z5, z6, z7, z8, z9, z10, z11', z12, z13⟩
      · exact Or.inl ⟨X', Y', z1, z2, z3, fc1.tr z4, fm1.tr z5⟩
      · exact Or.inr (Or.inl ⟨X', Y', z1, z2, z3, z4, z5, fc1.tr z6, fm1.tr z7⟩)
      · rw [Nat.add_comm l l'] at z5 z6 z7 z8 z9 z10
        exact Or.inr (Or.inr ⟨X', Y', p', f', l', f, l, z1, z2, z3, by omega, ⟨z6, z5, z7, z8, z9, z10⟩, go z11', fc1.tr z12, fm1.tr z13⟩)
    · have b10 : bi (Y1 123 8 = 1 ∧ Y1 123 9 = 10) = 0 := if_neg (fun q => z2 (k10.mpr q))
      obtain ⟨f1, f2, f3⟩ := ref_p (k := 1) s1
      refine Or.inl ⟨_, _, ?_, ?_, f1, fc1.tr f2.fc, fm1.tr f3.fm⟩
      · rw [eX7_lawLine]
        simp (disch := omega) only [xX7_lawLine_0, xX7_lawLine_1, xX7_lawLine_4, xX7_lawLine_7, xX7_lawLine_8, xX7_lawLine_11, xX7_lawLine_14, xX7_lawLine_16, xX7_lawLine_19, xX7_lawLine_20, xX7_lawLine_23, xX7_lawLine_26, xX7_lawLine_28, xX7_lawLine_31, xX7_lawLine_32, xX7_lawLine_33, xX7_lawLine_36, kd_56, fi_56_0, kd_57, kd_56, kd_57, ↓reduceIte, gd_t, hK_p, hN_p, hF_p, hI_p, hJ_p, hR_p, stI_p, stJ_p, stR_p, stA_p, va_rf_s, va_rf_n, clr_i, clr_l, clr_r, clr_n, clr_o, w8_0, w8_1i, w8_1r, w8_2ii, w8_2ri, w8_2ir, w8_2rr, w8_3, beq_self_eq_true, Bool.and_self, Bool.and_true, Bool.true_and, decide_true, Option.toList_some, Option.toList_none, List.cons_append, List.nil_append, Option.bind_some, if_true, if_false, Nat.reduceLeDiff, Nat.reduceLT, Nat.reduceBEq, Bool.or_false, Bool.false_or, Bool.or_true, Bool.true_or, e1, z1, z2, ref_c, z01]
      · rw [eX12_lawLine]
        simp (disch := omega) only [xX12_lawLine_0, xX12_lawLine_1, xX12_lawLine_4, xX12_lawLine_5, xX12_lawLine_7, xX12_lawLine_10, xX12_lawLine_13, xX12_lawLine_14, xX12_lawLine_16, xX12_lawLine_19, xX12_lawLine_22, xX12_lawLine_23, xX12_lawLine_24, xX12_lawLine_27, kd_123, fi_123_38, kd_141, ln_141, fi_123_39, kd_142, ln_142, fi_123_40, kd_143, ln_143, kd_123, ↓reduceIte, gd_t, hK_p, hN_p, hF_p, hI_p, hJ_p, hR_p, stI_p, stJ_p, stR_p, stA_p, va_rf_s, va_rf_n, clr_i, clr_l, clr_r, clr_n, clr_o, w8_0, w8_1i, w8_1r, w8_2ii, w8_2ri, w8_2ir, w8_2rr, w8_3, beq_self_eq_true, Bool.and_self, Bool.and_true, Bool.true_and, decide_true, Option.toList_some, Option.toList_none, List.cons_append, List.nil_append, Option.bind_some, if_true, if_false, Nat.reduceLeDiff, Nat.reduceLT, Nat.reduceBEq, Bool.or_false, Bool.false_or, Bool.or_true, Bool.true_or, g1, isk_m, b9, b10, wro_m, z01, not_true_eq_false]
/-- all that both have read -/
def waR (X Y : Mem) (s : Nat) : Prop := X 56 5 = Y 123 22 ∧ X s 12 = Y 123 21 ∧ inN (X s 12) 0 99
def rdR (X Y : Mem) (s b n m fL lL fG lG : Nat) : Prop := bmR X Y s b ∧ ckR X Y s b n ∧ waR X Y s ∧ myR X Y s b m ∧ lsR X Y s fL lL fG lG
theorem bmR_fr {X' Y' : Mem} (h : bmR X Y s b) (o1 : ∀ c, s + 1 ≤ c → c ≤ s + 4 → X' c = X c) (o2 : ∀ c, 126 ≤ c → c ≤ 128 → Y' c = Y c) (o3 : Y' 123 17 = Y 123 17) : bmR X' Y' s b := by
  unfold bmR nmR at h ⊢
  rw [o1 (s + 1) (by omega) (by omega), o1 (s + 1 + 1) (by omega) (by omega), o1 (s + 3) (by omega) (by omega), o1 (s + 4) (by omega) (by omega), o2 126 (by omega) (by omega), o2 127 (by omega) (by omega), o2 128 (by omega) (by omega), o3]
  exact h
theorem ckR_fr {X' Y' : Mem} {b' : Nat} (h : ckR X Y s b n) (hb : b ≤ b') (o1 : ∀ c, s + 5 ≤ c → c ≤ s + 14 → X' c = X c) (o2 : ∀ c, 129 ≤ c → c ≤ 137 → Y' c = Y c) (o3 : Y' 123 18 = Y 123 18) : ckR X' Y' s b' n := by
  unfold ckR nmR exR at h ⊢
  rw [o1 (s + 5) (by omega) (by omega), o1 (s + 5 + 1) (by omega) (by omega), o1 (s + 7) (by omega) (by omega), o1 (s + 8) (by omega) (by omega), o1 (s + 9) (by omega) (by omega), o1 (s + 10) (by omega) (by omega), o1 (s + 11) (by omega) (by omega), o1 (s + 12) (by omega) (by omega), o1 (s + 13) (by omega) (by omega), o1 (s + 14) (by omega) (by omega), o2 129 (by omega) (by omega), o2 130 (by omega) (by omega), o2 131 (by omega) (by omega), o2 132 (by omega) (by omega), o2 133 (by omega) (by omega), o2 134 (by omega) (by omega), o2 135 (by omega) (by omega), o2 136 (by omega) (by omega), o2 137 (by omega) (by omega), o3]
  obtain ⟨h1, h2, h3, h4, h5⟩ := h
  refine ⟨h1, h2, h3, fun i hi => ?_, h5⟩
  obtain ⟨⟨r1, x, r2, r3⟩, r4⟩ := h4 i hi
  exact ⟨⟨r1, x, by omega, r3⟩, r4⟩
theorem myR_fr {X' Y' : Mem} {b' : Nat} (h : myR X Y s b m) (hb : b ≤ b') (o1 : ∀ c, s + 15 ≤ c → c ≤ s + 18 → X' c = X c) (o2 : ∀ c, 138 ≤ c → c ≤ 140 → Y' c = Y c) (o3 : Y' 123 19 = Y 123 19) : myR X' Y' s b' m := by
  unfold myR nmR myE at h ⊢
  rw [o1 (s + 15) (by omega) (by omega), o1 (s + 15 + 1) (by omega) (by omega), o1 (s + 17) (by omega) (by omega), o1 (s + 18) (by omega) (by omega), o2 138 (by omega) (by omega), o2 139 (by omega) (by omega), o2 140 (by omega) (by omega), o3]
  obtain ⟨h1, h2, h3, h4, h5⟩ := h
  refine ⟨h1, h2, h3, fun j hj => ⟨(h4 j hj).1, (h4 j hj).2.imp id (fun q => ?_)⟩, h5⟩
  obtain ⟨⟨x, r2, r3⟩, r4⟩ := q
  exact ⟨⟨x, by omega, r3⟩, r4⟩
theorem waR_fr {X' Y' : Mem} (h : waR X Y s) (o1 : X' 56 5 = X 56 5) (o2 : X' s 12 = X s 12) (o3 : ∀ k, k = 21 ∨ k = 22 → Y' 123 k = Y 123 k) : waR X' Y' s := by
  unfold waR at h ⊢
  rw [o1, o2, o3 21 (by omega), o3 22 (by omega)]
  exact h
/-- behind a line: its end -/
theorem tal_p {d k : Nat} {X0 Y0 : Mem} {l1 l2 l3 l4 : Option Value} (hP : psR X Y L u p) (h4 : X 56 4 = nI k) (hk : k < 2 ^ 20) (fc : fC s X0 X) (fm : fM Y0 Y) :
    (∃ X' Y', E (C (d + 7)) MX7_reads 183 [some (.ref 56), l1, l2, l3, l4] [] (hp X J R) = some (some (.int 0), hp X' J R) ∧ E (C (d + 6)) MX12_lineRead 132 [some (.ref 123), some (.int 1)] [] (hp Y J2 R2) = some (some (.int 0), hp Y' J2 R2) ∧ faR X' Y' ∧ fC s X0 X' ∧ fM Y0 Y') ∨
    (∃ X' Y' p', E (C (d + 7)) MX7_reads 183 [some (.ref 56), l1, l2, l3, l4] [] (hp X J R) = E (C (d + 7)) MX7_reads 217 [some (.ref 56), l1, l2, l3, l4] [] (hp X' J R) ∧ E (C (d + 6)) MX12_lineRead 132 [some (.ref 123), some (.int 1)] [] (hp Y J2 R2) = some (some (.int 1), hp Y' J2 R2) ∧ psR X' Y' L u p' ∧ (X' 57 4 = 0 ∨ p < p') ∧ X' 56 4 = nI (k + 1) ∧ (∀ c, c ≠ 56 → c ≠ 57 → X' c = X c) ∧ (∀ k, k ≠ 4 → X' 56 k = X 56 k) ∧ (∀ c, c ≠ 123 → Y' c = Y c) ∧ (∀ k, k < 7 ∨ 10 < k → Y' 123 k = Y 123 k) ∧ fC s X0 X' ∧ fM Y0 Y') := by
  have n1 : ¬ (1 : Int32) = 0 := by decide
  obtain ⟨pl, hS⟩ : ∃ pl, tkS X Y L p pl := hP.2
  obtain ⟨v1, v2, v3, v4, v5⟩ := TR_sg hS.2.2.2.2.2.2
  by_cases z4 : X 57 4 = 4
  · have b : bi (Y 123 8 = 4 ∧ Y 123 9 = 59) = 1 := if_pos (v5.mp z4)
    have z4' := eq_true z4
    obtain ⟨X1, Y1, p1, e1, g1, s1, pr, l1, o1, m1, m1'⟩ := nxt_p (d := d + 3) (J := J) (J2 := J2) (R := R) (R2 := R2) hP
    have e1 := C_up _ _ _ _ _ e1
    obtain ⟨fc1, fm1⟩ := nxt_fr (s := s) o1 m1 m1'
    have h41 : X1 56 4 = nI k := by rw [o1 56 (by decide)]; exact h4
    refine Or.inr ⟨va_up X1 56 (upd (X1 56) 4 (nI (k + 1))), Y1, p1, ?_, ?_, psR_c s1 (fun a ha => up_n (by omega)) (fun k hk => by rw [up_s, pk_un (by omega)]), by rw [up_n (by decide)]; exact pr, by rw [up_s, pk_us], fun c h1 h2 => by rw [up_n h1, o1 c h2], fun k hk => by rw [up_s, pk_un hk, o1 56 (by decide)], m1, m1', (fc.tr fc1).tr (fun a _ h2 _ _ => up_n h2), fm.tr fm1⟩
    · simp (disch := omega) only [xX7_reads_183, xX7_reads_184, xX7_reads_187, xX7_reads_190, xX7_reads_191, xX7_reads_194, xX7_reads_195, xX7_reads_196, xX7_reads_199, xX7_reads_200, xX7_reads_201, xX7_reads_204, xX7_reads_207, xX7_reads_208, xX7_reads_208I, xX7_reads_209, xX7_reads_212, xX7_reads_213, xX7_reads_214, kd_56, fi_56_0, kd_57, kd_56, kd_57, ↓reduceIte, gd_t, hK_p, hN_p, hF_p, hI_p, hJ_p, hR_p, stI_p, stJ_p, stR_p, stA_p, va_rf_s, va_rf_n, clr_i, clr_l, clr_r, clr_n, clr_o, w8_0, w8_1i, w8_1r, w8_2ii, w8_2ri, w8_2ir, w8_2rr, w8_3, beq_self_eq_true, Bool.and_self, Bool.and_true, Bool.true_and, decide_true, Option.toList_some, Option.toList_none, List.cons_append, List.nil_append, Option.bind_some, if_true, if_false, Nat.reduceLeDiff, Nat.reduceLT, Nat.reduceBEq, Bool.or_false, Bool.false_or, Bool.or_true, Bool.true_or, z4', e1, h41, nI_1]
    · simp (disch := omega) only [xX12_lineRead_132, xX12_lineRead_133, xX12_lineRead_135, xX12_lineRead_138, xX12_lineRead_141, xX12_lineRead_142, xX12_lineRead_143, xX12_lineRead_146, xX12_lineRead_147, xX12_lineRead_148, xX12_lineRead_151, xX12_lineRead_152, kd_123, kd_123, ↓reduceIte, gd_t, hK_p, hN_p, hF_p, hI_p, hJ_p, hR_p, stI_p, stJ_p, stR_p, stA_p, va_rf_s, va_rf_n, clr_i, clr_l, clr_r, clr_n, clr_o, w8_0, w8_1i, w8_1r, w8_2ii, w8_2ri, w8_2ir, w8_2rr, w8_3, beq_self_eq_true, Bool.and_self, Bool.and_true, Bool.true_and, decide_true, Option.toList_some, Option.toList_none, List.cons_append, List.nil_append, Option.bind_some, if_true, if_false, Nat.reduceLeDiff, Nat.reduceLT, Nat.reduceBEq, Bool.or_false, Bool.false_or, Bool.or_true, Bool.true_or, isg_m, b, g1, n1, z11, not_true_eq_false, not_false_eq_true]
  · have b : bi (Y 123 8 = 4 ∧ Y 123 9 = 59) = 0 := if_neg (fun q => z4 (v5.mpr q))
    obtain ⟨f1, f2, f3⟩ := ref_p (k := 1) hP
    refine Or.inl ⟨_, _, ?_, ?_, f1, fc.tr f2.fc, fm.tr f3.fm⟩
    · simp (disch := omega) only [xX7_reads_183, xX7_reads_184, xX7_reads_187, xX7_reads_190, xX7_reads_191, xX7_reads_194, xX7_reads_195, xX7_reads_196, xX7_reads_199, kd_56, fi_56_0, kd_57, kd_56, kd_57, ↓reduceIte, gd_t, hK_p, hN_p, hF_p, hI_p, hJ_p, hR_p, stI_p, stJ_p, stR_p, stA_p, va_rf_s, va_rf_n, clr_i, clr_l, clr_r, clr_n, clr_o, w8_0, w8_1i, w8_1r, w8_2ii, w8_2ri, w8_2ir, w8_2rr, w8_3, beq_self_eq_true, Bool.and_self, Bool.and_true, Bool.true_and, decide_true, Option.toList_some, Option.toList_none, List.cons_append, List.nil_append, Option.bind_some, if_true, if_false, Nat.reduceLeDiff, Nat.reduceLT, Nat.reduceBEq, Bool.or_false, Bool.false_or, Bool.or_true, Bool.true_or, z4, ref_c, z01, not_false_eq_true]
    · simp (disch := omega) only [xX12_lineRead_132, xX12_lineRead_133, xX12_lineRead_135, xX12_lineRead_138, xX12_lineRead_141, xX12_lineRead_142, xX12_lineRead_143, xX12_lineRead_146, xX12_lineRead_147, xX12_lineRead_148, xX12_lineRead_151, xX12_lineRead_152, kd_123, kd_123, ↓reduceIte, gd_t, hK_p, hN_p, hF_p, hI_p, hJ_p, hR_p, stI_p, stJ_p, stR_p, stA_p, va_rf_s, va_rf_n, clr_i, clr_l, clr_r, clr_n, clr_o, w8_0, w8_1i, w8_1r, w8_2ii, w8_2ri, w8_2ir, w8_2rr, w8_3, beq_self_eq_true, Bool.and_self, Bool.and_true, Bool.true_and, decide_true, Option.toList_some, Option.toList_none, List.cons_append, List.nil_append, Option.bind_some, if_true, if_false, Nat.reduceLeDiff, Nat.reduceLT, Nat.reduceBEq, Bool.or_false, Bool.false_or, Bool.or_true, Bool.true_or, isg_m, b, wro_m, z01, not_true_eq_false, not_false_eq_true]
end LA

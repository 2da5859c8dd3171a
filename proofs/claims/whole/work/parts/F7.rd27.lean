-- TEXT, 34: all lines, both
theorem end_key : ∀ k, k < 21 → ¬ nI (17 + kcL.getD k 0) = 0 := by decide +kernel
theorem TR_end {kc nc lc km wm : Int32} (h : TR kc nc lc km wm) : kc = 0 ↔ km = 0 := by
  rcases h with ⟨rfl, rfl⟩ | ⟨rfl, h⟩ | ⟨rfl, rfl, h⟩ | ⟨rfl, rfl, h⟩ | ⟨rfl, h⟩ | ⟨rfl, c, hc, rfl, rfl⟩ | ⟨rfl, j, hj, rfl, rfl⟩
  · exact ⟨fun _ => rfl, fun _ => rfl⟩
  · rcases h with rfl | ⟨rfl, rfl⟩ <;> decide
  · decide
  · decide
  · rcases h with ⟨rfl, rfl⟩ | ⟨rfl, rfl⟩ | ⟨rfl, rfl⟩ | ⟨rfl, rfl⟩ | ⟨rfl, rfl⟩ | ⟨rfl, rfl⟩ | ⟨rfl, rfl⟩ <;> decide
  · exact ⟨fun q => absurd ((nI_eq (b := 0) (by omega) (by omega)).mp q) (by omega), fun q => absurd q (by decide)⟩
  · exact ⟨fun q => absurd q (end_key j hj), fun q => absurd q (by decide)⟩
section LO
variable {J J2 : MemL} {R R2 : MemR} {L s : Nat} {u : Nat → Nat}
theorem lop_p {d : Nat} {l1 : Option Value} {x2 x1 : Int32} (ht : isTe s) (hR : R 56 1 = some s) : ∀ (r i : Nat) (X Y : Mem) (p b n m fL lL fG lG : Nat) (l4 : Option Value), i + r = 700 → (X 57 4 = 0 ∨ i < p) → psR X Y L u p → rdR X Y s b n m fL lL fG lG → X 56 4 = nI i →
    (∃ X' Y', E (C (d + 7)) MX7_reads 47 [some (.ref 56), l1, some (.int x2), some (.int (nI i)), l4] [] (hp X J R) = some (some (.int 0), hp X' J R) ∧ E (C (d + 7)) MX12_text 55 [some (.ref 123), some (.int x1), some (.int (nI i))] [] (hp Y J2 R2) = some (some (.int (-1)), hp Y' J2 R2) ∧ faR X' Y' ∧ fC s X X' ∧ fM Y Y') ∨
    (∃ X' Y' b n m fL lL fG lG k, E (C (d + 7)) MX7_reads 47 [some (.ref 56), l1, some (.int x2), some (.int (nI i)), l4] [] (hp X J R) = some (some (.int 1), hp X' J R) ∧ E (C (d + 7)) MX12_text 55 [some (.ref 123), some (.int x1), some (.int (nI i))] [] (hp Y J2 R2) = E (C (d + 7)) MX12_text 77 [some (.ref 123), some (.int x1), some (.int (nI k))] [] (hp Y' J2 R2) ∧ rdR X' Y' s b n m fL lL fG lG ∧ X' 56 4 = nI k ∧ faR X' Y' ∧ fC s X X' ∧ fM Y Y') := by
  have n1 : ¬ (1 : Int32) = 0 := by decide
  intro r
  induction r using Nat.strongRecOn with
  | _ r ih =>
    intro i X Y p b n m fL lL fG lG l4 hi hip hP hr h4
    obtain ⟨pl, hS⟩ : ∃ pl, tkS X Y L p pl := hP.2
    have hpL := hS.2.2.1
    have hL := hP.1.1.1.1
    have hend := TR_end hS.2.2.2.2.2.2
    have c0 : ¬ 700 < nI i := fun q => absurd ((nI_ltI (a := 700) (b := i) (by omega) (by omega)).mp q) (by omega)
    by_cases z0 : X 57 4 = 0
    · have y0 := hend.mp z0
      refine Or.inr ⟨X, Y, b, n, m, fL, lL, fG, lG, i, ?_, ?_, hr, h4, hP.1.2, fC.rf, fM.rf⟩
      · rw [xX7_reads_47]
        simp (disch := omega) only [xX7_reads_48, xX7_reads_51, xX7_reads_54, xX7_reads_55, xX7_reads_58, xX7_reads_61, kd_56, fi_56_0, kd_57, xX7_reads_223, xX7_reads_224, kd_56, ↓reduceIte, gd_t, hK_p, hN_p, hF_p, hI_p, hJ_p, hR_p, stI_p, stJ_p, stR_p, stA_p, va_rf_s, va_rf_n, clr_i, clr_l, clr_r, clr_n, clr_o, w8_0, w8_1i, w8_1r, w8_2ii, w8_2ri, w8_2ir, w8_2rr, w8_3, beq_self_eq_true, Bool.and_self, Bool.and_true, Bool.true_and, decide_true, Option.toList_some, Option.toList_none, List.cons_append, List.nil_append, Option.bind_some, if_true, if_false, Nat.reduceLeDiff, Nat.reduceLT, Nat.reduceBEq, Bool.or_false, Bool.false_or, Bool.or_true, Bool.true_or, c0, z0, z11]
      · rw [xX12_text_55]
        simp (disch := omega) only [xX12_text_56, xX12_text_59, kd_123, kd_123, ↓reduceIte, gd_t, hK_p, hN_p, hF_p, hI_p, hJ_p, hR_p, stI_p, stJ_p, stR_p, stA_p, va_rf_s, va_rf_n, clr_i, clr_l, clr_r, clr_n, clr_o, w8_0, w8_1i, w8_1r, w8_2ii, w8_2ri, w8_2ir, w8_2rr, w8_3, beq_self_eq_true, Bool.and_self, Bool.and_true, Bool.true_and, decide_true, Option.toList_some, Option.toList_none, List.cons_append, List.nil_append, Option.bind_some, if_true, if_false, Nat.reduceLeDiff, Nat.reduceLT, Nat.reduceBEq, Bool.or_false, Bool.false_or, Bool.or_true, Bool.true_or, y0]
    · have y0 : ¬ Y 123 8 = 0 := fun q => z0 (hend.mpr q)
      have hip' := hip.resolve_left z0
      have e64 : E (C (d + 7)) MX7_reads 47 [some (.ref 56), l1, some (.int x2), some (.int (nI i)), l4] [] (hp X J R) = E (C (d + 7)) MX7_reads 64 [some (.ref 56), l1, some (.int x2), some (.int (nI i)), l4] [] (hp X J R) := by
        rw [xX7_reads_47]
        simp (disch := omega) only [xX7_reads_48, xX7_reads_51, xX7_reads_54, xX7_reads_55, xX7_reads_58, xX7_reads_61, kd_56, fi_56_0, kd_57, kd_56, ↓reduceIte, gd_t, hK_p, hN_p, hF_p, hI_p, hJ_p, hR_p, stI_p, stJ_p, stR_p, stA_p, va_rf_s, va_rf_n, clr_i, clr_l, clr_r, clr_n, clr_o, w8_0, w8_1i, w8_1r, w8_2ii, w8_2ri, w8_2ir, w8_2rr, w8_3, beq_self_eq_true, Bool.and_self, Bool.and_true, Bool.true_and, decide_true, Option.toList_some, Option.toList_none, List.cons_append, List.nil_append, Option.bind_some, if_true, if_false, Nat.reduceLeDiff, Nat.reduceLT, Nat.reduceBEq, Bool.or_false, Bool.false_or, Bool.or_true, Bool.true_or, c0, z0]
      rcases lin_p (d := d) (J := J) (J2 := J2) (R := R) (R2 := R2) (k := i) (l1 := l1) (l2 := some (.int x2)) (l4 := l4) (x3 := nI i) hP ht hR hr h4 (by omega) with ⟨X1, Y1, e1, g1, f1, f2, f3⟩ | ⟨X1, Y1, p1, b1, n1', m1', fL1, lL1, fG1, lG1, e1, g1, s1, pr, h41, hr1, f2, f3⟩
      · refine Or.inl ⟨X1, Y1, e64.trans e1, ?_, f1, f2, f3⟩
        rw [xX12_text_55]
        simp (disch := omega) only [xX12_text_56, xX12_text_59, xX12_text_62, xX12_text_63, xX12_text_66, xX12_text_69, xX12_text_70, kd_123, kd_123, ↓reduceIte, gd_t, hK_p, hN_p, hF_p, hI_p, hJ_p, hR_p, stI_p, stJ_p, stR_p, stA_p, va_rf_s, va_rf_n, clr_i, clr_l, clr_r, clr_n, clr_o, w8_0, w8_1i, w8_1r, w8_2ii, w8_2ri, w8_2ir, w8_2rr, w8_3, beq_self_eq_true, Bool.and_self, Bool.and_true, Bool.true_and, decide_true, Option.toList_some, Option.toList_none, List.cons_append, List.nil_append, Option.bind_some, if_true, if_false, Nat.reduceLeDiff, Nat.reduceLT, Nat.reduceBEq, Bool.or_false, Bool.false_or, Bool.or_true, Bool.true_or, y0, g1, not_true_eq_false]
      · have ec : E (C (d + 7)) MX7_reads 47 [some (.ref 56), l1, some (.int x2), some (.int (nI i)), l4] [] (hp X J R) = E (C (d + 7)) MX7_reads 47 [some (.ref 56), l1, some (.int x2), some (.int (nI (i + 1))), some (.int 1)] [] (hp X1 J R) := by
          rw [e64, e1]
          simp (disch := omega) only [xX7_reads_217, xX7_reads_220, ↓reduceIte, gd_t, hK_p, hN_p, hF_p, hI_p, hJ_p, hR_p, stI_p, stJ_p, stR_p, stA_p, va_rf_s, va_rf_n, clr_i, clr_l, clr_r, clr_n, clr_o, w8_0, w8_1i, w8_1r, w8_2ii, w8_2ri, w8_2ir, w8_2rr, w8_3, beq_self_eq_true, Bool.and_self, Bool.and_true, Bool.true_and, decide_true, Option.toList_some, Option.toList_none, List.cons_append, List.nil_append, Option.bind_some, if_true, if_false, Nat.reduceLeDiff, Nat.reduceLT, Nat.reduceBEq, Bool.or_false, Bool.false_or, Bool.or_true, Bool.true_or, nI_1]
        have em : E (C (d + 7)) MX12_text 55 [some (.ref 123), some (.int x1), some (.int (nI i))] [] (hp Y J2 R2) = E (C (d + 7)) MX12_text 55 [some (.ref 123), some (.int x1), some (.int (nI (i + 1)))] [] (hp Y1 J2 R2) := by
          rw [xX12_text_55 (h := hp Y J2 R2)]
          simp (disch := omega) only [xX12_text_56, xX12_text_59, xX12_text_62, xX12_text_63, xX12_text_66, xX12_text_69, xX12_text_70, xX12_text_71, xX12_text_74, kd_123, kd_123, ↓reduceIte, gd_t, hK_p, hN_p, hF_p, hI_p, hJ_p, hR_p, stI_p, stJ_p, stR_p, stA_p, va_rf_s, va_rf_n, clr_i, clr_l, clr_r, clr_n, clr_o, w8_0, w8_1i, w8_1r, w8_2ii, w8_2ri, w8_2ir, w8_2rr, w8_3, beq_self_eq_true, Bool.and_self, Bool.and_true, Bool.true_and, decide_true, Option.toList_some, Option.toList_none, List.cons_append, List.nil_append, Option.bind_some, if_true, if_false, Nat.reduceLeDiff, Nat.reduceLT, Nat.reduceBEq, Bool.or_false, Bool.false_or, Bool.or_true, Bool.true_or, y0, g1, n1, nI_1, not_false_eq_true]
        rw [ec, em]
        rcases ih (r - 1) (by omega) (i + 1) X1 Y1 p1 b1 n1' m1' fL1 lL1 fG1 lG1 (some (.int 1)) (by omega) (pr.imp id (fun q => by omega)) s1 hr1 h41 with ⟨X', Y', z1, z2, z3, z4, z5⟩ | ⟨X', Y', b', n', m', fL', lL', fG', lG', k, z1, z2, z3, z4, z5, z6, z7⟩
        · exact Or.inl ⟨X', Y', z1, z2, z3, f2.tr z4, f3.tr z5⟩
        · exact Or.inr ⟨X', Y', b', n', m', fL', lL', fG', lG', k, z1, z2, z3, z4, z5, f2.tr z6, f3.tr z7⟩
theorem rds_p {d : Nat} {X Y : Mem} {x1 : Int32} (ht : isTe s) (htp : tpR X Y L u) (hlg : ∀ k, k < 21 → X 58 k = nI (lngL.getD k 0)) (hwd : ∀ k, k < 107 → Y 125 k = nI (wrdL.getD k 0)) (y6 : Y 123 6 = nI L) (y7 : Y 123 7 = 0) (y4 : Y 123 4 = 0) (y5 : Y 123 5 = -1) :
    (∃ X' Y', C (d + 8) MX7_reads [.ref 56, .ref s, .int (nI L)] (hp X J R) = some (some (.int 0), hp X' J (va_up R 56 (va_up (R 56) 1 (some s)))) ∧ E (C (d + 7)) MX12_text 45 [some (.ref 123), some (.int x1), none] [] (hp Y J2 R2) = some (some (.int (-1)), hp Y' J2 R2) ∧ faR X' Y' ∧ fC s X X' ∧ fM Y Y') ∨
    (∃ X' Y' b n m fL lL fG lG k, C (d + 8) MX7_reads [.ref 56, .ref s, .int (nI L)] (hp X J R) = some (some (.int 1), hp X' J (va_up R 56 (va_up (R 56) 1 (some s)))) ∧ E (C (d + 7)) MX12_text 45 [some (.ref 123), some (.int x1), none] [] (hp Y J2 R2) = E (C (d + 7)) MX12_text 77 [some (.ref 123), some (.int x1), some (.int (nI k))] [] (hp Y' J2 R2) ∧ rdR X' Y' s b n m fL lL fG lG ∧ X' 56 4 = nI k ∧ faR X' Y' ∧ fC s X X' ∧ fM Y Y') := by
  have ht2 := te_hi ht
  have hL := htp.1
  generalize hR1 : va_up R 56 (va_up (R 56) 1 (some s)) = R1
  have r1 : R1 56 1 = some s := by rw [← hR1, up_s, up_s]
  obtain ⟨X1, e1, c1, c2, c3, c4, ⟨c5, c5'⟩, ⟨c6, c6'⟩, c7, c8, c9⟩ := clr_c (d := d + 5) (X := X) (J := J) (R := R1) ht
  generalize hX2 : va_up X1 56 (upd (upd (upd (upd (upd (X1 56) 2 0) 3 (-1)) 4 0) 5 0) 7 0) = X2
  have x2o : ∀ a, a ≠ 56 → X2 a = X1 a := fun a ha => by rw [← hX2, up_n ha]
  generalize hX3 : va_up X2 57 (upd (upd (X2 57) 2 (nI L)) 3 0) = X3
  have x3o : ∀ a, a ≠ 57 → X3 a = X2 a := fun a ha => by rw [← hX3, up_n ha]
  generalize hY1 : plnM Y = Y1
  have y1o : ∀ a, a ≠ 123 → a ≠ 141 → Y1 a = Y a := fun a h1 h2 => by rw [← hY1]; unfold plnM; rw [up_n h2, up_n h1]
  have y1k : ∀ k, k < 17 ∨ (22 < k ∧ k ≠ 49) → Y1 123 k = Y 123 k := fun k hk => by
    rw [← hY1]
    unfold plnM
    rw [up_n (by decide), up_s, pk_un (by omega), pk_un (by omega), pk_un (by omega), pk_un (by omega), pk_un (by omega), pk_un (by omega), pk_un (by omega)]
  have y1z : ∀ k, (17 ≤ k ∧ k ≤ 22) ∨ k = 49 → Y1 123 k = 0 := fun k hk => by
    rw [← hY1]
    unfold plnM
    rw [up_n (by decide), up_s]
    rcases (show k = 17 ∨ k = 18 ∨ k = 19 ∨ k = 20 ∨ k = 21 ∨ k = 22 ∨ k = 49 by omega) with rfl | rfl | rfl | rfl | rfl | rfl | rfl <;> rfl
  have y141 : Y1 141 = upd (upd (Y 141) 2 0) 3 0 := by rw [← hY1]; unfold plnM; rw [up_s]
  have htk : tkB X3 Y1 L u := by
    refine ⟨⟨hL, fun k hk => ?_⟩, by rw [← hX3, up_s, pk_un (by decide), pk_us], by rw [y1k 6 (by omega)]; exact y6, fun k hk => ?_, fun k hk => ?_⟩
    · rw [x3o 1 (by decide), x2o 1 (by decide), c9 1 (by omega), y1o 124 (by decide) (by decide)]; exact htp.2 k hk
    · rw [x3o 58 (by decide), x2o 58 (by decide), c9 58 (by omega)]; exact hlg k hk
    · rw [y1o 125 (by decide) (by decide)]; exact hwd k hk
  obtain ⟨X4, Y2, p4, pl4, e4, g4, hS4, pr4, -, q1, q2, q3, q4⟩ := tok_p (d := d + 3) (p := 0) (J := J) (J2 := J2) (R := R1) (R2 := R2) htk (by rw [← hX3, up_s, pk_us]; rfl) (by rw [y1k 7 (by omega), y7]; rfl) (by omega)
  have g4 := C_up _ _ _ _ _ g4
  have x56 : ∀ k, X4 56 k = X2 56 k := fun k => by rw [q1 56 (by decide), x3o 56 (by decide)]
  have x4o : ∀ c, c ≠ 56 → c ≠ 57 → X4 c = X1 c := fun c h1 h2 => by rw [q1 c h2, x3o c h2, x2o c h1]
  have hfa : faR X4 Y2 := by
    refine ⟨?_, ?_⟩
    · rw [x56, ← hX2, up_s, pk_un (by decide), pk_un (by decide), pk_un (by decide), pk_un (by decide), pk_us, q4 4 (by decide) (by decide) (by decide) (by decide), y1k 4 (by omega), y4]
    · rw [x56, ← hX2, up_s, pk_un (by decide), pk_un (by decide), pk_un (by decide), pk_us, q4 5 (by decide) (by decide) (by decide) (by decide), y1k 5 (by omega), y5]
  have hP : psR X4 Y2 L u p4 := by
    obtain ⟨⟨b1, b2⟩, b3, b4, b5, b6⟩ := htk
    refine ⟨⟨⟨⟨b1, fun k hk => ?_⟩, q2.trans b3, (q4 6 (by decide) (by decide) (by decide) (by decide)).trans b4, fun k hk => ?_, fun k hk => ?_⟩, hfa⟩, pl4, hS4⟩
    · rw [q1 1 (by decide), q3 124 (by decide)]; exact b2 k hk
    · rw [q1 58 (by decide)]; exact b5 k hk
    · rw [q3 125 (by decide)]; exact b6 k hk
  have y2z : ∀ k, (17 ≤ k ∧ k ≤ 22) ∨ k = 49 → Y2 123 k = nI 0 := fun k hk => by rw [q4 k (by omega) (by omega) (by omega) (by omega)]; exact y1z k hk
  have y2o : ∀ a, a ≠ 123 → a ≠ 141 → Y2 a = Y a := fun a h1 h2 => by rw [q3 a h1, y1o a h1 h2]
  have y2t : Y2 141 = upd (upd (Y 141) 2 0) 3 0 := by rw [q3 141 (by decide), y141]
  have hr : rdR X4 Y2 s 0 0 0 0 0 0 0 := by
    refine ⟨⟨⟨by rw [x4o _ (by omega) (by omega)]; exact c1, fun i hi => absurd hi (by omega)⟩, y2z 17 (by omega), by omega, fun i hi => absurd hi (by omega)⟩, ⟨⟨by rw [x4o _ (by omega) (by omega)]; exact c2, fun i hi => absurd hi (by omega)⟩, y2z 18 (by omega), by omega, fun i hi => absurd hi (by omega), fun i _ hi => ?_⟩, ⟨?_, ?_, ?_⟩, ⟨⟨by rw [x4o _ (by omega) (by omega)]; exact c3, fun i hi => absurd hi (by omega)⟩, y2z 19 (by omega), by omega, fun j hj => absurd hj (by omega), fun j _ hj => by rw [x4o _ (by omega) (by omega)]; exact c8 j hj⟩, ⟨⟨?_, ?_⟩, ?_, fun _ => rfl, Or.inl ?_⟩, ⟨⟨?_, ?_⟩, ?_, fun _ => rfl, Or.inl ?_⟩, y2z 20 (by omega), ?_, y2z 49 (by omega), by omega⟩
    · rw [x4o (s + 7) (by omega) (by omega), x4o (s + 11) (by omega) (by omega), x4o (s + 12) (by omega) (by omega), x4o (s + 13) (by omega) (by omega), x4o (s + 14) (by omega) (by omega)]; exact c7 i hi
    · rw [x56, ← hX2, up_s, pk_un (by decide), pk_us, y2z 22 (by omega)]; rfl
    · rw [x4o _ (by omega) (by omega), c4, y2z 21 (by omega)]; rfl
    · rw [x4o _ (by omega) (by omega), c4]; exact ⟨0, by omega, by omega, rfl⟩
    · rw [x4o _ (by omega) (by omega), c5, y2t, pk_un (by decide), pk_us]
    · rw [x4o _ (by omega) (by omega), c5]; exact Or.inl rfl
    · rw [x4o _ (by omega) (by omega), c5']; rfl
    · rw [x4o _ (by omega) (by omega), c5]
    · rw [x4o _ (by omega) (by omega), c6, y2t, pk_us]
    · rw [x4o _ (by omega) (by omega), c6]; exact Or.inl rfl
    · rw [x4o _ (by omega) (by omega), c6']; rfl
    · rw [x4o _ (by omega) (by omega), c6]
    · rw [x56, ← hX2, up_s, pk_us]; rfl
  have fc4 : fC s X X4 := fun a h1 h2 h3 _ => by rw [x4o a h2 h3, c9 a h1]
  have fm2 : fM Y Y2 := ⟨fun a h1 => y2o a (by omega) (by omega), fun a k h1 h2 h3 => by
    by_cases w : a = 141
    · subst w
      have : k < 2 := h3
      rw [y2t, pk_un (by omega), pk_un (by omega)]
    · rw [y2o a (by omega) w], fun k hk => by rw [q4 k (by omega) (by omega) (by omega) (by omega), y1k k (by omega)]⟩
  have h4 : X4 56 4 = nI 0 := by rw [x56, ← hX2, up_s, pk_un (by decide), pk_un (by decide), pk_us]; rfl
  have eb : C (d + 7) MX10_begin [.ref 57, .int (nI L)] (hp X2 J R1) = some (none, hp X4 J R1) := by
    rw [eX10_begin]
    by_cases w : L = 700
    · subst w
      have c0 : nI 700 ≤ nI 700 := Int32.le_refl _
      simp (disch := omega) only [xX10_begin_0, xX10_begin_1, xX10_begin_2, xX10_begin_3, xX10_begin_6, xX10_begin_7, xX10_begin_10, xX10_begin_11, xX10_begin_14, xX10_begin_15, xX10_begin_18, xX10_begin_19, xX10_begin_22, xX10_begin_23, xX10_begin_24, xX10_begin_27, xX10_begin_28, xX10_begin_31, kd_57, fi_57_0, kd_1, ln_1, kd_1, ln_1, kd_57, ↓reduceIte, gd_t, hK_p, hN_p, hF_p, hI_p, hJ_p, hR_p, stI_p, stJ_p, stR_p, stA_p, va_rf_s, va_rf_n, clr_i, clr_l, clr_r, clr_n, clr_o, w8_0, w8_1i, w8_1r, w8_2ii, w8_2ri, w8_2ir, w8_2rr, w8_3, beq_self_eq_true, Bool.and_self, Bool.and_true, Bool.true_and, decide_true, Option.toList_some, Option.toList_none, List.cons_append, List.nil_append, Option.bind_some, if_true, if_false, Nat.reduceLeDiff, Nat.reduceLT, Nat.reduceBEq, Bool.or_false, Bool.false_or, Bool.or_true, Bool.true_or, c0, up_s, bx_uu, hX3, e4]
    · have c0 : ¬ nI 700 ≤ nI L := fun q => absurd ((nI_leI (by omega) (by omega)).mp q) (by omega)
      simp (disch := omega) only [xX10_begin_0, xX10_begin_1, xX10_begin_2, xX10_begin_3, xX10_begin_6, xX10_begin_7, xX10_begin_10, xX10_begin_11, xX10_begin_14, xX10_begin_15, xX10_begin_18, xX10_begin_19, xX10_begin_22, xX10_begin_23, xX10_begin_24, xX10_begin_27, xX10_begin_28, xX10_begin_31, kd_57, fi_57_0, kd_1, ln_1, kd_1, ln_1, kd_57, ↓reduceIte, gd_t, hK_p, hN_p, hF_p, hI_p, hJ_p, hR_p, stI_p, stJ_p, stR_p, stA_p, va_rf_s, va_rf_n, clr_i, clr_l, clr_r, clr_n, clr_o, w8_0, w8_1i, w8_1r, w8_2ii, w8_2ri, w8_2ir, w8_2rr, w8_3, beq_self_eq_true, Bool.and_self, Bool.and_true, Bool.true_and, decide_true, Option.toList_some, Option.toList_none, List.cons_append, List.nil_append, Option.bind_some, if_true, if_false, Nat.reduceLeDiff, Nat.reduceLT, Nat.reduceBEq, Bool.or_false, Bool.false_or, Bool.or_true, Bool.true_or, c0, up_s, bx_uu, hX3, e4]
  have ec : C (d + 8) MX7_reads [.ref 56, .ref s, .int (nI L)] (hp X J R) = E (C (d + 7)) MX7_reads 47 [some (.ref 56), some (.ref s), some (.int (nI L)), some (.int (nI 0)), none] [] (hp X4 J R1) := by
    rw [eX7_reads, show nI 0 = 0 from rfl]
    simp (disch := omega) only [xX7_reads_0, xX7_reads_1, xX7_reads_2, xX7_reads_5, xX7_reads_6, xX7_reads_9, xX7_reads_12, xX7_reads_13, xX7_reads_14, xX7_reads_17, xX7_reads_18, xX7_reads_19, xX7_reads_22, xX7_reads_23, xX7_reads_24, xX7_reads_27, xX7_reads_28, xX7_reads_29, xX7_reads_32, xX7_reads_33, xX7_reads_34, xX7_reads_37, xX7_reads_38, xX7_reads_41, xX7_reads_42, xX7_reads_45, xX7_reads_46, kd_56, fi_56_0, kd_57, kd_56, kd_57, te_k0 ht, ↓reduceIte, gd_t, hK_p, hN_p, hF_p, hI_p, hJ_p, hR_p, stI_p, stJ_p, stR_p, stA_p, va_rf_s, va_rf_n, clr_i, clr_l, clr_r, clr_n, clr_o, w8_0, w8_1i, w8_1r, w8_2ii, w8_2ri, w8_2ir, w8_2rr, w8_3, beq_self_eq_true, Bool.and_self, Bool.and_true, Bool.true_and, decide_true, Option.toList_some, Option.toList_none, List.cons_append, List.nil_append, Option.bind_some, if_true, if_false, Nat.reduceLeDiff, Nat.reduceLT, Nat.reduceBEq, Bool.or_false, Bool.false_or, Bool.or_true, Bool.true_or, hR1, r1, e1, up_s, bx_uu, hX2, eb]
  have em : E (C (d + 7)) MX12_text 45 [some (.ref 123), some (.int x1), none] [] (hp Y J2 R2) = E (C (d + 7)) MX12_text 55 [some (.ref 123), some (.int x1), some (.int (nI 0))] [] (hp Y2 J2 R2) := by
    rw [show nI 0 = 0 from rfl]
    simp (disch := omega) only [xX12_text_45, xX12_text_46, xX12_text_49, xX12_text_50, xX12_text_53, xX12_text_54, kd_123, kd_123, ↓reduceIte, gd_t, hK_p, hN_p, hF_p, hI_p, hJ_p, hR_p, stI_p, stJ_p, stR_p, stA_p, va_rf_s, va_rf_n, clr_i, clr_l, clr_r, clr_n, clr_o, w8_0, w8_1i, w8_1r, w8_2ii, w8_2ri, w8_2ir, w8_2rr, w8_3, beq_self_eq_true, Bool.and_self, Bool.and_true, Bool.true_and, decide_true, Option.toList_some, Option.toList_none, List.cons_append, List.nil_append, Option.bind_some, if_true, if_false, Nat.reduceLeDiff, Nat.reduceLT, Nat.reduceBEq, Bool.or_false, Bool.false_or, Bool.or_true, Bool.true_or, pln_m, hY1, g4]
  rw [ec, em]
  rcases lop_p (d := d) (J := J) (J2 := J2) (R := R1) (R2 := R2) (l1 := some (.ref s)) (x2 := nI L) (x1 := x1) ht r1 700 0 X4 Y2 p4 0 0 0 0 0 0 0 none (by omega) (pr4.imp id (fun q => by omega)) hP hr h4 with ⟨X', Y', z1, z2, z3, z4, z5⟩ | ⟨X', Y', b', n', m', fL', lL', fG', lG', k, z1, z2, z3, z4, z5, z6, z7⟩
  · exact Or.inl ⟨X', Y', z1, z2, z3, fc4.tr z4, fm2.tr z5⟩
  · exact Or.inr ⟨X', Y', b', n', m', fL', lL', fG', lG', k, z1, z2, z3, z4, z5, fc4.tr z6, fm2.tr z7⟩
end LO

-- ORDER, 6: find, the model's search, the pair
/-- what ORDER keeps -/
def cOrd (I : Mem) (t lL lG n : Nat) : Prop := I 117 4 = 0 ∨ (I 117 4 = 1 ∧ ∃ N g w, N ≤ 300 ∧ g ≤ 99 ∧ w ≤ 500 ∧ I 117 5 = nI N ∧ I 117 6 = nI g ∧ I 117 7 = nI w ∧ match ordF n (fsL I t lL lG n N g w) 719 (List.range n) none with
  | none => I 117 3 = -2
  | some (s, bl) => I 117 3 = nI s ∧ s < N ∧ bl.length = n ∧ rowL (I 119) bl)
theorem range_row {n : Nat} {r : Nat → Int32} (h : ∀ i, i < n → r i = nI i) : rowL r (List.range n) := fun i hi => by
  rw [List.length_range] at hi
  rw [h i hi]
  congr 1
  rw [List.getD_eq_getElem?_getD, List.getElem?_range hi]
  rfl
section ORE
variable {I X Q : Mem} {J : MemL} {R R' R1 : MemR} {t t' n nb nm fL lL fG lG st : Nat}
theorem fin_c {d N g w : Nat} (h : cAll I R t t' n nb nm fL lL fG lG st) (hn1 : 1 ≤ n) (hc : cOrd I t lL lG n) (hN1 : 1 ≤ N) (hN : N ≤ 300) (hg : g ≤ 99) (hw : w ≤ 500) : ∃ X1 J1 R1, C (d + 6) MX6_find [.ref 117, .ref 60, .int (nI N), .int (nI g), .int (nI w)] (hp I J R) = some (none, hp X1 J1 R1) ∧ rk R R1 ∧ tkO I X1 ∧ X1 117 4 = 1 ∧ X1 117 5 = nI N ∧ X1 117 6 = nI g ∧ X1 117 7 = nI w ∧ match ordF n (fsL I t lL lG n N g w) 719 (List.range n) none with
    | none => X1 117 3 = -2
    | some (s, bl) => X1 117 3 = nI s ∧ s < N ∧ bl.length = n ∧ rowL (X1 119) bl := by
  have hn6 := h.n6
  have n1 : ¬ (1 : Int32) = 0 := by decide
  have hS : (n - 1) * g ≤ 5 * 99 := Nat.mul_le_mul (by omega) hg
  have hok := okS_all n hn6
  by_cases hit : I 117 4 = 1 ∧ I 117 5 = nI N ∧ I 117 6 = nI g ∧ I 117 7 = nI w
  · obtain ⟨h4, h5, h6, h7⟩ := hit
    rcases hc with h0 | ⟨_, N', g', w', b1, b2, b3, b4, b5, b6, b7⟩
    · rw [h0] at h4; exact absurd h4 (by decide)
    · obtain rfl : N' = N := (nI_eq (by omega) (by omega)).mp (b4.symm.trans h5)
      obtain rfl : g' = g := (nI_eq (by omega) (by omega)).mp (b5.symm.trans h6)
      obtain rfl : w' = w := (nI_eq (by omega) (by omega)).mp (b6.symm.trans h7)
      refine ⟨I, J, R, ?_, rk.rf, fun _ _ => rfl, h4, h5, h6, h7, b7⟩
      rw [eX6_find]
      simp (disch := omega) only [xX6_find_0, xX6_find_1, xX6_find_4, xX6_find_7, xX6_find_8, xX6_find_11, xX6_find_12, xX6_find_15, xX6_find_16, xX6_find_19, xX6_find_20, xX6_find_23, xX6_find_24, xX6_find_27, xX6_find_29, xX6_find_32, kd_117, fi_117_1, kd_118, ln_118, ↓reduceIte, gd_t, hK_p, hN_p, hF_p, hI_p, hJ_p, hR_p, stI_p, stJ_p, stR_p, stA_p, va_rf_s, va_rf_n, clr_i, clr_l, clr_r, clr_n, clr_o, w8_0, w8_1i, w8_1r, w8_2ii, w8_2ri, w8_2ir, w8_2rr, w8_3, beq_self_eq_true, Bool.and_self, Bool.and_true, Bool.true_and, decide_true, Option.toList_some, Option.toList_none, List.cons_append, List.nil_append, Option.bind_some, if_true, if_false, Nat.reduceLeDiff, Nat.reduceLT, Nat.reduceBEq, Bool.or_false, Bool.false_or, Bool.or_true, Bool.true_or, h4, h5, h6, h7, n1, not_true_eq_false]
  · have hmiss : E (C (d + 5)) MX6_find 0 [some (.ref 117), some (.ref 60), some (.int (nI N)), some (.int (nI g)), some (.int (nI w)), none, none, none] [] (hp I J R) = E (C (d + 5)) MX6_find 33 [some (.ref 117), some (.ref 60), some (.int (nI N)), some (.int (nI g)), some (.int (nI w)), none, none, none] [] (hp I J R) := by
      by_cases a1 : I 117 4 = 0
      · simp (disch := omega) only [xX6_find_0, xX6_find_1, xX6_find_4, xX6_find_7, xX6_find_8, xX6_find_11, xX6_find_12, xX6_find_15, xX6_find_16, xX6_find_19, xX6_find_20, xX6_find_23, xX6_find_24, xX6_find_27, xX6_find_29, xX6_find_32, kd_117, fi_117_1, kd_118, ln_118, ↓reduceIte, gd_t, hK_p, hN_p, hF_p, hI_p, hJ_p, hR_p, stI_p, stJ_p, stR_p, stA_p, va_rf_s, va_rf_n, clr_i, clr_l, clr_r, clr_n, clr_o, w8_0, w8_1i, w8_1r, w8_2ii, w8_2ri, w8_2ir, w8_2rr, w8_3, beq_self_eq_true, Bool.and_self, Bool.and_true, Bool.true_and, decide_true, Option.toList_some, Option.toList_none, List.cons_append, List.nil_append, Option.bind_some, if_true, if_false, Nat.reduceLeDiff, Nat.reduceLT, Nat.reduceBEq, Bool.or_false, Bool.false_or, Bool.or_true, Bool.true_or, a1]
      · have a1' : I 117 4 = 1 := by
          rcases hc with h0 | ⟨h0, -⟩
          · exact absurd h0 a1
          · exact h0
        by_cases a2 : I 117 5 = nI N
        · by_cases a3 : I 117 6 = nI g
          · by_cases a4 : I 117 7 = nI w
            · exact absurd ⟨a1', a2, a3, a4⟩ hit
            · simp (disch := omega) only [xX6_find_0, xX6_find_1, xX6_find_4, xX6_find_7, xX6_find_8, xX6_find_11, xX6_find_12, xX6_find_15, xX6_find_16, xX6_find_19, xX6_find_20, xX6_find_23, xX6_find_24, xX6_find_27, xX6_find_29, xX6_find_32, kd_117, fi_117_1, kd_118, ln_118, ↓reduceIte, gd_t, hK_p, hN_p, hF_p, hI_p, hJ_p, hR_p, stI_p, stJ_p, stR_p, stA_p, va_rf_s, va_rf_n, clr_i, clr_l, clr_r, clr_n, clr_o, w8_0, w8_1i, w8_1r, w8_2ii, w8_2ri, w8_2ir, w8_2rr, w8_3, beq_self_eq_true, Bool.and_self, Bool.and_true, Bool.true_and, decide_true, Option.toList_some, Option.toList_none, List.cons_append, List.nil_append, Option.bind_some, if_true, if_false, Nat.reduceLeDiff, Nat.reduceLT, Nat.reduceBEq, Bool.or_false, Bool.false_or, Bool.or_true, Bool.true_or, a1, a2, a3, a4, not_true_eq_false, not_false_eq_true]
          · simp (disch := omega) only [xX6_find_0, xX6_find_1, xX6_find_4, xX6_find_7, xX6_find_8, xX6_find_11, xX6_find_12, xX6_find_15, xX6_find_16, xX6_find_19, xX6_find_20, xX6_find_23, xX6_find_24, xX6_find_27, xX6_find_29, xX6_find_32, kd_117, fi_117_1, kd_118, ln_118, ↓reduceIte, gd_t, hK_p, hN_p, hF_p, hI_p, hJ_p, hR_p, stI_p, stJ_p, stR_p, stA_p, va_rf_s, va_rf_n, clr_i, clr_l, clr_r, clr_n, clr_o, w8_0, w8_1i, w8_1r, w8_2ii, w8_2ri, w8_2ir, w8_2rr, w8_3, beq_self_eq_true, Bool.and_self, Bool.and_true, Bool.true_and, decide_true, Option.toList_some, Option.toList_none, List.cons_append, List.nil_append, Option.bind_some, if_true, if_false, Nat.reduceLeDiff, Nat.reduceLT, Nat.reduceBEq, Bool.or_false, Bool.false_or, Bool.or_true, Bool.true_or, a1, a2, a3, not_true_eq_false, not_false_eq_true]
        · simp (disch := omega) only [xX6_find_0, xX6_find_1, xX6_find_4, xX6_find_7, xX6_find_8, xX6_find_11, xX6_find_12, xX6_find_15, xX6_find_16, xX6_find_19, xX6_find_20, xX6_find_23, xX6_find_24, xX6_find_27, xX6_find_29, xX6_find_32, kd_117, fi_117_1, kd_118, ln_118, ↓reduceIte, gd_t, hK_p, hN_p, hF_p, hI_p, hJ_p, hR_p, stI_p, stJ_p, stR_p, stA_p, va_rf_s, va_rf_n, clr_i, clr_l, clr_r, clr_n, clr_o, w8_0, w8_1i, w8_1r, w8_2ii, w8_2ri, w8_2ir, w8_2rr, w8_3, beq_self_eq_true, Bool.and_self, Bool.and_true, Bool.true_and, decide_true, Option.toList_some, Option.toList_none, List.cons_append, List.nil_append, Option.bind_some, if_true, if_false, Nat.reduceLeDiff, Nat.reduceLT, Nat.reduceBEq, Bool.or_false, Bool.false_or, Bool.or_true, Bool.true_or, a1, a2, not_false_eq_true]
    generalize hO : upd (upd (upd (upd (upd (I 117) 4 1) 5 (nI N)) 6 (nI g)) 7 (nI w)) 3 (-2) = O
    have hl := for_0 (P := fun i (r : Nat → Int32) => E (C (d + 5)) MX6_find 63 [some (.ref 117), some (.ref 60), some (.int (nI N)), some (.int (nI g)), some (.int (nI w)), some (.int (nI i)), none, none] [] (hp (va_up (va_up I 117 O) 118 r) J R)) (fin := fun r => E (C (d + 5)) MX6_find 85 [some (.ref 117), some (.ref 60), some (.int (nI N)), some (.int (nI g)), some (.int (nI w)), some (.int (nI 6)), none, none] [] (hp (va_up (va_up I 117 O) 118 r) J R)) (f := fun i r => upd r i (nI i)) (n := 6) (s := I 118) (by
      intro i r hi
      have c0 : ¬ (6 : Int32) ≤ nI i := fun w => absurd ((nI_leI (a := 6) (by omega) (by omega)).mp w) (by omega)
      rw [xX6_find_63]
      simp (disch := omega) only [xX6_find_65, xX6_find_67, xX6_find_70, xX6_find_71, xX6_find_74, xX6_find_76, xX6_find_78, xX6_find_79, xX6_find_82, kd_117, fi_117_1, kd_118, ln_118, ↓reduceIte, gd_t, hK_p, hN_p, hF_p, hI_p, hJ_p, hR_p, stI_p, stJ_p, stR_p, stA_p, va_rf_s, va_rf_n, clr_i, clr_l, clr_r, clr_n, clr_o, w8_0, w8_1i, w8_1r, w8_2ii, w8_2ri, w8_2ir, w8_2rr, w8_3, beq_self_eq_true, Bool.and_self, Bool.and_true, Bool.true_and, decide_true, Option.toList_some, Option.toList_none, List.cons_append, List.nil_append, Option.bind_some, if_true, if_false, Nat.reduceLeDiff, Nat.reduceLT, Nat.reduceBEq, Bool.or_false, Bool.false_or, Bool.or_true, Bool.true_or, nI_leI, nI_ltI, nI_eq, nI_clamp, inb_n, up_s, up_n, bx_uu, nI_1, ix6, nI_0n, pk_us, pk_un, ge_0n, c0]) (by
      intro r
      have c0 : (6 : Int32) ≤ nI 6 := by decide
      rw [xX6_find_63]
      simp (disch := omega) only [xX6_find_65, xX6_find_67, xX6_find_70, xX6_find_71, xX6_find_74, xX6_find_76, xX6_find_78, xX6_find_79, xX6_find_82, kd_117, fi_117_1, kd_118, ln_118, ↓reduceIte, gd_t, hK_p, hN_p, hF_p, hI_p, hJ_p, hR_p, stI_p, stJ_p, stR_p, stA_p, va_rf_s, va_rf_n, clr_i, clr_l, clr_r, clr_n, clr_o, w8_0, w8_1i, w8_1r, w8_2ii, w8_2ri, w8_2ir, w8_2rr, w8_3, beq_self_eq_true, Bool.and_self, Bool.and_true, Bool.true_and, decide_true, Option.toList_some, Option.toList_none, List.cons_append, List.nil_append, Option.bind_some, if_true, if_false, Nat.reduceLeDiff, Nat.reduceLT, Nat.reduceBEq, Bool.or_false, Bool.false_or, Bool.or_true, Bool.true_or, nI_leI, nI_ltI, nI_eq, nI_clamp, inb_n, up_s, up_n, bx_uu, nI_1, ix6, nI_0n, pk_us, pk_un, ge_0n, c0])
    have e118 : va_up (va_up I 117 O) 118 (I 118) = va_up I 117 O := by
      have : I 118 = va_up I 117 O 118 := (up_n (by decide)).symm
      rw [this, up_self]
    rw [itf_cp (v := fun i => nI i), nI_0, e118] at hl
    generalize hY : va_up (va_up I 117 O) 118 (cpF (fun i => nI i) (I 118) 6) = Y at *
    have y117 : Y 117 = O := by rw [← hY, up_n (by decide), up_s]
    have y60 : Y 60 1 = nI n := by rw [← hY, up_n (by decide), up_n (by decide)]; exact h.now.2.1
    have oY : ordC I Y n N g w none (List.range n) := by
      refine ⟨fun a ha => ?_, ?_, ?_, ?_, ?_, ?_, ?_⟩
      · rw [← hY, up_n (by unfold kpA at ha; omega), up_n (by omega)]
      · rw [y117, ← hO]; simp (disch := omega) only [pk_un, pk_us]
      · rw [y117, ← hO]; simp (disch := omega) only [pk_un, pk_us]
      · rw [y117, ← hO]; simp (disch := omega) only [pk_un, pk_us]
      · rw [y117, ← hO]; simp (disch := omega) only [pk_un, pk_us]
      · refine range_row (fun i hi => ?_)
        rw [← hY, up_s, cpF_at (by omega)]
      · show Y 117 3 = -2
        rw [y117, ← hO, pk_us]
    have en1 : nI n - 1 = nI (n - 1) := nI_m1 hn1
    have eg : nI (n - 1) * nI g = nI ((n - 1) * g) := pk_mul _ _
    have hhead : E (C (d + 5)) MX6_find 33 [some (.ref 117), some (.ref 60), some (.int (nI N)), some (.int (nI g)), some (.int (nI w)), none, none, none] [] (hp I J R) = E (C (d + 5)) MX6_find 85 [some (.ref 117), some (.ref 60), some (.int (nI N)), some (.int (nI g)), some (.int (nI w)), some (.int (nI 6)), none, none] [] (hp Y J R) := by
      rw [← hl]
      simp (disch := omega) only [xX6_find_33, xX6_find_34, xX6_find_35, xX6_find_38, xX6_find_39, xX6_find_40, xX6_find_43, xX6_find_44, xX6_find_45, xX6_find_48, xX6_find_49, xX6_find_51, xX6_find_54, xX6_find_55, xX6_find_57, xX6_find_60, xX6_find_61, kd_117, fi_117_1, kd_118, ln_118, ↓reduceIte, gd_t, hK_p, hN_p, hF_p, hI_p, hJ_p, hR_p, stI_p, stJ_p, stR_p, stA_p, va_rf_s, va_rf_n, clr_i, clr_l, clr_r, clr_n, clr_o, w8_0, w8_1i, w8_1r, w8_2ii, w8_2ri, w8_2ir, w8_2rr, w8_3, beq_self_eq_true, Bool.and_self, Bool.and_true, Bool.true_and, decide_true, Option.toList_some, Option.toList_none, List.cons_append, List.nil_append, Option.bind_some, if_true, if_false, Nat.reduceLeDiff, Nat.reduceLT, Nat.reduceBEq, Bool.or_false, Bool.false_or, Bool.or_true, Bool.true_or, z11, up_s, bx_uu, hO]
    have hB : ∀ l s, goodL n l = true → fsL I t lL lG n N g w l = some s → (n - 1) * g ≤ s := fun l s h1 h2 => fsL_low hn1 hn6 hg h1 h2
    by_cases zS : (n - 1) * g < N
    · have c0 : ¬ N ≤ (n - 1) * g := by omega
      obtain ⟨X1, J1, R1, l1, e1, o1, r1⟩ := fin_l (d := d) h hn1 hN hg 719 0 (List.range n) none Y J R (by omega) hok oY rk.rf
      rw [cls_ord (fun g0 l l' h1 h2 => by rw [g0]; exact fsL_g0 h1 h2) hB 719 (List.range n) none hok] at o1
      rw [nI_0] at e1
      refine ⟨X1, J1, R1, ?_, r1, o1.1, o1.2.2.2.2.1, o1.2.1, o1.2.2.1, o1.2.2.2.1, o1.2.2.2.2.2.2⟩
      rw [eX6_find, hmiss, hhead]
      simp (disch := omega) only [xX6_find_85, xX6_find_86, xX6_find_89, xX6_find_90, xX6_find_91, xX6_find_92, xX6_find_93, xX6_find_95, xX6_find_97, xX6_find_98, xX6_find_101, xX6_find_102, xX6_find_105, xX6_find_106, xX6_find_108, xX6_find_109, kd_60, ↓reduceIte, gd_t, hK_p, hN_p, hF_p, hI_p, hJ_p, hR_p, stI_p, stJ_p, stR_p, stA_p, va_rf_s, va_rf_n, clr_i, clr_l, clr_r, clr_n, clr_o, w8_0, w8_1i, w8_1r, w8_2ii, w8_2ri, w8_2ir, w8_2rr, w8_3, beq_self_eq_true, Bool.and_self, Bool.and_true, Bool.true_and, decide_true, Option.toList_some, Option.toList_none, List.cons_append, List.nil_append, Option.bind_some, if_true, if_false, Nat.reduceLeDiff, Nat.reduceLT, Nat.reduceBEq, Bool.or_false, Bool.false_or, Bool.or_true, Bool.true_or, nI_leI, nI_ltI, nI_eq, nI_clamp, inb_n, up_s, up_n, bx_uu, nI_1, ix6, nI_0n, pk_us, pk_un, ge_0n, y60, en1, eg, c0]
      exact e1
    · have c0 : N ≤ (n - 1) * g := by omega
      have hno : ∀ l, goodL n l = true → fsL I t lL lG n N g w l = none := fun l hl => by
        cases e : fsL I t lL lG n N g w l with
        | none => rfl
        | some s =>
          have a1 := hB l s hl e
          have a2 := fsN_lt N 0 none s (fun x hx => by cases hx) e
          omega
      have hF : ordF n (fsL I t lL lG n N g w) 719 (List.range n) none = none := ordS (fun l hl => by rw [hno l hl]; rfl) 719 (List.range n) hok
      rw [hF]
      refine ⟨Y, J, R, ?_, rk.rf, oY.1, oY.2.2.2.2.1, oY.2.1, oY.2.2.1, oY.2.2.2.1, oY.2.2.2.2.2.2⟩
      have c1 : ¬ (720 : Int32) ≤ 0 := by decide
      rw [eX6_find, hmiss, hhead]
      simp (disch := omega) only [xX6_find_85, xX6_find_86, xX6_find_89, xX6_find_90, xX6_find_91, xX6_find_92, xX6_find_93, xX6_find_95, xX6_find_97, xX6_find_98, xX6_find_101, xX6_find_102, xX6_find_105, xX6_find_106, xX6_find_108, xX6_find_109, xX6_find_111, xX6_find_113, xX6_find_116, xX6_find_119, xX6_find_121, xX6_find_124, xX6_find_125, xX6_find_126, xX6_find_129, xX6_find_130, xX6_find_133, xX6_find_134, xX6_find_137, xX6_find_139, xX6_find_142, xX6_find_143, xX6_find_144, xX6_find_147, xX6_find_150, xX6_find_153, xX6_find_154, xX6_find_157, xX6_find_158, xX6_find_160, xX6_find_163, xX6_find_166, kd_60, ↓reduceIte, gd_t, hK_p, hN_p, hF_p, hI_p, hJ_p, hR_p, stI_p, stJ_p, stR_p, stA_p, va_rf_s, va_rf_n, clr_i, clr_l, clr_r, clr_n, clr_o, w8_0, w8_1i, w8_1r, w8_2ii, w8_2ri, w8_2ir, w8_2rr, w8_3, beq_self_eq_true, Bool.and_self, Bool.and_true, Bool.true_and, decide_true, Option.toList_some, Option.toList_none, List.cons_append, List.nil_append, Option.bind_some, if_true, if_false, Nat.reduceLeDiff, Nat.reduceLT, Nat.reduceBEq, Bool.or_false, Bool.false_or, Bool.or_true, Bool.true_or, nI_leI, nI_ltI, nI_eq, nI_clamp, inb_n, up_s, up_n, bx_uu, nI_1, ix6, nI_0n, pk_us, pk_un, ge_0n, y60, en1, eg, c0, c1]
/-- the model tries a line -/
theorem otr_m {d N g w : Nat} {b : Option (Nat × List Nat)} {l : List Nat} {v wh : Int32} {l7 l8 : Option Value} (h : cAll I R t t' n nb nm fL lL fG lG st) (hN : N ≤ 300) (hg : g ≤ 99) (hl : goodL n l = true) (o : ordM I X n N b l v) : ∃ X1 J1 v1 l7' l8', E (C (d + 6)) MX12_order 65 [some (.ref 123), some (.int (nI N)), some (.int (nI g)), some (.int (nI w)), some (.int wh), some (.int v), some (.int 1), l7, l8] [] (hp X J R1) = E (C (d + 6)) MX12_order 173 [some (.ref 123), some (.int (nI N)), some (.int (nI g)), some (.int (nI w)), some (.int wh), some (.int v1), some (.int 1), l7', l8'] [] (hp X1 J1 R1) ∧ ordM I X1 n N (upB (fsL I t lL lG n N g w l) b l) l v1 := by
  have hn6 := h.n6
  have n1 : ¬ (1 : Int32) = 0 := by decide
  have hlen := goodL_len hl
  obtain ⟨k, oL, oB⟩ := o
  obtain ⟨q61, q157, q158⟩ := pla_q h k
  have ep := pla_spec (d := d + 5) (I := X) (J := J) (R := R1)
  have p13 : plaM X 123 13 = nI n := by rw [pla_f (by omega), k.2.1 13 (by unfold kpK; omega)]; exact h.nd
  have p165 : plaM X 165 = X 165 := pla_o (by decide) (by decide) (by decide)
  have p166 : plaM X 166 = X 166 := pla_o (by decide) (by decide) (by decide)
  have kP : kp I (plaM X) := k.tr kp_pla
  have ig : ∀ i, nI g * nI i = nI (i * g) := fun i => by rw [pk_mul, Nat.mul_comm]
  have x62 := pla_61 (I := X)
  generalize hQ : plaM X = Q at *
  have hl1 := for_0 (P := fun i (r : Nat → Int32) => E (C (d + 6)) MX12_order 77 [some (.ref 123), some (.int (nI N)), some (.int (nI g)), some (.int (nI w)), some (.int wh), some (.int v), some (.int 1), some (.int (nI i)), l8] [] (hp (va_up Q 158 r) J R1)) (fin := fun r => E (C (d + 6)) MX12_order 108 [some (.ref 123), some (.int (nI N)), some (.int (nI g)), some (.int (nI w)), some (.int wh), some (.int v), some (.int 1), some (.int (nI n)), l8] [] (hp (va_up Q 158 r) J R1)) (f := fun i r => upd r (l.getD i 0) (nI (i * g))) (n := n) (s := Q 158) (by
    intro i r hi
    have c0 : ¬ n ≤ i := by omega
    have v1 : X 165 i = nI (l.getD i 0) := oL i (by omega)
    have v2 := goodL_lt hl hi
    rw [xX12_order_77]
    simp (disch := omega) only [xX12_order_79, xX12_order_80, xX12_order_83, xX12_order_86, xX12_order_87, xX12_order_90, xX12_order_91, xX12_order_94, xX12_order_96, xX12_order_97, xX12_order_98, xX12_order_100, xX12_order_101, xX12_order_102, xX12_order_105, kd_123, fi_123_67, kd_158, ln_158, fi_123_77, kd_165, ln_165, fi_123_78, kd_166, ln_166, ↓reduceIte, gd_t, hK_p, hN_p, hF_p, hI_p, hJ_p, hR_p, stI_p, stJ_p, stR_p, stA_p, va_rf_s, va_rf_n, clr_i, clr_l, clr_r, clr_n, clr_o, w8_0, w8_1i, w8_1r, w8_2ii, w8_2ri, w8_2ir, w8_2rr, w8_3, beq_self_eq_true, Bool.and_self, Bool.and_true, Bool.true_and, decide_true, Option.toList_some, Option.toList_none, List.cons_append, List.nil_append, Option.bind_some, if_true, if_false, Nat.reduceLeDiff, Nat.reduceLT, Nat.reduceBEq, Bool.or_false, Bool.false_or, Bool.or_true, Bool.true_or, nI_leI, nI_ltI, nI_eq, nI_clamp, inb_n, up_s, up_n, bx_uu, nI_1, ix6, nI_0n, pk_us, pk_un, ge_0n, p13, p165, v1, ig, c0]) (by
    intro r
    have c0 : n ≤ n := Nat.le_refl n
    rw [xX12_order_77]
    simp (disch := omega) only [xX12_order_79, xX12_order_80, xX12_order_83, xX12_order_86, xX12_order_87, xX12_order_90, xX12_order_91, xX12_order_94, xX12_order_96, xX12_order_97, xX12_order_98, xX12_order_100, xX12_order_101, xX12_order_102, xX12_order_105, kd_123, fi_123_67, kd_158, ln_158, fi_123_77, kd_165, ln_165, fi_123_78, kd_166, ln_166, ↓reduceIte, gd_t, hK_p, hN_p, hF_p, hI_p, hJ_p, hR_p, stI_p, stJ_p, stR_p, stA_p, va_rf_s, va_rf_n, clr_i, clr_l, clr_r, clr_n, clr_o, w8_0, w8_1i, w8_1r, w8_2ii, w8_2ri, w8_2ir, w8_2rr, w8_3, beq_self_eq_true, Bool.and_self, Bool.and_true, Bool.true_and, decide_true, Option.toList_some, Option.toList_none, List.cons_append, List.nil_append, Option.bind_some, if_true, if_false, Nat.reduceLeDiff, Nat.reduceLT, Nat.reduceBEq, Bool.or_false, Bool.false_or, Bool.or_true, Bool.true_or, nI_leI, nI_ltI, nI_eq, nI_clamp, inb_n, up_s, up_n, bx_uu, nI_1, ix6, nI_0n, pk_us, pk_un, ge_0n, p13, c0])
  rw [nI_0, up_self] at hl1
  generalize hW : itf (fun i (r : Nat → Int32) => upd r (l.getD i 0) (nI (i * g))) n 0 (Q 158) = W at *
  have kW : kp I (va_up Q 158 W) := kP.tr kp_158
  obtain ⟨s1, k1, e13⟩ := lay_q (wall := I t 12) (ll := 0) (we := I (t + 9)) (stf := I (t + 4)) (sp := I (t + 10)) (ac := acT (staL l g n (I (t + 14)))) h kW (q_lo (by rw [up_n (by decide)]; exact x62.2.1)) (q_we h (by rw [up_n (by decide)]; exact x62.2.2.1)) (q_w9 h) (fun c hc => by rw [up_n (by decide)]; exact q157 c hc) (fun i hi j hj => by
    rw [up_s, up_n (by decide), x62.2.2.2.2, isB63 i (by omega), Bool.and_true]
    have := staL_eq (l := l) (g := g) (n := n) (m := n) (r := Q 158) (r' := I (t + 14)) q158 i hi
    unfold staL at this
    rw [hW] at this
    rw [this]
    rfl) (by rw [up_n (by decide)]; exact q61.symm) (q_st h (by rw [up_n (by decide)]; exact x62.2.2.2.1))
  have eb := brn_spec (d := d + 4) (n := n) (I := va_up Q 158 W) (J := J) (R := R1) e13 hn6
  obtain ⟨X1, J1, e1, o1⟩ := frs_m (d := d) (w := w) (R1 := R1) (phO_txt h) hN N 0 _ J none (by omega) (fun x hx => by cases hx) s1
  rw [nI_0] at e1
  have ef : C (d + 6) MX12_fromStep [.ref 123, .int (nI N), .int (nI w)] (hp (bgnM (hunM (va_up Q 158 W) n) 6 n) J R1) = some (some (.int (an (fsL I t lL lG n N g w l) (-1))), hp X1 J1 R1) := by
    rw [eX12_fromStep]
    simp only [xX12_fromStep_0, xX12_fromStep_1, xX12_fromStep_2, xX12_fromStep_3, ↓reduceIte, gd_t, hK_p, hN_p, hF_p, hI_p, hJ_p, hR_p, stI_p, stJ_p, stR_p, stA_p, va_rf_s, va_rf_n, clr_i, clr_l, clr_r, clr_n, clr_o, w8_0, w8_1i, w8_1r, w8_2ii, w8_2ri, w8_2ir, w8_2rr, w8_3, beq_self_eq_true, Bool.and_self, Bool.and_true, Bool.true_and, decide_true, Option.toList_some, Option.toList_none, List.cons_append, List.nil_append, Option.bind_some, if_true, if_false, Nat.reduceLeDiff, Nat.reduceLT, Nat.reduceBEq, Bool.or_false, Bool.false_or, Bool.or_true, Bool.true_or]
    exact e1
  have kX : kp I X1 := k1.tr o1.kp
  have y165 : X1 165 = X 165 := by rw [o1.1 165 (by decide) (by decide) (by decide) (by decide) (by decide) (by decide), bgq_o (by omega), up_n (by decide), p165]
  have y166 : X1 166 = X 166 := by rw [o1.1 166 (by decide) (by decide) (by decide) (by decide) (by decide) (by decide), bgq_o (by omega), up_n (by decide), p166]
  have y13 : X1 123 13 = nI n := by rw [kX.2.1 13 (by unfold kpK; omega)]; exact h.nd
  have hlt : ∀ s, fsL I t lL lG n N g w l = some s → s < N := fun s hs => by
    have := fsN_lt N 0 none s (fun x hx => by cases hx) hs
    omega
  have head : E (C (d + 6)) MX12_order 65 [some (.ref 123), some (.int (nI N)), some (.int (nI g)), some (.int (nI w)), some (.int wh), some (.int v), some (.int 1), l7, l8] [] (hp X J R1) = E (C (d + 6)) MX12_order 120 [some (.ref 123), some (.int (nI N)), some (.int (nI g)), some (.int (nI w)), some (.int wh), some (.int v), some (.int 1), some (.int (an (fsL I t lL lG n N g w l) (-1))), l8] [] (hp X1 J1 R1) := by
    rw [xX12_order_65]
    simp (disch := omega) only [xX12_order_67, xX12_order_70, xX12_order_71, xX12_order_74, xX12_order_75, kd_123, fi_123_67, kd_158, ln_158, fi_123_77, kd_165, ln_165, fi_123_78, kd_166, ln_166, kd_123, ↓reduceIte, gd_t, hK_p, hN_p, hF_p, hI_p, hJ_p, hR_p, stI_p, stJ_p, stR_p, stA_p, va_rf_s, va_rf_n, clr_i, clr_l, clr_r, clr_n, clr_o, w8_0, w8_1i, w8_1r, w8_2ii, w8_2ri, w8_2ir, w8_2rr, w8_3, beq_self_eq_true, Bool.and_self, Bool.and_true, Bool.true_and, decide_true, Option.toList_some, Option.toList_none, List.cons_append, List.nil_append, Option.bind_some, if_true, if_false, Nat.reduceLeDiff, Nat.reduceLT, Nat.reduceBEq, Bool.or_false, Bool.false_or, Bool.or_true, Bool.true_or, n1, ep]
    rw [hl1]
    simp (disch := omega) only [xX12_order_108, xX12_order_109, xX12_order_112, xX12_order_113, xX12_order_114, xX12_order_115, xX12_order_118, kd_123, fi_123_67, kd_158, ln_158, fi_123_77, kd_165, ln_165, fi_123_78, kd_166, ln_166, kd_123, ↓reduceIte, gd_t, hK_p, hN_p, hF_p, hI_p, hJ_p, hR_p, stI_p, stJ_p, stR_p, stA_p, va_rf_s, va_rf_n, clr_i, clr_l, clr_r, clr_n, clr_o, w8_0, w8_1i, w8_1r, w8_2ii, w8_2ri, w8_2ir, w8_2rr, w8_3, beq_self_eq_true, Bool.and_self, Bool.and_true, Bool.true_and, decide_true, Option.toList_some, Option.toList_none, List.cons_append, List.nil_append, Option.bind_some, if_true, if_false, Nat.reduceLeDiff, Nat.reduceLT, Nat.reduceBEq, Bool.or_false, Bool.false_or, Bool.or_true, Bool.true_or, eb, ef]
  rw [head]
  have hcp : ∀ s, ∃ l8', E (C (d + 6)) MX12_order 144 [some (.ref 123), some (.int (nI N)), some (.int (nI g)), some (.int (nI w)), some (.int wh), some (.int (nI s)), some (.int 1), some (.int (nI s)), some (.int 0)] [] (hp X1 J1 R1) = E (C (d + 6)) MX12_order 173 [some (.ref 123), some (.int (nI N)), some (.int (nI g)), some (.int (nI w)), some (.int wh), some (.int (nI s)), some (.int 1), some (.int (nI s)), l8'] [] (hp (va_up X1 166 (cpF (X1 165) (X1 166) n)) J1 R1) := by
    intro s
    have hl2 := for_0 (P := fun i (r : Nat → Int32) => E (C (d + 6)) MX12_order 144 [some (.ref 123), some (.int (nI N)), some (.int (nI g)), some (.int (nI w)), some (.int wh), some (.int (nI s)), some (.int 1), some (.int (nI s)), some (.int (nI i))] [] (hp (va_up X1 166 r) J1 R1)) (fin := fun r => E (C (d + 6)) MX12_order 173 [some (.ref 123), some (.int (nI N)), some (.int (nI g)), some (.int (nI w)), some (.int wh), some (.int (nI s)), some (.int 1), some (.int (nI s)), some (.int (nI n))] [] (hp (va_up X1 166 r) J1 R1)) (f := fun i r => upd r i (X1 165 i)) (n := n) (s := X1 166) (by
      intro i r hi
      have c0 : ¬ n ≤ i := by omega
      rw [xX12_order_144]
      simp (disch := omega) only [xX12_order_146, xX12_order_147, xX12_order_150, xX12_order_153, xX12_order_154, xX12_order_157, xX12_order_159, xX12_order_160, xX12_order_163, xX12_order_165, xX12_order_166, xX12_order_167, xX12_order_170, kd_123, fi_123_67, kd_158, ln_158, fi_123_77, kd_165, ln_165, fi_123_78, kd_166, ln_166, ↓reduceIte, gd_t, hK_p, hN_p, hF_p, hI_p, hJ_p, hR_p, stI_p, stJ_p, stR_p, stA_p, va_rf_s, va_rf_n, clr_i, clr_l, clr_r, clr_n, clr_o, w8_0, w8_1i, w8_1r, w8_2ii, w8_2ri, w8_2ir, w8_2rr, w8_3, beq_self_eq_true, Bool.and_self, Bool.and_true, Bool.true_and, decide_true, Option.toList_some, Option.toList_none, List.cons_append, List.nil_append, Option.bind_some, if_true, if_false, Nat.reduceLeDiff, Nat.reduceLT, Nat.reduceBEq, Bool.or_false, Bool.false_or, Bool.or_true, Bool.true_or, nI_leI, nI_ltI, nI_eq, nI_clamp, inb_n, up_s, up_n, bx_uu, nI_1, ix6, nI_0n, pk_us, pk_un, ge_0n, y13, c0]) (by
      intro r
      have c0 : n ≤ n := Nat.le_refl n
      rw [xX12_order_144]
      simp (disch := omega) only [xX12_order_146, xX12_order_147, xX12_order_150, xX12_order_153, xX12_order_154, xX12_order_157, xX12_order_159, xX12_order_160, xX12_order_163, xX12_order_165, xX12_order_166, xX12_order_167, xX12_order_170, kd_123, fi_123_67, kd_158, ln_158, fi_123_77, kd_165, ln_165, fi_123_78, kd_166, ln_166, ↓reduceIte, gd_t, hK_p, hN_p, hF_p, hI_p, hJ_p, hR_p, stI_p, stJ_p, stR_p, stA_p, va_rf_s, va_rf_n, clr_i, clr_l, clr_r, clr_n, clr_o, w8_0, w8_1i, w8_1r, w8_2ii, w8_2ri, w8_2ir, w8_2rr, w8_3, beq_self_eq_true, Bool.and_self, Bool.and_true, Bool.true_and, decide_true, Option.toList_some, Option.toList_none, List.cons_append, List.nil_append, Option.bind_some, if_true, if_false, Nat.reduceLeDiff, Nat.reduceLT, Nat.reduceBEq, Bool.or_false, Bool.false_or, Bool.or_true, Bool.true_or, nI_leI, nI_ltI, nI_eq, nI_clamp, inb_n, up_s, up_n, bx_uu, nI_1, ix6, nI_0n, pk_us, pk_un, ge_0n, y13, c0])
    rw [itf_cp, nI_0, up_self] at hl2
    exact ⟨_, hl2⟩
  have chg : ∀ s, s < N → ordM I (va_up X1 166 (cpF (X1 165) (X1 166) n)) n N (some (s, l)) l (nI s) := by
    intro s hs
    refine ⟨kX.tr ⟨fun a ha => up_n (by unfold kpA at ha; omega), fun k _ => by rw [up_n (by decide)], fun a k h1 h2 _ => by rw [up_n (by omega)]⟩, ?_, ?_⟩
    · rw [up_n (by decide), y165]; exact oL
    · dsimp only
      rw [up_s, y165]
      exact ⟨rfl, hs, hlen, fun i hi => by rw [cpF_at (by omega)]; exact oL i hi⟩
  have keep : ordM I X1 n N b l v := by
    unfold ordM
    rw [y165, y166]
    exact ⟨kX, oL, oB⟩
  generalize fsL I t lL lG n N g w l = F at *
  unfold upB
  cases F with
  | none =>
    have m1 : (-1 : Int32) < 0 := by decide
    refine ⟨X1, J1, v, some (.int (-1)), l8, ?_, keep⟩
    simp only [xX12_order_120, xX12_order_122, xX12_order_125, xX12_order_127, xX12_order_130, xX12_order_132, xX12_order_134, xX12_order_137, xX12_order_139, xX12_order_141, ↓reduceIte, gd_t, hK_p, hN_p, hF_p, hI_p, hJ_p, hR_p, stI_p, stJ_p, stR_p, stA_p, va_rf_s, va_rf_n, clr_i, clr_l, clr_r, clr_n, clr_o, w8_0, w8_1i, w8_1r, w8_2ii, w8_2ri, w8_2ir, w8_2rr, w8_3, beq_self_eq_true, Bool.and_self, Bool.and_true, Bool.true_and, decide_true, Option.toList_some, Option.toList_none, List.cons_append, List.nil_append, Option.bind_some, if_true, if_false, Nat.reduceLeDiff, Nat.reduceLT, Nat.reduceBEq, Bool.or_false, Bool.false_or, Bool.or_true, Bool.true_or, an, m1]
  | some s =>
    have hs := hlt s rfl
    have m1 : ¬ nI s < 0 := nI_pos (by omega)
    obtain ⟨l8', ec⟩ := hcp s
    cases b with
    | none =>
      have hv : v = -1 := oB
      have m2 : (-1 : Int32) < 0 := by decide
      refine ⟨_, J1, nI s, some (.int (nI s)), l8', ?_, chg s hs⟩
      rw [← ec]
      simp only [xX12_order_120, xX12_order_122, xX12_order_125, xX12_order_127, xX12_order_130, xX12_order_132, xX12_order_134, xX12_order_137, xX12_order_139, xX12_order_141, xX12_order_142, ↓reduceIte, gd_t, hK_p, hN_p, hF_p, hI_p, hJ_p, hR_p, stI_p, stJ_p, stR_p, stA_p, va_rf_s, va_rf_n, clr_i, clr_l, clr_r, clr_n, clr_o, w8_0, w8_1i, w8_1r, w8_2ii, w8_2ri, w8_2ir, w8_2rr, w8_3, beq_self_eq_true, Bool.and_self, Bool.and_true, Bool.true_and, decide_true, Option.toList_some, Option.toList_none, List.cons_append, List.nil_append, Option.bind_some, if_true, if_false, Nat.reduceLeDiff, Nat.reduceLT, Nat.reduceBEq, Bool.or_false, Bool.false_or, Bool.or_true, Bool.true_or, an, m1, hv, m2]
    | some p =>
      have hv : v = nI p.1 := oB.1
      have hp1 : p.1 < N := oB.2.1
      have m2 : ¬ nI p.1 < 0 := nI_pos (by omega)
      dsimp only
      by_cases z : s < p.1
      · have z' : ¬ p.1 ≤ s := by omega
        rw [if_pos z]
        refine ⟨_, J1, nI s, some (.int (nI s)), l8', ?_, chg s hs⟩
        rw [← ec]
        simp (disch := omega) only [xX12_order_120, xX12_order_122, xX12_order_125, xX12_order_127, xX12_order_130, xX12_order_132, xX12_order_134, xX12_order_137, xX12_order_139, xX12_order_141, xX12_order_142, ↓reduceIte, gd_t, hK_p, hN_p, hF_p, hI_p, hJ_p, hR_p, stI_p, stJ_p, stR_p, stA_p, va_rf_s, va_rf_n, clr_i, clr_l, clr_r, clr_n, clr_o, w8_0, w8_1i, w8_1r, w8_2ii, w8_2ri, w8_2ir, w8_2rr, w8_3, beq_self_eq_true, Bool.and_self, Bool.and_true, Bool.true_and, decide_true, Option.toList_some, Option.toList_none, List.cons_append, List.nil_append, Option.bind_some, if_true, if_false, Nat.reduceLeDiff, Nat.reduceLT, Nat.reduceBEq, Bool.or_false, Bool.false_or, Bool.or_true, Bool.true_or, nI_leI, an, m1, hv, m2, z']
      · have z' : p.1 ≤ s := by omega
        rw [if_neg z]
        refine ⟨X1, J1, v, some (.int (nI s)), l8, ?_, keep⟩
        simp (disch := omega) only [xX12_order_120, xX12_order_122, xX12_order_125, xX12_order_127, xX12_order_130, xX12_order_132, xX12_order_134, xX12_order_137, xX12_order_139, xX12_order_141, xX12_order_142, ↓reduceIte, gd_t, hK_p, hN_p, hF_p, hI_p, hJ_p, hR_p, stI_p, stJ_p, stR_p, stA_p, va_rf_s, va_rf_n, clr_i, clr_l, clr_r, clr_n, clr_o, w8_0, w8_1i, w8_1r, w8_2ii, w8_2ri, w8_2ir, w8_2rr, w8_3, beq_self_eq_true, Bool.and_self, Bool.and_true, Bool.true_and, decide_true, Option.toList_some, Option.toList_none, List.cons_append, List.nil_append, Option.bind_some, if_true, if_false, Nat.reduceLeDiff, Nat.reduceLT, Nat.reduceBEq, Bool.or_false, Bool.false_or, Bool.or_true, Bool.true_or, nI_leI, an, m1, hv, m2, z']
theorem oal_m {d N g w : Nat} {wh : Int32} (h : cAll I R t t' n nb nm fL lL fG lG st) (hn1 : 1 ≤ n) (hN : N ≤ 300) (hg : g ≤ 99) : ∀ (f : Nat) (l : List Nat) (b : Option (Nat × List Nat)) (v : Int32) (X : Mem) (J : MemL) (l7 l8 : Option Value), okS n f l = true → ordM I X n N b l v → ∃ X1 J1 v1 l7' l8' l1, E (C (d + 6)) MX12_order 65 [some (.ref 123), some (.int (nI N)), some (.int (nI g)), some (.int (nI w)), some (.int wh), some (.int v), some (.int 1), l7, l8] [] (hp X J R1) = E (C (d + 6)) MX12_order 182 [some (.ref 123), some (.int (nI N)), some (.int (nI g)), some (.int (nI w)), some (.int wh), some (.int v1), some (.int 0), l7', l8'] [] (hp X1 J1 R1) ∧ ordM I X1 n N (ordF n (fsL I t lL lG n N g w) f l b) l1 v1 := by
  have hn6 := h.n6
  intro f
  have step : ∀ (l : List Nat) (b : Option (Nat × List Nat)) (v : Int32) (X : Mem) (J : MemL) (l7 l8 : Option Value), goodL n l = true → ordM I X n N b l v → ∃ X1 J1 v1 l7' l8', E (C (d + 6)) MX12_order 65 [some (.ref 123), some (.int (nI N)), some (.int (nI g)), some (.int (nI w)), some (.int wh), some (.int v), some (.int 1), l7, l8] [] (hp X J R1) = E (C (d + 6)) MX12_order 65 [some (.ref 123), some (.int (nI N)), some (.int (nI g)), some (.int (nI w)), some (.int wh), some (.int v1), some (.int (if (nextL n l).isSome = true then 1 else 0)), l7', l8'] [] (hp X1 J1 R1) ∧ ordM I X1 n N (upB (fsL I t lL lG n N g w l) b l) ((nextL n l).getD l) v1 := by
    intro l b v X J l7 l8 hg' o
    obtain ⟨X1, J1, v1, l7', l8', e1, o1⟩ := otr_m (d := d) (g := g) (w := w) (wh := wh) (J := J) (R1 := R1) (l7 := l7) (l8 := l8) h hN hg hg' o
    have y13 : X1 123 13 = nI n := by rw [o1.1.2.1 13 (by unfold kpK; omega)]; exact h.nd
    obtain ⟨r', e2, hr'⟩ := nxl_m (d := d + 4) (J := J1) (R := R1) (goodL_len hg') hn6 hn1 y13 o1.2.1 (belL_good hn6 hg')
    refine ⟨va_up X1 165 r', J1, v1, l7', l8', ?_, ?_⟩
    · rw [e1]
      simp only [xX12_order_173, xX12_order_174, xX12_order_177, xX12_order_179, hK_p, kd_123, ↓reduceIte, gd_t, hK_p, hN_p, hF_p, hI_p, hJ_p, hR_p, stI_p, stJ_p, stR_p, stA_p, va_rf_s, va_rf_n, clr_i, clr_l, clr_r, clr_n, clr_o, w8_0, w8_1i, w8_1r, w8_2ii, w8_2ri, w8_2ir, w8_2rr, w8_3, beq_self_eq_true, Bool.and_self, Bool.and_true, Bool.true_and, decide_true, Option.toList_some, Option.toList_none, List.cons_append, List.nil_append, Option.bind_some, if_true, if_false, Nat.reduceLeDiff, Nat.reduceLT, Nat.reduceBEq, Bool.or_false, Bool.false_or, Bool.or_true, Bool.true_or, e2]
    · obtain ⟨k1, -, oB⟩ := o1
      refine ⟨k1.tr ⟨fun a ha => up_n (by unfold kpA at ha; omega), fun k _ => by rw [up_n (by decide)], fun a k h1 h2 _ => by rw [up_n (by omega)]⟩, by rw [up_s]; exact hr', ?_⟩
      rw [show va_up X1 165 r' 166 = X1 166 from up_n (by decide)]
      exact oB
  have fin : ∀ (v : Int32) (X : Mem) (J : MemL) (l7 l8 : Option Value), E (C (d + 6)) MX12_order 65 [some (.ref 123), some (.int (nI N)), some (.int (nI g)), some (.int (nI w)), some (.int wh), some (.int v), some (.int 0), l7, l8] [] (hp X J R1) = E (C (d + 6)) MX12_order 182 [some (.ref 123), some (.int (nI N)), some (.int (nI g)), some (.int (nI w)), some (.int wh), some (.int v), some (.int 0), l7, l8] [] (hp X J R1) := by
    intro v X J l7 l8
    rw [xX12_order_65]
    simp only [xX12_order_67, ↓reduceIte, gd_t, hK_p, hN_p, hF_p, hI_p, hJ_p, hR_p, stI_p, stJ_p, stR_p, stA_p, va_rf_s, va_rf_n, clr_i, clr_l, clr_r, clr_n, clr_o, w8_0, w8_1i, w8_1r, w8_2ii, w8_2ri, w8_2ir, w8_2rr, w8_3, beq_self_eq_true, Bool.and_self, Bool.and_true, Bool.true_and, decide_true, Option.toList_some, Option.toList_none, List.cons_append, List.nil_append, Option.bind_some, if_true, if_false, Nat.reduceLeDiff, Nat.reduceLT, Nat.reduceBEq, Bool.or_false, Bool.false_or, Bool.or_true, Bool.true_or]
  induction f with
  | zero =>
    intro l b v X J l7 l8 ho o
    obtain ⟨X1, J1, v1, l7', l8', e1, o1⟩ := step l b v X J l7 l8 (okS_good ho) o
    rw [okS_0 ho] at e1 o1
    simp only [Option.isSome_none, Bool.false_eq_true, if_false] at e1
    exact ⟨X1, J1, v1, l7', l8', _, e1.trans (fin _ _ _ _ _), o1⟩
  | succ f ih =>
    intro l b v X J l7 l8 ho o
    obtain ⟨X1, J1, v1, l7', l8', e1, o1⟩ := step l b v X J l7 l8 (okS_good ho) o
    unfold ordF
    cases en : nextL n l with
    | none =>
      rw [en] at e1 o1
      simp only [Option.isSome_none, Bool.false_eq_true, if_false] at e1
      exact ⟨X1, J1, v1, l7', l8', _, e1.trans (fin _ _ _ _ _), o1⟩
    | some l' =>
      rw [en] at e1 o1
      simp only [Option.isSome_some, if_true] at e1
      obtain ⟨X2, J2, v2, m7, m8, l2, e2, o2⟩ := ih l' _ v1 X1 J1 l7' l8' (okS_next ho en) o1
      exact ⟨X2, J2, v2, m7, m8, l2, e1.trans e2, o2⟩
end ORE

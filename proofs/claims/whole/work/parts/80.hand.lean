-- PAIRS, 8: strike, known; by hand: stop, hang, undo
theorem cAll_fr {I I2 : Mem} {R R2 : MemR} {t t' n nb nm fL lL fG lG st : Nat} (h : cAll I R t t' n nb nm fL lL fG lG st) (o : ∀ a, a < 60 ∨ (74 ≤ a ∧ a < 88) ∨ (102 ≤ a ∧ a ≤ 104) ∨ (124 ≤ a ∧ a ≤ 146) ∨ a = 160 ∨ a = 161 ∨ a = 170 → I2 a = I a) (f : ∀ k, k = 1 ∨ k = 4 ∨ k = 5 ∨ k = 12 ∨ k = 13 ∨ k = 14 ∨ k = 15 ∨ k = 16 ∨ k = 84 ∨ k = 85 → I2 123 k = I 123 k) (now : cNow I2 R2 t n nb st) (hnd : cHnd I2 n nb) (hea : cHea I2 n) (r0 : R2 0 = R 0) (r74 : R2 74 = R 74) : cAll I2 R2 t t' n nb nm fL lL fG lG st := by
  have ht := te_hi h.te
  refine ⟨h.te, h.2.1, h.2.2.1, by rw [r0]; exact h.r3, by rw [r0]; exact h.r4, ?_, ?_, ?_, now, ?_, ?_, hnd, hea, ?_, ?_⟩
  · exact cTxt_fr h.txt (fun q h1 h2 => o q (by omega)) (fun q h1 h2 => o q (by omega)) (f _ (by decide)) (f _ (by decide)) (f _ (by decide)) (f _ (by decide))
  · exact cLws_fr h.lws (fun q h1 h2 => o q (by omega)) (fun q h1 h2 => o q (by omega))
  · rw [f _ (by decide)]; exact h.kno
  · exact cImg_fr h.img (by rw [o 0 (by omega)]) (fun q h1 h2 => o q (by omega)) (o _ (by omega)) (f _ (by decide)) (f _ (by decide)) r74
  · exact cSto_fr h.sto (o _ (by omega)) (o _ (by omega)) (o _ (by omega)) (o _ (by omega))
  · exact cTap_fr h.tap (by rw [o 0 (by omega)]) (o _ (by omega)) (o _ (by omega)) (f _ (by decide))
  · exact cFau_fr h.fau (o _ (by omega)) (f _ (by decide)) (f _ (by decide)) (o _ (by omega)) (o _ (by omega))
theorem strike_p {I : Mem} {J : MemL} {R : MemR} {t t' n nb nm fL lL fG lG st : Nat} (h : cAll I R t t' n nb nm fL lL fG lG st) {x : Int32} : chgP MX11_strike MX12_strike [.int x] I J R t t' n nb nm fL lL fG lG := by
  obtain ⟨hz, z1, z2, z3, z4, z5, z6⟩ := h.hea
  by_cases x0 : x < 0
  · refine askP.chg h (askP.mk0 (v := -1) (w := -1) ?_ ?_ rfl)
    · rw [eX11_strike]
      simp (disch := omega) only [xX11_strike_0, xX11_strike_1, xX11_strike_4, xX11_strike_5, xX11_strike_6, xX11_strike_9, xX11_strike_12, xX11_strike_15, xX11_strike_16, xX11_strike_19, xX11_strike_20, xX11_strike_23, xX11_strike_24, xX11_strike_25, xX11_strike_26, xX11_strike_29, kd_0, fi_0_11, kd_107, ↓reduceIte, gd_t, hK_p, hN_p, hF_p, hI_p, hJ_p, hR_p, stI_p, stJ_p, stR_p, stA_p, va_rf_s, va_rf_n, clr_i, clr_l, clr_r, clr_n, clr_o, w8_0, w8_1i, w8_1r, w8_2ii, w8_2ri, w8_2ir, w8_2rr, w8_3, beq_self_eq_true, Bool.and_self, Bool.and_true, Bool.true_and, decide_true, Option.toList_some, Option.toList_none, List.cons_append, List.nil_append, Option.bind_some, if_true, if_false, Nat.reduceLeDiff, Nat.reduceLT, Nat.reduceBEq, Bool.or_false, Bool.false_or, Bool.or_true, Bool.true_or, nI_leI, nI_ltI, nI_eq, nI_clamp, inb_n, up_s, up_n, bx_uu, nI_1, ix6, nI_0n, pk_us, pk_un, ge_0n, x0]
    · rw [eX12_strike]
      by_cases c40 : nI hz = 40 <;> simp (disch := omega) only [xX12_strike_0, xX12_strike_1, xX12_strike_2, xX12_strike_5, xX12_strike_6, xX12_strike_9, xX12_strike_11, xX12_strike_14, xX12_strike_15, xX12_strike_18, xX12_strike_19, xX12_strike_20, xX12_strike_23, xX12_strike_26, xX12_strike_27, xX12_strike_30, xX12_strike_31, xX12_strike_32, xX12_strike_33, xX12_strike_34, xX12_strike_37, kd_123, ↓reduceIte, gd_t, hK_p, hN_p, hF_p, hI_p, hJ_p, hR_p, stI_p, stJ_p, stR_p, stA_p, va_rf_s, va_rf_n, clr_i, clr_l, clr_r, clr_n, clr_o, w8_0, w8_1i, w8_1r, w8_2ii, w8_2ri, w8_2ir, w8_2rr, w8_3, beq_self_eq_true, Bool.and_self, Bool.and_true, Bool.true_and, decide_true, Option.toList_some, Option.toList_none, List.cons_append, List.nil_append, Option.bind_some, if_true, if_false, Nat.reduceLeDiff, Nat.reduceLT, Nat.reduceBEq, Bool.or_false, Bool.false_or, Bool.or_true, Bool.true_or, nI_leI, nI_ltI, nI_eq, nI_clamp, inb_n, up_s, up_n, bx_uu, nI_1, ix6, nI_0n, pk_us, pk_un, ge_0n, z2, c40, x0]
  · obtain ⟨k, hk, rfl⟩ := nI_of x0
    by_cases hkz : k < hz
    · by_cases c40 : hz = 40
      · subst c40
        have e40 : nI 40 = 40 := rfl
        refine askP.chg h (askP.mk0 (v := -1) (w := -1) ?_ ?_ rfl)
        · rw [eX11_strike]
          simp (disch := omega) only [xX11_strike_0, xX11_strike_1, xX11_strike_4, xX11_strike_5, xX11_strike_6, xX11_strike_9, xX11_strike_12, xX11_strike_15, xX11_strike_16, xX11_strike_19, xX11_strike_20, xX11_strike_23, xX11_strike_24, xX11_strike_25, xX11_strike_26, xX11_strike_29, kd_0, fi_0_11, kd_107, kd_107, ↓reduceIte, gd_t, hK_p, hN_p, hF_p, hI_p, hJ_p, hR_p, stI_p, stJ_p, stR_p, stA_p, va_rf_s, va_rf_n, clr_i, clr_l, clr_r, clr_n, clr_o, w8_0, w8_1i, w8_1r, w8_2ii, w8_2ri, w8_2ir, w8_2rr, w8_3, beq_self_eq_true, Bool.and_self, Bool.and_true, Bool.true_and, decide_true, Option.toList_some, Option.toList_none, List.cons_append, List.nil_append, Option.bind_some, if_true, if_false, Nat.reduceLeDiff, Nat.reduceLT, Nat.reduceBEq, Bool.or_false, Bool.false_or, Bool.or_true, Bool.true_or, nI_leI, nI_ltI, nI_eq, nI_clamp, inb_n, up_s, up_n, bx_uu, nI_1, ix6, nI_0n, pk_us, pk_un, ge_0n, z1, hkz, add_c0 z1]
        · rw [eX12_strike]
          simp (disch := omega) only [xX12_strike_0, xX12_strike_1, xX12_strike_2, xX12_strike_5, xX12_strike_6, xX12_strike_9, xX12_strike_11, xX12_strike_14, xX12_strike_15, xX12_strike_18, xX12_strike_19, xX12_strike_20, xX12_strike_23, xX12_strike_26, xX12_strike_27, xX12_strike_30, xX12_strike_31, xX12_strike_32, xX12_strike_33, xX12_strike_34, xX12_strike_37, kd_123, ↓reduceIte, gd_t, hK_p, hN_p, hF_p, hI_p, hJ_p, hR_p, stI_p, stJ_p, stR_p, stA_p, va_rf_s, va_rf_n, clr_i, clr_l, clr_r, clr_n, clr_o, w8_0, w8_1i, w8_1r, w8_2ii, w8_2ri, w8_2ir, w8_2rr, w8_3, beq_self_eq_true, Bool.and_self, Bool.and_true, Bool.true_and, decide_true, Option.toList_some, Option.toList_none, List.cons_append, List.nil_append, Option.bind_some, if_true, if_false, Nat.reduceLeDiff, Nat.reduceLT, Nat.reduceBEq, Bool.or_false, Bool.false_or, Bool.or_true, Bool.true_or, nI_leI, nI_ltI, nI_eq, nI_clamp, inb_n, up_s, up_n, bx_uu, nI_1, ix6, nI_0n, pk_us, pk_un, ge_0n, z2, e40]
      · have c4 : ¬ nI hz = 40 := fun q => c40 ((nI_eq (b := 40) (by omega) (by omega)).mp q)
        have ha := hea_all (k := 2) (x := nI k) (w := 0) (a := -1) (b := nI k) (c := 0) h z1 (by omega) (Or.inl ⟨rfl, rfl, rfl, k, hkz, rfl⟩)
        refine ⟨nI hz, addM I hz 2 (nI k) 0, J, R, _, J, st, ?_, ?_, ha.1, ha.2⟩
        · rw [eX11_strike]
          simp (disch := omega) only [xX11_strike_0, xX11_strike_1, xX11_strike_4, xX11_strike_5, xX11_strike_6, xX11_strike_9, xX11_strike_12, xX11_strike_15, xX11_strike_16, xX11_strike_19, xX11_strike_20, xX11_strike_23, xX11_strike_24, xX11_strike_25, xX11_strike_26, xX11_strike_29, kd_0, fi_0_11, kd_107, kd_107, ↓reduceIte, gd_t, hK_p, hN_p, hF_p, hI_p, hJ_p, hR_p, stI_p, stJ_p, stR_p, stA_p, va_rf_s, va_rf_n, clr_i, clr_l, clr_r, clr_n, clr_o, w8_0, w8_1i, w8_1r, w8_2ii, w8_2ri, w8_2ir, w8_2rr, w8_3, beq_self_eq_true, Bool.and_self, Bool.and_true, Bool.true_and, decide_true, Option.toList_some, Option.toList_none, List.cons_append, List.nil_append, Option.bind_some, if_true, if_false, Nat.reduceLeDiff, Nat.reduceLT, Nat.reduceBEq, Bool.or_false, Bool.false_or, Bool.or_true, Bool.true_or, nI_leI, nI_ltI, nI_eq, nI_clamp, inb_n, up_s, up_n, bx_uu, nI_1, ix6, nI_0n, pk_us, pk_un, ge_0n, z1, hkz, add_c z1 (show hz < 40 by omega)]
        · have hs : va_up (addM I hz 2 (nI k) 0) 123 (upd (addM I hz 2 (nI k) 0 123) 2 0) 123 79 = nI hz := by
            unfold addM
            simp (disch := omega) only [up_n, up_s, pk_un]
            exact z2
          have hnt := not_m (d := 9) (a := -1) (b := nI k) (c := 0) (J := J) (R := R) hs (by omega)
          rw [up_s, pk_un (by decide)] at hs
          rw [eX12_strike]
          simp (disch := omega) only [xX12_strike_0, xX12_strike_1, xX12_strike_2, xX12_strike_5, xX12_strike_6, xX12_strike_9, xX12_strike_11, xX12_strike_14, xX12_strike_15, xX12_strike_18, xX12_strike_19, xX12_strike_20, xX12_strike_23, xX12_strike_26, xX12_strike_27, xX12_strike_30, xX12_strike_31, xX12_strike_32, xX12_strike_33, xX12_strike_34, xX12_strike_37, kd_123, kd_123, ↓reduceIte, gd_t, hK_p, hN_p, hF_p, hI_p, hJ_p, hR_p, stI_p, stJ_p, stR_p, stA_p, va_rf_s, va_rf_n, clr_i, clr_l, clr_r, clr_n, clr_o, w8_0, w8_1i, w8_1r, w8_2ii, w8_2ri, w8_2ir, w8_2rr, w8_3, beq_self_eq_true, Bool.and_self, Bool.and_true, Bool.true_and, decide_true, Option.toList_some, Option.toList_none, List.cons_append, List.nil_append, Option.bind_some, if_true, if_false, Nat.reduceLeDiff, Nat.reduceLT, Nat.reduceBEq, Bool.or_false, Bool.false_or, Bool.or_true, Bool.true_or, nI_leI, nI_ltI, nI_eq, nI_clamp, inb_n, up_s, up_n, bx_uu, nI_1, ix6, nI_0n, pk_us, pk_un, ge_0n, hs, c4, hkz, hnt]
    · have hkz' : hz ≤ k := by omega
      refine askP.chg h (askP.mk0 (v := -1) (w := -1) ?_ ?_ rfl)
      · rw [eX11_strike]
        simp (disch := omega) only [xX11_strike_0, xX11_strike_1, xX11_strike_4, xX11_strike_5, xX11_strike_6, xX11_strike_9, xX11_strike_12, xX11_strike_15, xX11_strike_16, xX11_strike_19, xX11_strike_20, xX11_strike_23, xX11_strike_24, xX11_strike_25, xX11_strike_26, xX11_strike_29, kd_0, fi_0_11, kd_107, ↓reduceIte, gd_t, hK_p, hN_p, hF_p, hI_p, hJ_p, hR_p, stI_p, stJ_p, stR_p, stA_p, va_rf_s, va_rf_n, clr_i, clr_l, clr_r, clr_n, clr_o, w8_0, w8_1i, w8_1r, w8_2ii, w8_2ri, w8_2ir, w8_2rr, w8_3, beq_self_eq_true, Bool.and_self, Bool.and_true, Bool.true_and, decide_true, Option.toList_some, Option.toList_none, List.cons_append, List.nil_append, Option.bind_some, if_true, if_false, Nat.reduceLeDiff, Nat.reduceLT, Nat.reduceBEq, Bool.or_false, Bool.false_or, Bool.or_true, Bool.true_or, nI_leI, nI_ltI, nI_eq, nI_clamp, inb_n, up_s, up_n, bx_uu, nI_1, ix6, nI_0n, pk_us, pk_un, ge_0n, z1, hkz]
      · rw [eX12_strike]
        by_cases c40 : nI hz = 40
        · simp (disch := omega) only [xX12_strike_0, xX12_strike_1, xX12_strike_2, xX12_strike_5, xX12_strike_6, xX12_strike_9, xX12_strike_11, xX12_strike_14, xX12_strike_15, xX12_strike_18, xX12_strike_19, xX12_strike_20, xX12_strike_23, xX12_strike_26, xX12_strike_27, xX12_strike_30, xX12_strike_31, xX12_strike_32, xX12_strike_33, xX12_strike_34, xX12_strike_37, kd_123, ↓reduceIte, gd_t, hK_p, hN_p, hF_p, hI_p, hJ_p, hR_p, stI_p, stJ_p, stR_p, stA_p, va_rf_s, va_rf_n, clr_i, clr_l, clr_r, clr_n, clr_o, w8_0, w8_1i, w8_1r, w8_2ii, w8_2ri, w8_2ir, w8_2rr, w8_3, beq_self_eq_true, Bool.and_self, Bool.and_true, Bool.true_and, decide_true, Option.toList_some, Option.toList_none, List.cons_append, List.nil_append, Option.bind_some, if_true, if_false, Nat.reduceLeDiff, Nat.reduceLT, Nat.reduceBEq, Bool.or_false, Bool.false_or, Bool.or_true, Bool.true_or, nI_leI, nI_ltI, nI_eq, nI_clamp, inb_n, up_s, up_n, bx_uu, nI_1, ix6, nI_0n, pk_us, pk_un, ge_0n, z2, c40]
        · simp (disch := omega) only [xX12_strike_0, xX12_strike_1, xX12_strike_2, xX12_strike_5, xX12_strike_6, xX12_strike_9, xX12_strike_11, xX12_strike_14, xX12_strike_15, xX12_strike_18, xX12_strike_19, xX12_strike_20, xX12_strike_23, xX12_strike_26, xX12_strike_27, xX12_strike_30, xX12_strike_31, xX12_strike_32, xX12_strike_33, xX12_strike_34, xX12_strike_37, kd_123, ↓reduceIte, gd_t, hK_p, hN_p, hF_p, hI_p, hJ_p, hR_p, stI_p, stJ_p, stR_p, stA_p, va_rf_s, va_rf_n, clr_i, clr_l, clr_r, clr_n, clr_o, w8_0, w8_1i, w8_1r, w8_2ii, w8_2ri, w8_2ir, w8_2rr, w8_3, beq_self_eq_true, Bool.and_self, Bool.and_true, Bool.true_and, decide_true, Option.toList_some, Option.toList_none, List.cons_append, List.nil_append, Option.bind_some, if_true, if_false, Nat.reduceLeDiff, Nat.reduceLT, Nat.reduceBEq, Bool.or_false, Bool.false_or, Bool.or_true, Bool.true_or, nI_leI, nI_ltI, nI_eq, nI_clamp, inb_n, up_s, up_n, bx_uu, nI_1, ix6, nI_0n, pk_us, pk_un, ge_0n, z2, c40, hkz]
theorem known_p {I : Mem} {J : MemL} {R : MemR} {t t' n nb nm fL lL fG lG st : Nat} (h : cAll I R t t' n nb nm fL lL fG lG st) {x : Int32} : chgP MX11_known MX12_known [.int x] I J R t t' n nb nm fL lL fG lG := by
  have n1 : ¬ (1 : Int32) = 0 := by decide
  have ht := te_hi h.te
  obtain ⟨hz, z1, z2, z3, z4, z5, z6⟩ := h.hea
  by_cases x0 : x < -1
  · have hi : bi (¬ x < -1 ∧ ¬ nI hz < x) = 0 := if_neg (fun q => q.1 x0)
    refine askP.chg h (askP.mk0 (v := 0) (w := 0) ?_ ?_ rfl)
    · rw [eX11_known]
      simp (disch := omega) only [xX11_known_0, xX11_known_1, xX11_known_2, xX11_known_5, xX11_known_6, xX11_known_7, xX11_known_10, xX11_known_13, xX11_known_16, xX11_known_17, xX11_known_18, xX11_known_19, xX11_known_22, xX11_known_23, xX11_known_26, xX11_known_27, kd_0, fi_0_11, kd_107, ↓reduceIte, gd_t, hK_p, hN_p, hF_p, hI_p, hJ_p, hR_p, stI_p, stJ_p, stR_p, stA_p, va_rf_s, va_rf_n, clr_i, clr_l, clr_r, clr_n, clr_o, w8_0, w8_1i, w8_1r, w8_2ii, w8_2ri, w8_2ir, w8_2rr, w8_3, beq_self_eq_true, Bool.and_self, Bool.and_true, Bool.true_and, decide_true, Option.toList_some, Option.toList_none, List.cons_append, List.nil_append, Option.bind_some, if_true, if_false, Nat.reduceLeDiff, Nat.reduceLT, Nat.reduceBEq, Bool.or_false, Bool.false_or, Bool.or_true, Bool.true_or, nI_leI, nI_ltI, nI_eq, nI_clamp, inb_n, up_s, up_n, bx_uu, nI_1, ix6, nI_0n, pk_us, pk_un, ge_0n, x0, z01]
    · rw [eX12_known]
      simp (disch := omega) only [xX12_known_0, xX12_known_1, xX12_known_2, xX12_known_5, xX12_known_6, xX12_known_7, xX12_known_8, xX12_known_11, xX12_known_14, xX12_known_17, xX12_known_18, xX12_known_19, xX12_known_20, xX12_known_21, xX12_known_24, xX12_known_25, kd_123, ↓reduceIte, gd_t, hK_p, hN_p, hF_p, hI_p, hJ_p, hR_p, stI_p, stJ_p, stR_p, stA_p, va_rf_s, va_rf_n, clr_i, clr_l, clr_r, clr_n, clr_o, w8_0, w8_1i, w8_1r, w8_2ii, w8_2ri, w8_2ir, w8_2rr, w8_3, beq_self_eq_true, Bool.and_self, Bool.and_true, Bool.true_and, decide_true, Option.toList_some, Option.toList_none, List.cons_append, List.nil_append, Option.bind_some, if_true, if_false, Nat.reduceLeDiff, Nat.reduceLT, Nat.reduceBEq, Bool.or_false, Bool.false_or, Bool.or_true, Bool.true_or, nI_leI, nI_ltI, nI_eq, nI_clamp, inb_n, up_s, up_n, bx_uu, nI_1, ix6, nI_0n, pk_us, pk_un, ge_0n, z2, isI_spec, hi, z01, not_true_eq_false]
  by_cases x1 : x ≤ nI hz
  · have hi : bi (¬ x < -1 ∧ ¬ nI hz < x) = 1 := if_pos ⟨x0, Int32.not_lt.mpr x1⟩
    have hx : x = -1 ∨ inN x 0 hz := by
      by_cases xm : x < 0
      · refine Or.inl (Int32.toInt_inj.mp ?_)
        have a1 : (-1 : Int32).toInt = -1 := by decide
        have a0 : (0 : Int32).toInt = 0 := by decide
        rw [Int32.lt_iff_toInt_lt, a1] at x0
        rw [Int32.lt_iff_toInt_lt, a0] at xm
        rw [a1]
        omega
      · obtain ⟨k, hk, rfl⟩ := nI_of xm
        exact Or.inr ⟨k, by omega, (nI_leI hk (by omega)).mp x1, rfl⟩
    refine ⟨1, va_up I 107 (upd (I 107) 5 x), J, R, va_up (va_up I 107 (upd (I 107) 5 x)) 123 (upd (upd (I 123) 2 0) 80 x), J, st, ?_, ?_, ?_, ?_⟩
    · rw [eX11_known]
      simp (disch := omega) only [xX11_known_0, xX11_known_1, xX11_known_2, xX11_known_5, xX11_known_6, xX11_known_7, xX11_known_10, xX11_known_13, xX11_known_16, xX11_known_17, xX11_known_18, xX11_known_19, xX11_known_22, xX11_known_23, xX11_known_26, xX11_known_27, kd_0, fi_0_11, kd_107, ↓reduceIte, gd_t, hK_p, hN_p, hF_p, hI_p, hJ_p, hR_p, stI_p, stJ_p, stR_p, stA_p, va_rf_s, va_rf_n, clr_i, clr_l, clr_r, clr_n, clr_o, w8_0, w8_1i, w8_1r, w8_2ii, w8_2ri, w8_2ir, w8_2rr, w8_3, beq_self_eq_true, Bool.and_self, Bool.and_true, Bool.true_and, decide_true, Option.toList_some, Option.toList_none, List.cons_append, List.nil_append, Option.bind_some, if_true, if_false, Nat.reduceLeDiff, Nat.reduceLT, Nat.reduceBEq, Bool.or_false, Bool.false_or, Bool.or_true, Bool.true_or, nI_leI, nI_ltI, nI_eq, nI_clamp, inb_n, up_s, up_n, bx_uu, nI_1, ix6, nI_0n, pk_us, pk_un, ge_0n, x0, z1, x1, z11]
    · rw [eX12_known]
      simp (disch := omega) only [xX12_known_0, xX12_known_1, xX12_known_2, xX12_known_5, xX12_known_6, xX12_known_7, xX12_known_8, xX12_known_11, xX12_known_14, xX12_known_17, xX12_known_18, xX12_known_19, xX12_known_20, xX12_known_21, xX12_known_24, xX12_known_25, kd_123, ↓reduceIte, gd_t, hK_p, hN_p, hF_p, hI_p, hJ_p, hR_p, stI_p, stJ_p, stR_p, stA_p, va_rf_s, va_rf_n, clr_i, clr_l, clr_r, clr_n, clr_o, w8_0, w8_1i, w8_1r, w8_2ii, w8_2ri, w8_2ir, w8_2rr, w8_3, beq_self_eq_true, Bool.and_self, Bool.and_true, Bool.true_and, decide_true, Option.toList_some, Option.toList_none, List.cons_append, List.nil_append, Option.bind_some, if_true, if_false, Nat.reduceLeDiff, Nat.reduceLT, Nat.reduceBEq, Bool.or_false, Bool.false_or, Bool.or_true, Bool.true_or, nI_leI, nI_ltI, nI_eq, nI_clamp, inb_n, up_s, up_n, bx_uu, nI_1, ix6, nI_0n, pk_us, pk_un, ge_0n, z2, isI_spec, hi, n1, z11, not_false_eq_true]
    · refine cAll_fr h (fun a q => by simp (disch := omega) only [up_n]) (fun k q => by rw [up_s, pk_un (by omega), pk_un (by omega)]) (cNow_fr h.now h.n6 (fun a h1 h2 => by simp (disch := omega) only [up_n]) (fun a h1 h2 => by simp (disch := omega) only [up_n]) (fun a k h1 h2 h3 => by simp (disch := omega) only [up_n]) (by rw [up_s, pk_un (by decide), pk_un (by decide)]) rfl) (cHnd_fr h.hnd (by simp (disch := omega) only [up_n]) (by simp (disch := omega) only [up_n]) (by simp (disch := omega) only [up_n]) (by rw [up_s, pk_un (by decide), pk_un (by decide)])) ?_ rfl rfl
      refine ⟨hz, ?_, ?_, z3, ?_, ?_, ?_⟩
      · simp (disch := omega) only [up_n, up_s, pk_un]
        exact z1
      · simp (disch := omega) only [up_n, up_s, pk_un]
        exact z2
      · simp (disch := omega) only [up_n, up_s, pk_us]
      · simp (disch := omega) only [up_n, up_s, pk_us]
        exact hx
      · simp (disch := omega) only [up_n]
        exact z6
    · refine Or.inr ⟨fun a h1 h2 => ?_, ?_, ?_, ?_, ?_, ?_, ?_⟩ <;> simp (disch := omega) only [up_n]
  · have hi : bi (¬ x < -1 ∧ ¬ nI hz < x) = 0 := if_neg (fun q => x1 (Int32.not_lt.mp q.2))
    refine askP.chg h (askP.mk0 (v := 0) (w := 0) ?_ ?_ rfl)
    · rw [eX11_known]
      simp (disch := omega) only [xX11_known_0, xX11_known_1, xX11_known_2, xX11_known_5, xX11_known_6, xX11_known_7, xX11_known_10, xX11_known_13, xX11_known_16, xX11_known_17, xX11_known_18, xX11_known_19, xX11_known_22, xX11_known_23, xX11_known_26, xX11_known_27, kd_0, fi_0_11, kd_107, ↓reduceIte, gd_t, hK_p, hN_p, hF_p, hI_p, hJ_p, hR_p, stI_p, stJ_p, stR_p, stA_p, va_rf_s, va_rf_n, clr_i, clr_l, clr_r, clr_n, clr_o, w8_0, w8_1i, w8_1r, w8_2ii, w8_2ri, w8_2ir, w8_2rr, w8_3, beq_self_eq_true, Bool.and_self, Bool.and_true, Bool.true_and, decide_true, Option.toList_some, Option.toList_none, List.cons_append, List.nil_append, Option.bind_some, if_true, if_false, Nat.reduceLeDiff, Nat.reduceLT, Nat.reduceBEq, Bool.or_false, Bool.false_or, Bool.or_true, Bool.true_or, nI_leI, nI_ltI, nI_eq, nI_clamp, inb_n, up_s, up_n, bx_uu, nI_1, ix6, nI_0n, pk_us, pk_un, ge_0n, x0, z1, x1, z01]
    · rw [eX12_known]
      simp (disch := omega) only [xX12_known_0, xX12_known_1, xX12_known_2, xX12_known_5, xX12_known_6, xX12_known_7, xX12_known_8, xX12_known_11, xX12_known_14, xX12_known_17, xX12_known_18, xX12_known_19, xX12_known_20, xX12_known_21, xX12_known_24, xX12_known_25, kd_123, ↓reduceIte, gd_t, hK_p, hN_p, hF_p, hI_p, hJ_p, hR_p, stI_p, stJ_p, stR_p, stA_p, va_rf_s, va_rf_n, clr_i, clr_l, clr_r, clr_n, clr_o, w8_0, w8_1i, w8_1r, w8_2ii, w8_2ri, w8_2ir, w8_2rr, w8_3, beq_self_eq_true, Bool.and_self, Bool.and_true, Bool.true_and, decide_true, Option.toList_some, Option.toList_none, List.cons_append, List.nil_append, Option.bind_some, if_true, if_false, Nat.reduceLeDiff, Nat.reduceLT, Nat.reduceBEq, Bool.or_false, Bool.false_or, Bool.or_true, Bool.true_or, nI_leI, nI_ltI, nI_eq, nI_clamp, inb_n, up_s, up_n, bx_uu, nI_1, ix6, nI_0n, pk_us, pk_un, ge_0n, z2, isI_spec, hi, z01, not_true_eq_false]
-- a row of what was done by hand
def rowF (r : Nat → Int32) (e : Nat) (c b p s a : Int32) : Nat → Int32 := upd (upd (upd (upd (upd r (5 * e) c) (5 * e + 1) b) (5 * e + 2) p) (5 * e + 3) s) (5 * e + 4) a
def shf (r : Nat → Int32) : Nat → Int32 := fun k => if k < 95 then r (k + 5) else r k
theorem shf_c {r : Nat → Int32} : va_cpy r r 5 0 95 = shf r := by
  funext k
  unfold shf
  by_cases h : k < 95
  · rw [if_pos h, pk_cpy_in (by omega) (by omega)]
    congr 1
    omega
  · rw [if_neg h, pk_cpy_out (by omega)]
theorem k5r (k : Nat) : nI k * 5 = nI (5 * k) := by rw [show (5 : Int32) = nI 5 from rfl, pk_mul, Nat.mul_comm]
theorem k5l (k : Nat) : 5 * nI k = nI (5 * k) := by rw [show (5 : Int32) = nI 5 from rfl, pk_mul]
theorem p2 (k : Nat) : nI k + 2 = nI (k + 2) := nI_add k 2
theorem p3 (k : Nat) : nI k + 3 = nI (k + 3) := nI_add k 3
theorem p4 (k : Nat) : nI k + 4 = nI (k + 4) := nI_add k 4
theorem p5 (k : Nat) : nI k + 5 = nI (k + 5) := nI_add k 5
def hndM (I : Mem) (r : Nat → Int32) (e c : Nat) : Mem := va_up (va_up I 106 (rowF r e (nI c) (I 62 c) (I 63 c) (I 68 c) (I 70 c))) 105 (upd (I 105) 1 (nI (e + 1)))
theorem not_c {d e c : Nat} {I : Mem} {J : MemL} {R : MemR} (hs : I 105 1 = nI e) (he : e < 20) (hc : c < 6) : C (d + 1) MX0_note [.ref 105, .ref 60, .int (nI c)] (hp I J R) = some (none, hp (hndM I (I 106) e c) J R) := by
  have c0 : nI e < (20 : Int32) := nI_lt (b := 20) he (by omega)
  unfold hndM rowF
  rw [eX0_note]
  simp (disch := omega) only [xX0_note_0, xX0_note_1, xX0_note_4, xX0_note_6, xX0_note_9, xX0_note_10, xX0_note_13, xX0_note_14, xX0_note_15, xX0_note_18, xX0_note_19, xX0_note_21, xX0_note_24, xX0_note_25, xX0_note_27, xX0_note_30, xX0_note_31, xX0_note_34, xX0_note_35, xX0_note_36, xX0_note_37, xX0_note_38, xX0_note_41, xX0_note_42, xX0_note_43, xX0_note_44, xX0_note_45, xX0_note_48, xX0_note_49, xX0_note_50, xX0_note_51, xX0_note_52, xX0_note_55, xX0_note_56, xX0_note_57, xX0_note_58, xX0_note_59, xX0_note_62, xX0_note_63, xX0_note_64, xX0_note_65, xX0_note_66, xX0_note_69, xX0_note_70, xX0_note_71, xX0_note_72, xX0_note_73, xX0_note_76, xX0_note_77, xX0_note_78, xX0_note_79, xX0_note_80, xX0_note_83, xX0_note_84, xX0_note_85, xX0_note_86, xX0_note_87, xX0_note_90, xX0_note_91, xX0_note_92, xX0_note_93, xX0_note_94, xX0_note_97, xX0_note_98, xX0_note_99, xX0_note_100, xX0_note_101, xX0_note_101I, xX0_note_102, xX0_note_105, xX0_note_106, xX0_note_107, xX0_note_110, kd_105, fi_105_0, kd_106, ln_106, kd_60, fi_60_6, kd_62, ln_62, fi_60_7, kd_63, ln_63, fi_60_12, kd_68, ln_68, fi_60_14, kd_70, ln_70, ↓reduceIte, gd_t, hK_p, hN_p, hF_p, hI_p, hJ_p, hR_p, stI_p, stJ_p, stR_p, stA_p, va_rf_s, va_rf_n, clr_i, clr_l, clr_r, clr_n, clr_o, w8_0, w8_1i, w8_1r, w8_2ii, w8_2ri, w8_2ir, w8_2rr, w8_3, beq_self_eq_true, Bool.and_self, Bool.and_true, Bool.true_and, decide_true, Option.toList_some, Option.toList_none, List.cons_append, List.nil_append, Option.bind_some, if_true, if_false, Nat.reduceLeDiff, Nat.reduceLT, Nat.reduceBEq, Bool.or_false, Bool.false_or, Bool.or_true, Bool.true_or, nI_leI, nI_ltI, nI_eq, nI_clamp, inb_n, up_s, up_n, bx_uu, nI_1, ix6, nI_0n, pk_us, pk_un, ge_0n, hs, c0, k5r, p2, p3, p4]
theorem not_c2 {d c : Nat} {I : Mem} {J : MemL} {R : MemR} (hs : I 105 1 = nI 20) (hc : c < 6) : C (d + 1) MX0_note [.ref 105, .ref 60, .int (nI c)] (hp I J R) = some (none, hp (hndM I (shf (I 106)) 19 c) J R) := by
  have c0 : ¬ nI 20 < (20 : Int32) := by decide
  have l19 : (19 : Int32) = nI 19 := rfl
  have c1 : ¬ (95 : Int32) < 0 := by decide
  have c2 : ¬ (5 : Int32) < 0 := by decide
  have c3 : ¬ (0 : Int32) < 0 := by decide
  have d1 : (95 : Int32).toNatClampNeg = 95 := rfl
  have d2 : (5 : Int32).toNatClampNeg = 5 := rfl
  unfold hndM rowF
  rw [eX0_note]
  simp (disch := omega) only [xX0_note_0, xX0_note_1, xX0_note_4, xX0_note_6, xX0_note_9, xX0_note_10, xX0_note_13, xX0_note_14, xX0_note_15, xX0_note_18, xX0_note_19, xX0_note_21, xX0_note_24, xX0_note_25, xX0_note_27, xX0_note_30, xX0_note_31, xX0_note_34, xX0_note_35, xX0_note_36, xX0_note_37, xX0_note_38, xX0_note_41, xX0_note_42, xX0_note_43, xX0_note_44, xX0_note_45, xX0_note_48, xX0_note_49, xX0_note_50, xX0_note_51, xX0_note_52, xX0_note_55, xX0_note_56, xX0_note_57, xX0_note_58, xX0_note_59, xX0_note_62, xX0_note_63, xX0_note_64, xX0_note_65, xX0_note_66, xX0_note_69, xX0_note_70, xX0_note_71, xX0_note_72, xX0_note_73, xX0_note_76, xX0_note_77, xX0_note_78, xX0_note_79, xX0_note_80, xX0_note_83, xX0_note_84, xX0_note_85, xX0_note_86, xX0_note_87, xX0_note_90, xX0_note_91, xX0_note_92, xX0_note_93, xX0_note_94, xX0_note_97, xX0_note_98, xX0_note_99, xX0_note_100, xX0_note_101, xX0_note_101I, xX0_note_102, xX0_note_105, xX0_note_106, xX0_note_107, xX0_note_110, kd_105, fi_105_0, kd_106, ln_106, kd_60, fi_60_6, kd_62, ln_62, fi_60_7, kd_63, ln_63, fi_60_12, kd_68, ln_68, fi_60_14, kd_70, ln_70, ↓reduceIte, gd_t, hK_p, hN_p, hF_p, hI_p, hJ_p, hR_p, stI_p, stJ_p, stR_p, stA_p, va_rf_s, va_rf_n, clr_i, clr_l, clr_r, clr_n, clr_o, w8_0, w8_1i, w8_1r, w8_2ii, w8_2ri, w8_2ir, w8_2rr, w8_3, beq_self_eq_true, Bool.and_self, Bool.and_true, Bool.true_and, decide_true, Option.toList_some, Option.toList_none, List.cons_append, List.nil_append, Option.bind_some, if_true, if_false, Nat.reduceLeDiff, Nat.reduceLT, Nat.reduceBEq, Bool.or_false, Bool.false_or, Bool.or_true, Bool.true_or, nI_leI, nI_ltI, nI_eq, nI_clamp, inb_n, up_s, up_n, bx_uu, nI_1, ix6, nI_0n, pk_us, pk_un, ge_0n, hs, c0, c1, c2, c3, d1, d2, sb_cl0, decide_false, Bool.not_false, shf_c, l19, k5r, p2, p3, p4, uu, Nat.reduceAdd, Nat.reduceMul]
  rw [up_31 (show (106 : Nat) ≠ 105 by decide), bx_uu]
def hnmM (I : Mem) (r : Nat → Int32) (e c : Nat) : Mem := va_up (va_up I 162 (rowF r e (nI c) (I 151 c) (I 152 c) (I 154 c) (I 156 c))) 123 (upd (I 123) 73 (nI (e + 1)))
theorem rem_m {d e c : Nat} {I : Mem} {J : MemL} {R : MemR} (hs : I 123 73 = nI e) (he : e < 20) (hc : c < 6) : C (d + 1) MX12_remember [.ref 123, .int (nI c)] (hp I J R) = some (none, hp (hnmM I (I 162) e c) J R) := by
  have c0 : ¬ nI e = (20 : Int32) := fun q => absurd ((nI_eq (b := 20) (by omega) (by omega)).mp q) (by omega)
  unfold hnmM rowF
  rw [eX12_remember]
  simp (disch := omega) only [xX12_remember_0, xX12_remember_1, xX12_remember_4, xX12_remember_6, kd_123, fi_123_55, kd_151, ln_151, fi_123_56, kd_152, ln_152, fi_123_58, kd_154, ln_154, fi_123_60, kd_156, ln_156, fi_123_74, kd_162, ln_162, xX12_remember_37, xX12_remember_38, xX12_remember_38I, xX12_remember_39, xX12_remember_42, xX12_remember_43, xX12_remember_44, xX12_remember_47, xX12_remember_48, xX12_remember_51, xX12_remember_52, xX12_remember_53, xX12_remember_56, xX12_remember_57, xX12_remember_58, xX12_remember_59, xX12_remember_60, xX12_remember_63, xX12_remember_64, xX12_remember_65, xX12_remember_68, xX12_remember_69, xX12_remember_70, xX12_remember_71, xX12_remember_72, xX12_remember_75, xX12_remember_76, xX12_remember_77, xX12_remember_78, xX12_remember_79, xX12_remember_82, xX12_remember_83, xX12_remember_84, xX12_remember_87, xX12_remember_88, xX12_remember_89, xX12_remember_90, xX12_remember_91, xX12_remember_94, xX12_remember_95, xX12_remember_96, xX12_remember_97, xX12_remember_98, xX12_remember_101, xX12_remember_102, xX12_remember_103, xX12_remember_106, xX12_remember_107, xX12_remember_108, xX12_remember_109, xX12_remember_110, xX12_remember_113, xX12_remember_114, xX12_remember_115, xX12_remember_116, xX12_remember_117, xX12_remember_120, xX12_remember_121, xX12_remember_122, xX12_remember_125, xX12_remember_126, xX12_remember_127, xX12_remember_128, xX12_remember_129, xX12_remember_132, xX12_remember_133, xX12_remember_134, xX12_remember_135, xX12_remember_136, xX12_remember_136I, xX12_remember_137, xX12_remember_140, xX12_remember_141, xX12_remember_142, xX12_remember_145, kd_123, fi_123_55, kd_151, ln_151, fi_123_56, kd_152, ln_152, fi_123_58, kd_154, ln_154, fi_123_60, kd_156, ln_156, fi_123_74, kd_162, ln_162, ↓reduceIte, gd_t, hK_p, hN_p, hF_p, hI_p, hJ_p, hR_p, stI_p, stJ_p, stR_p, stA_p, va_rf_s, va_rf_n, clr_i, clr_l, clr_r, clr_n, clr_o, w8_0, w8_1i, w8_1r, w8_2ii, w8_2ri, w8_2ir, w8_2rr, w8_3, beq_self_eq_true, Bool.and_self, Bool.and_true, Bool.true_and, decide_true, Option.toList_some, Option.toList_none, List.cons_append, List.nil_append, Option.bind_some, if_true, if_false, Nat.reduceLeDiff, Nat.reduceLT, Nat.reduceBEq, Bool.or_false, Bool.false_or, Bool.or_true, Bool.true_or, nI_leI, nI_ltI, nI_eq, nI_clamp, inb_n, up_s, up_n, bx_uu, nI_1, ix6, nI_0n, pk_us, pk_un, ge_0n, hs, c0, k5l, p2, p3, p4, not_false_eq_true]
theorem shf_m {r : Nat → Int32} : itf (fun i r => upd r i (r (i + 5))) 95 0 r = shf r := by
  have h := itf_inv (f := fun i (r : Nat → Int32) => upd r i (r (i + 5))) (n := 95) (Q := fun i s => ∀ k, s k = if k < i then r (k + 5) else r k) (fun i s hi hq k => by
    by_cases hk : k = i
    · subst hk
      rw [pk_us, if_pos (by omega), hq, if_neg (by omega)]
    · rw [pk_un hk, hq]
      by_cases h2 : k < i
      · rw [if_pos h2, if_pos (by omega)]
      · rw [if_neg h2, if_neg (by omega)]) 95 0 r (by omega) (fun k => by rw [if_neg (by omega)])
  funext k
  rw [h k]
  rfl
theorem rem_m2 {d c : Nat} {I : Mem} {J : MemL} {R : MemR} (hs : I 123 73 = nI 20) (hc : c < 6) : C (d + 1) MX12_remember [.ref 123, .int (nI c)] (hp I J R) = some (none, hp (hnmM I (shf (I 162)) 19 c) J R) := by
  have c0 : nI 20 = (20 : Int32) := rfl
  have h := for_0 (P := fun i r => E (C d) MX12_remember 11 [some (.ref 123), some (.int (nI c)), some (.int (nI i))] [] (hp (va_up I 162 r) J R)) (f := fun i r => upd r i (r (i + 5))) (fin := fun r => E (C d) MX12_remember 37 [some (.ref 123), some (.int (nI c)), some (.int (nI 95))] [] (hp (va_up I 162 r) J R)) (n := 95) (s := I 162) (by
    intro i r hi
    have c1 : ¬ (95 : Int32) ≤ nI i := nI_ge (b := 95) hi (by omega)
    rw [xX12_remember_11]
    simp (disch := omega) only [xX12_remember_12, xX12_remember_14, xX12_remember_17, xX12_remember_18, xX12_remember_21, xX12_remember_22, xX12_remember_23, xX12_remember_26, xX12_remember_27, xX12_remember_28, xX12_remember_29, xX12_remember_30, xX12_remember_31, xX12_remember_34, kd_123, fi_123_55, kd_151, ln_151, fi_123_56, kd_152, ln_152, fi_123_58, kd_154, ln_154, fi_123_60, kd_156, ln_156, fi_123_74, kd_162, ln_162, ↓reduceIte, gd_t, hK_p, hN_p, hF_p, hI_p, hJ_p, hR_p, stI_p, stJ_p, stR_p, stA_p, va_rf_s, va_rf_n, clr_i, clr_l, clr_r, clr_n, clr_o, w8_0, w8_1i, w8_1r, w8_2ii, w8_2ri, w8_2ir, w8_2rr, w8_3, beq_self_eq_true, Bool.and_self, Bool.and_true, Bool.true_and, decide_true, Option.toList_some, Option.toList_none, List.cons_append, List.nil_append, Option.bind_some, if_true, if_false, Nat.reduceLeDiff, Nat.reduceLT, Nat.reduceBEq, Bool.or_false, Bool.false_or, Bool.or_true, Bool.true_or, nI_leI, nI_ltI, nI_eq, nI_clamp, inb_n, up_s, up_n, bx_uu, nI_1, ix6, nI_0n, pk_us, pk_un, ge_0n, c1, p5]) (by
    intro r
    have c1 : (95 : Int32) ≤ nI 95 := by decide
    rw [xX12_remember_11]
    simp (disch := omega) only [xX12_remember_12, xX12_remember_14, xX12_remember_17, xX12_remember_18, xX12_remember_21, xX12_remember_22, xX12_remember_23, xX12_remember_26, xX12_remember_27, xX12_remember_28, xX12_remember_29, xX12_remember_30, xX12_remember_31, xX12_remember_34, kd_123, fi_123_55, kd_151, ln_151, fi_123_56, kd_152, ln_152, fi_123_58, kd_154, ln_154, fi_123_60, kd_156, ln_156, fi_123_74, kd_162, ln_162, ↓reduceIte, gd_t, hK_p, hN_p, hF_p, hI_p, hJ_p, hR_p, stI_p, stJ_p, stR_p, stA_p, va_rf_s, va_rf_n, clr_i, clr_l, clr_r, clr_n, clr_o, w8_0, w8_1i, w8_1r, w8_2ii, w8_2ri, w8_2ir, w8_2rr, w8_3, beq_self_eq_true, Bool.and_self, Bool.and_true, Bool.true_and, decide_true, Option.toList_some, Option.toList_none, List.cons_append, List.nil_append, Option.bind_some, if_true, if_false, Nat.reduceLeDiff, Nat.reduceLT, Nat.reduceBEq, Bool.or_false, Bool.false_or, Bool.or_true, Bool.true_or, nI_leI, nI_ltI, nI_eq, nI_clamp, inb_n, up_s, up_n, bx_uu, nI_1, ix6, nI_0n, pk_us, pk_un, ge_0n, c1])
  rw [up_self, shf_m, nI_0] at h
  have e19 : (20 : Int32) - 1 = nI 19 := rfl
  unfold hnmM rowF
  rw [eX12_remember]
  simp (disch := omega) only [xX12_remember_0, xX12_remember_1, xX12_remember_4, xX12_remember_6, xX12_remember_9, xX12_remember_10, kd_123, fi_123_55, kd_151, ln_151, fi_123_56, kd_152, ln_152, fi_123_58, kd_154, ln_154, fi_123_60, kd_156, ln_156, fi_123_74, kd_162, ln_162, ↓reduceIte, gd_t, hK_p, hN_p, hF_p, hI_p, hJ_p, hR_p, stI_p, stJ_p, stR_p, stA_p, va_rf_s, va_rf_n, clr_i, clr_l, clr_r, clr_n, clr_o, w8_0, w8_1i, w8_1r, w8_2ii, w8_2ri, w8_2ir, w8_2rr, w8_3, beq_self_eq_true, Bool.and_self, Bool.and_true, Bool.true_and, decide_true, Option.toList_some, Option.toList_none, List.cons_append, List.nil_append, Option.bind_some, if_true, if_false, Nat.reduceLeDiff, Nat.reduceLT, Nat.reduceBEq, Bool.or_false, Bool.false_or, Bool.or_true, Bool.true_or, nI_leI, nI_ltI, nI_eq, nI_clamp, inb_n, up_s, up_n, bx_uu, nI_1, ix6, nI_0n, pk_us, pk_un, ge_0n, hs, c0, not_true_eq_false]
  rw [h]
  simp (disch := omega) only [xX12_remember_37, xX12_remember_38, xX12_remember_38I, xX12_remember_39, xX12_remember_42, xX12_remember_43, xX12_remember_44, xX12_remember_47, xX12_remember_48, xX12_remember_51, xX12_remember_52, xX12_remember_53, xX12_remember_56, xX12_remember_57, xX12_remember_58, xX12_remember_59, xX12_remember_60, xX12_remember_63, xX12_remember_64, xX12_remember_65, xX12_remember_68, xX12_remember_69, xX12_remember_70, xX12_remember_71, xX12_remember_72, xX12_remember_75, xX12_remember_76, xX12_remember_77, xX12_remember_78, xX12_remember_79, xX12_remember_82, xX12_remember_83, xX12_remember_84, xX12_remember_87, xX12_remember_88, xX12_remember_89, xX12_remember_90, xX12_remember_91, xX12_remember_94, xX12_remember_95, xX12_remember_96, xX12_remember_97, xX12_remember_98, xX12_remember_101, xX12_remember_102, xX12_remember_103, xX12_remember_106, xX12_remember_107, xX12_remember_108, xX12_remember_109, xX12_remember_110, xX12_remember_113, xX12_remember_114, xX12_remember_115, xX12_remember_116, xX12_remember_117, xX12_remember_120, xX12_remember_121, xX12_remember_122, xX12_remember_125, xX12_remember_126, xX12_remember_127, xX12_remember_128, xX12_remember_129, xX12_remember_132, xX12_remember_133, xX12_remember_134, xX12_remember_135, xX12_remember_136, xX12_remember_136I, xX12_remember_137, xX12_remember_140, xX12_remember_141, xX12_remember_142, xX12_remember_145, kd_123, fi_123_55, kd_151, ln_151, fi_123_56, kd_152, ln_152, fi_123_58, kd_154, ln_154, fi_123_60, kd_156, ln_156, fi_123_74, kd_162, ln_162, ↓reduceIte, gd_t, hK_p, hN_p, hF_p, hI_p, hJ_p, hR_p, stI_p, stJ_p, stR_p, stA_p, va_rf_s, va_rf_n, clr_i, clr_l, clr_r, clr_n, clr_o, w8_0, w8_1i, w8_1r, w8_2ii, w8_2ri, w8_2ir, w8_2rr, w8_3, beq_self_eq_true, Bool.and_self, Bool.and_true, Bool.true_and, decide_true, Option.toList_some, Option.toList_none, List.cons_append, List.nil_append, Option.bind_some, if_true, if_false, Nat.reduceLeDiff, Nat.reduceLT, Nat.reduceBEq, Bool.or_false, Bool.false_or, Bool.or_true, Bool.true_or, nI_leI, nI_ltI, nI_eq, nI_clamp, inb_n, up_s, up_n, bx_uu, nI_1, ix6, nI_0n, pk_us, pk_un, ge_0n, hs, c0, e19, k5l, p2, p3, p4, uu, Nat.reduceMul, Nat.reduceAdd]
  rw [up_31 (show (162 : Nat) ≠ 123 by decide), bx_uu]
/-- the rows of both behind a note -/
theorem hnd_note {I I2 : Mem} {n nb e c : Nat} {r r' : Nat → Int32} (he : e < 20) (hc : c < n) (h105 : I2 105 1 = nI (e + 1)) (h73 : I2 123 73 = nI (e + 1)) (h106 : I2 106 = rowF r e (nI c) (I 62 c) (I 63 c) (I 68 c) (I 70 c)) (h162 : I2 162 = rowF r' e (nI c) (I 151 c) (I 152 c) (I 154 c) (I 156 c))
    (hx : ∃ x, x < nb ∧ I 62 c = nI x) (hp : inN (I 63 c) 0 30) (q1 : I 62 c = I 151 c) (q2 : I 63 c = I 152 c) (q3 : I 68 c = I 154 c) (q4 : I 70 c = I 156 c)
    (hr : ∀ k, k < e → (∃ c, c < n ∧ r (5 * k) = nI c) ∧ (∃ x, x < nb ∧ r (5 * k + 1) = nI x) ∧ inN (r (5 * k + 2)) 0 30 ∧ ∀ j, j < 5 → r (5 * k + j) = r' (5 * k + j)) : cHnd I2 n nb := by
  refine ⟨e + 1, h105, h73, by omega, fun k hk => ?_⟩
  rw [h106, h162]
  by_cases hke : k = e
  · subst hke
    unfold rowF
    refine ⟨⟨c, hc, ?_⟩, ?_, ?_, fun j hj => ?_⟩
    · simp (disch := omega) only [pk_un, pk_us]
    · simp (disch := omega) only [pk_un, pk_us]
      exact hx
    · simp (disch := omega) only [pk_un, pk_us]
      exact hp
    · rcases (show j = 0 ∨ j = 1 ∨ j = 2 ∨ j = 3 ∨ j = 4 by omega) with rfl | rfl | rfl | rfl | rfl
      · simp (disch := omega) only [pk_un, pk_us, Nat.add_zero]
      · simp (disch := omega) only [pk_un, pk_us]
        exact q1
      · simp (disch := omega) only [pk_un, pk_us]
        exact q2
      · simp (disch := omega) only [pk_un, pk_us]
        exact q3
      · simp (disch := omega) only [pk_un, pk_us]
        exact q4
  · have hlt : k < e := by omega
    have hrow : ∀ (r : Nat → Int32) (x y z u v : Int32) (j : Nat), j < 5 → rowF r e x y z u v (5 * k + j) = r (5 * k + j) := by
      intro r x y z u v j hj
      unfold rowF
      simp (disch := omega) only [pk_un]
    have h0 : ∀ (r : Nat → Int32) (x y z u v : Int32), rowF r e x y z u v (5 * k) = r (5 * k) := fun r x y z u v => hrow r x y z u v 0 (by omega)
    obtain ⟨a1, a2, a3, a4⟩ := hr k hlt
    refine ⟨?_, ?_, ?_, fun j hj => ?_⟩
    · rw [h0]; exact a1
    · rw [hrow _ _ _ _ _ _ 1 (by omega)]; exact a2
    · rw [hrow _ _ _ _ _ _ 2 (by omega)]; exact a3
    · rw [hrow _ _ _ _ _ _ j hj, hrow _ _ _ _ _ _ j hj]; exact a4 j hj
/-- note and remember: what both do, by the number that stands -/
theorem note_both {I : Mem} {R : MemR} {t t' n nb nm fL lL fG lG st c : Nat} (h : cAll I R t t' n nb nm fL lL fG lG st) (hc : c < n) : ∃ e r r', e < 20 ∧ (∀ (d : Nat) (J : MemL), C (d + 1) MX0_note [.ref 105, .ref 60, .int (nI c)] (hp I J R) = some (none, hp (hndM I r e c) J R)) ∧
    (∀ (d : Nat) (I2 : Mem) (J : MemL) (R : MemR), I2 123 73 = I 123 73 → I2 162 = I 162 → C (d + 1) MX12_remember [.ref 123, .int (nI c)] (hp I2 J R) = some (none, hp (hnmM I2 r' e c) J R)) ∧
    ∀ k, k < e → (∃ c, c < n ∧ r (5 * k) = nI c) ∧ (∃ x, x < nb ∧ r (5 * k + 1) = nI x) ∧ inN (r (5 * k + 2)) 0 30 ∧ ∀ j, j < 5 → r (5 * k + j) = r' (5 * k + j) := by
  have hn6 := h.n6
  obtain ⟨hs, s1, s2, s3, s4⟩ := h.hnd
  by_cases h20 : hs = 20
  · subst h20
    refine ⟨19, shf (I 106), shf (I 162), by omega, fun d J => not_c2 s1 (by omega), fun d I2 J R e1 e2 => ?_, fun k hk => ?_⟩
    · have := rem_m2 (d := d) (c := c) (I := I2) (J := J) (R := R) (by rw [e1]; exact s2) (by omega)
      rw [e2] at this
      exact this
    · have hr : ∀ (r : Nat → Int32) j, j < 5 → shf r (5 * k + j) = r (5 * (k + 1) + j) := by
        intro r j hj
        unfold shf
        rw [if_pos (by omega)]
        congr 1
        omega
      have h0 : ∀ (r : Nat → Int32), shf r (5 * k) = r (5 * (k + 1)) := fun r => hr r 0 (by omega)
      obtain ⟨a1, a2, a3, a4⟩ := s4 (k + 1) (by omega)
      refine ⟨?_, ?_, ?_, fun j hj => ?_⟩
      · rw [h0]; exact a1
      · rw [hr _ 1 (by omega)]; exact a2
      · rw [hr _ 2 (by omega)]; exact a3
      · rw [hr _ j hj, hr _ j hj]; exact a4 j hj
  · refine ⟨hs, I 106, I 162, by omega, fun d J => not_c s1 (by omega) (by omega), fun d I2 J R e1 e2 => ?_, s4⟩
    have := rem_m (d := d) (c := c) (e := hs) (I := I2) (J := J) (R := R) (by rw [e1]; exact s2) (by omega) (by omega)
    rw [e2] at this
    exact this
theorem stop_p {I : Mem} {J : MemL} {R : MemR} {t t' n nb nm fL lL fG lG st : Nat} (h : cAll I R t t' n nb nm fL lL fG lG st) {x : Int32} : chgP MX11_stop MX12_stop [.int x] I J R t t' n nb nm fL lL fG lG := by
  have hn6 := h.n6
  have ht := te_hi h.te
  have n1 : ¬ (1 : Int32) = 0 := by decide
  rcases ic_or (x := x) h.n6 with ⟨c, hc, rfl, e⟩ | e
  · obtain ⟨c1, c2, c3, c4, c5, c6, c7, c8, ⟨c9, c9'⟩, c10, c11, c12⟩ := h.now
    obtain ⟨s1, s2, s3, s4, s5⟩ := c11 c hc
    obtain ⟨b1, b2, b3, b4⟩ := c9 c hc
    rw [Nat.zero_add] at b1 b3
    by_cases z : I 70 c = 2
    · refine askP.chg h (askP.mk0 (v := 0) (w := 0) ?_ ?_ rfl)
      · rw [eX11_stop]
        simp (disch := omega) only [xX11_stop_0, xX11_stop_1, xX11_stop_2, xX11_stop_5, xX11_stop_8, xX11_stop_9, xX11_stop_12, xX11_stop_15, xX11_stop_16, xX11_stop_17, xX11_stop_18, xX11_stop_21, xX11_stop_22, xX11_stop_23, xX11_stop_24, xX11_stop_27, xX11_stop_28, xX11_stop_31, xX11_stop_32, xX11_stop_35, xX11_stop_36, xX11_stop_39, xX11_stop_42, xX11_stop_43, xX11_stop_44, xX11_stop_45, xX11_stop_46, xX11_stop_49, xX11_stop_52, xX11_stop_53, xX11_stop_54, xX11_stop_55, xX11_stop_56, kd_0, fi_0_5, kd_60, fi_0_10, kd_105, fi_60_12, kd_68, ln_68, fi_60_14, kd_70, ln_70, kd_0, ↓reduceIte, gd_t, hK_p, hN_p, hF_p, hI_p, hJ_p, hR_p, stI_p, stJ_p, stR_p, stA_p, va_rf_s, va_rf_n, clr_i, clr_l, clr_r, clr_n, clr_o, w8_0, w8_1i, w8_1r, w8_2ii, w8_2ri, w8_2ir, w8_2rr, w8_3, beq_self_eq_true, Bool.and_self, Bool.and_true, Bool.true_and, decide_true, Option.toList_some, Option.toList_none, List.cons_append, List.nil_append, Option.bind_some, if_true, if_false, Nat.reduceLeDiff, Nat.reduceLT, Nat.reduceBEq, Bool.or_false, Bool.false_or, Bool.or_true, Bool.true_or, nI_leI, nI_ltI, nI_eq, nI_clamp, inb_n, up_s, up_n, bx_uu, nI_1, ix6, nI_0n, pk_us, pk_un, ge_0n, icl_c h.te h.r3, h.nc, e, n1, z, z01, not_true_eq_false]
      · rw [eX12_stop]
        simp (disch := omega) only [xX12_stop_0, xX12_stop_1, xX12_stop_2, xX12_stop_5, xX12_stop_6, xX12_stop_7, xX12_stop_10, xX12_stop_13, xX12_stop_14, xX12_stop_17, xX12_stop_18, xX12_stop_19, xX12_stop_20, xX12_stop_23, xX12_stop_24, xX12_stop_25, xX12_stop_26, xX12_stop_27, xX12_stop_30, xX12_stop_31, xX12_stop_34, xX12_stop_35, xX12_stop_36, xX12_stop_37, xX12_stop_38, xX12_stop_41, xX12_stop_42, xX12_stop_43, xX12_stop_44, xX12_stop_45, kd_123, fi_123_58, kd_154, ln_154, fi_123_60, kd_156, ln_156, kd_123, ↓reduceIte, gd_t, hK_p, hN_p, hF_p, hI_p, hJ_p, hR_p, stI_p, stJ_p, stR_p, stA_p, va_rf_s, va_rf_n, clr_i, clr_l, clr_r, clr_n, clr_o, w8_0, w8_1i, w8_1r, w8_2ii, w8_2ri, w8_2ir, w8_2rr, w8_3, beq_self_eq_true, Bool.and_self, Bool.and_true, Bool.true_and, decide_true, Option.toList_some, Option.toList_none, List.cons_append, List.nil_append, Option.bind_some, if_true, if_false, Nat.reduceLeDiff, Nat.reduceLT, Nat.reduceBEq, Bool.or_false, Bool.false_or, Bool.or_true, Bool.true_or, nI_leI, nI_ltI, nI_eq, nI_clamp, inb_n, up_s, up_n, bx_uu, nI_1, ix6, nI_0n, pk_us, pk_un, ge_0n, icl_m, h.nd, e, n1, ← s5, z, z01, not_true_eq_false]
    · obtain ⟨en, r, r', he, hC, hM, hr⟩ := note_both h hc
      have hm := fun I2 R => hM 9 I2 J R
      refine ⟨1, va_up (va_up (hndM I r en c) 70 (upd (I 70) c 2)) 68 (upd (I 68) c 0), J, R, va_up (va_up (hnmM (va_up (va_up (va_up (hndM I r en c) 70 (upd (I 70) c 2)) 68 (upd (I 68) c 0)) 123 (upd (I 123) 2 0)) r' en c) 154 (upd (I 154) c 0)) 156 (upd (I 156) c 2), J, st, ?_, ?_, ?_, ?_⟩
      · have o70 : hndM I r en c 70 = I 70 := by unfold hndM; simp (disch := omega) only [up_n]
        have o68 : hndM I r en c 68 = I 68 := by unfold hndM; simp (disch := omega) only [up_n]
        rw [eX11_stop]
        simp (disch := omega) only [xX11_stop_0, xX11_stop_1, xX11_stop_2, xX11_stop_5, xX11_stop_8, xX11_stop_9, xX11_stop_12, xX11_stop_15, xX11_stop_16, xX11_stop_17, xX11_stop_18, xX11_stop_21, xX11_stop_22, xX11_stop_23, xX11_stop_24, xX11_stop_27, xX11_stop_28, xX11_stop_31, xX11_stop_32, xX11_stop_35, xX11_stop_36, xX11_stop_39, xX11_stop_42, xX11_stop_43, xX11_stop_44, xX11_stop_45, xX11_stop_46, xX11_stop_49, xX11_stop_52, xX11_stop_53, xX11_stop_54, xX11_stop_55, xX11_stop_56, kd_0, fi_0_5, kd_60, fi_0_10, kd_105, fi_60_12, kd_68, ln_68, fi_60_14, kd_70, ln_70, kd_0, kd_105, ↓reduceIte, gd_t, hK_p, hN_p, hF_p, hI_p, hJ_p, hR_p, stI_p, stJ_p, stR_p, stA_p, va_rf_s, va_rf_n, clr_i, clr_l, clr_r, clr_n, clr_o, w8_0, w8_1i, w8_1r, w8_2ii, w8_2ri, w8_2ir, w8_2rr, w8_3, beq_self_eq_true, Bool.and_self, Bool.and_true, Bool.true_and, decide_true, Option.toList_some, Option.toList_none, List.cons_append, List.nil_append, Option.bind_some, if_true, if_false, Nat.reduceLeDiff, Nat.reduceLT, Nat.reduceBEq, Bool.or_false, Bool.false_or, Bool.or_true, Bool.true_or, nI_leI, nI_ltI, nI_eq, nI_clamp, inb_n, up_s, up_n, bx_uu, nI_1, ix6, nI_0n, pk_us, pk_un, ge_0n, icl_c h.te h.r3, h.nc, e, n1, z, z11, hC 9, o70, o68, not_false_eq_true]
      · have o : ∀ a, a ≠ 106 → a ≠ 105 → hndM I r en c a = I a := fun a h1 h2 => by unfold hndM; simp (disch := omega) only [up_n]
        have ho : ∀ (X : Mem) a, a ≠ 162 → a ≠ 123 → hnmM X r' en c a = X a := fun X a h1 h2 => by unfold hnmM; simp (disch := omega) only [up_n]
        have hm2 := hm (va_up (va_up (va_up (hndM I r en c) 70 (upd (I 70) c 2)) 68 (upd (I 68) c 0)) 123 (upd (I 123) 2 0)) R (by rw [up_s, pk_un (by decide)]) (by simp (disch := omega) only [up_n, o])
        rw [eX12_stop]
        simp (disch := omega) only [xX12_stop_0, xX12_stop_1, xX12_stop_2, xX12_stop_5, xX12_stop_6, xX12_stop_7, xX12_stop_10, xX12_stop_13, xX12_stop_14, xX12_stop_17, xX12_stop_18, xX12_stop_19, xX12_stop_20, xX12_stop_23, xX12_stop_24, xX12_stop_25, xX12_stop_26, xX12_stop_27, xX12_stop_30, xX12_stop_31, xX12_stop_34, xX12_stop_35, xX12_stop_36, xX12_stop_37, xX12_stop_38, xX12_stop_41, xX12_stop_42, xX12_stop_43, xX12_stop_44, xX12_stop_45, kd_123, fi_123_58, kd_154, ln_154, fi_123_60, kd_156, ln_156, kd_123, ↓reduceIte, gd_t, hK_p, hN_p, hF_p, hI_p, hJ_p, hR_p, stI_p, stJ_p, stR_p, stA_p, va_rf_s, va_rf_n, clr_i, clr_l, clr_r, clr_n, clr_o, w8_0, w8_1i, w8_1r, w8_2ii, w8_2ri, w8_2ir, w8_2rr, w8_3, beq_self_eq_true, Bool.and_self, Bool.and_true, Bool.true_and, decide_true, Option.toList_some, Option.toList_none, List.cons_append, List.nil_append, Option.bind_some, if_true, if_false, Nat.reduceLeDiff, Nat.reduceLT, Nat.reduceBEq, Bool.or_false, Bool.false_or, Bool.or_true, Bool.true_or, nI_leI, nI_ltI, nI_eq, nI_clamp, inb_n, up_s, up_n, bx_uu, nI_1, ix6, nI_0n, pk_us, pk_un, ge_0n, o, ho, icl_m, h.nd, e, n1, ← s5, z, z11, hm2, not_false_eq_true]
      · have o : ∀ a, a ≠ 105 → a ≠ 106 → a ≠ 70 → a ≠ 68 → a ≠ 123 → a ≠ 162 → a ≠ 154 → a ≠ 156 → va_up (va_up (hnmM (va_up (va_up (va_up (hndM I r en c) 70 (upd (I 70) c 2)) 68 (upd (I 68) c 0)) 123 (upd (I 123) 2 0)) r' en c) 154 (upd (I 154) c 0)) 156 (upd (I 156) c 2) a = I a := by
          intro a h1 h2 h3 h4 h5 h6 h7 h8
          unfold hnmM hndM
          simp (disch := omega) only [up_n]
        have f : ∀ k, k ≠ 2 → k ≠ 73 → va_up (va_up (hnmM (va_up (va_up (va_up (hndM I r en c) 70 (upd (I 70) c 2)) 68 (upd (I 68) c 0)) 123 (upd (I 123) 2 0)) r' en c) 154 (upd (I 154) c 0)) 156 (upd (I 156) c 2) 123 k = I 123 k := by
          intro k h1 h2
          unfold hnmM
          simp (disch := omega) only [up_n, up_s, pk_un]
        refine cAll_fr h (fun a q => o a (by omega) (by omega) (by omega) (by omega) (by omega) (by omega) (by omega) (by omega)) (fun k q => f k (by omega) (by omega)) ?_ ?_ (cHea_fr h.hea (fun a h1 h2 => o a (by omega) (by omega) (by omega) (by omega) (by omega) (by omega) (by omega) (by omega)) (o _ (by omega) (by omega) (by omega) (by omega) (by omega) (by omega) (by omega) (by omega)) (f _ (by omega) (by omega)) (f _ (by omega) (by omega))) rfl rfl
        · refine ⟨c1, ?_, ?_, ?_, c5, ?_, ?_, ?_, ⟨fun i hi => ?_, ?_⟩, ?_, fun i hi => ?_, ?_⟩
          · simp (disch := omega) only [o]; exact c2
          · simp (disch := omega) only [o]; exact c3
          · simp (disch := omega) only [f]; exact c4
          · simp (disch := omega) only [o]; exact c6
          · simp (disch := omega) only [o]; exact c7
          · simp (disch := omega) only [o]; exact c8
          · simp (disch := omega) only [o]; exact c9 i hi
          · simp (disch := omega) only [o]; exact c9'
          · simp (disch := omega) only [o]; exact c10
          · have e68 : va_up (va_up (hnmM (va_up (va_up (va_up (hndM I r en c) 70 (upd (I 70) c 2)) 68 (upd (I 68) c 0)) 123 (upd (I 123) 2 0)) r' en c) 154 (upd (I 154) c 0)) 156 (upd (I 156) c 2) 68 = upd (I 68) c 0 := by
              unfold hnmM
              simp (disch := omega) only [up_n, up_s]
            have e70 : va_up (va_up (hnmM (va_up (va_up (va_up (hndM I r en c) 70 (upd (I 70) c 2)) 68 (upd (I 68) c 0)) 123 (upd (I 123) 2 0)) r' en c) 154 (upd (I 154) c 0)) 156 (upd (I 156) c 2) 70 = upd (I 70) c 2 := by
              unfold hnmM
              simp (disch := omega) only [up_n, up_s]
            have e154 : va_up (va_up (hnmM (va_up (va_up (va_up (hndM I r en c) 70 (upd (I 70) c 2)) 68 (upd (I 68) c 0)) 123 (upd (I 123) 2 0)) r' en c) 154 (upd (I 154) c 0)) 156 (upd (I 156) c 2) 154 = upd (I 154) c 0 := by
              simp (disch := omega) only [up_n, up_s]
            have e156 : va_up (va_up (hnmM (va_up (va_up (va_up (hndM I r en c) 70 (upd (I 70) c 2)) 68 (upd (I 68) c 0)) 123 (upd (I 123) 2 0)) r' en c) 154 (upd (I 154) c 0)) 156 (upd (I 156) c 2) 156 = upd (I 156) c 2 := up_s _ _ _
            rw [e68, e70, e154, e156, o 67 (by omega) (by omega) (by omega) (by omega) (by omega) (by omega) (by omega) (by omega), o 69 (by omega) (by omega) (by omega) (by omega) (by omega) (by omega) (by omega) (by omega), o 153 (by omega) (by omega) (by omega) (by omega) (by omega) (by omega) (by omega) (by omega), o 155 (by omega) (by omega) (by omega) (by omega) (by omega) (by omega) (by omega) (by omega)]
            obtain ⟨d1, d2, d3, d4, d5⟩ := c11 i hi
            by_cases hic : i = c
            · subst hic
              exact ⟨d1, d2, by rw [pk_us, pk_us], d4, by rw [pk_us, pk_us]⟩
            · exact ⟨d1, d2, by rw [pk_un hic, pk_un hic]; exact d3, d4, by rw [pk_un hic, pk_un hic]; exact d5⟩
          · simp (disch := omega) only [o]; exact c12
        · refine hnd_note (I := I) (e := en) (c := c) (r := r) (r' := r') he hc ?_ ?_ ?_ ?_ b2 b4 b1 b3 s3 s5 hr
          · unfold hnmM hndM
            simp (disch := omega) only [up_n, up_s, pk_us]
          · unfold hnmM
            simp (disch := omega) only [up_n, up_s, pk_us]
          · unfold hnmM hndM
            simp (disch := omega) only [up_n, up_s]
          · unfold hnmM hndM
            simp (disch := omega) only [up_n, up_s]
      · refine Or.inr ⟨fun a h1 h2 => ?_, ?_, ?_, ?_, ?_, ?_, ?_⟩ <;> unfold hnmM hndM <;> simp (disch := omega) only [up_n]
  · refine askP.chg h (askP.mk0 (v := 0) (w := 0) ?_ ?_ rfl)
    · rw [eX11_stop]
      simp (disch := omega) only [xX11_stop_0, xX11_stop_1, xX11_stop_2, xX11_stop_5, xX11_stop_8, xX11_stop_9, xX11_stop_12, xX11_stop_15, xX11_stop_16, xX11_stop_17, xX11_stop_18, xX11_stop_21, xX11_stop_22, xX11_stop_23, xX11_stop_24, xX11_stop_27, xX11_stop_28, xX11_stop_31, xX11_stop_32, xX11_stop_35, xX11_stop_36, xX11_stop_39, xX11_stop_42, xX11_stop_43, xX11_stop_44, xX11_stop_45, xX11_stop_46, xX11_stop_49, xX11_stop_52, xX11_stop_53, xX11_stop_54, xX11_stop_55, xX11_stop_56, kd_0, fi_0_5, kd_60, fi_0_10, kd_105, fi_60_12, kd_68, ln_68, fi_60_14, kd_70, ln_70, kd_0, ↓reduceIte, gd_t, hK_p, hN_p, hF_p, hI_p, hJ_p, hR_p, stI_p, stJ_p, stR_p, stA_p, va_rf_s, va_rf_n, clr_i, clr_l, clr_r, clr_n, clr_o, w8_0, w8_1i, w8_1r, w8_2ii, w8_2ri, w8_2ir, w8_2rr, w8_3, beq_self_eq_true, Bool.and_self, Bool.and_true, Bool.true_and, decide_true, Option.toList_some, Option.toList_none, List.cons_append, List.nil_append, Option.bind_some, if_true, if_false, Nat.reduceLeDiff, Nat.reduceLT, Nat.reduceBEq, Bool.or_false, Bool.false_or, Bool.or_true, Bool.true_or, nI_leI, nI_ltI, nI_eq, nI_clamp, inb_n, up_s, up_n, bx_uu, nI_1, ix6, nI_0n, pk_us, pk_un, ge_0n, icl_c h.te h.r3, h.nc, e, z01]
    · rw [eX12_stop]
      simp (disch := omega) only [xX12_stop_0, xX12_stop_1, xX12_stop_2, xX12_stop_5, xX12_stop_6, xX12_stop_7, xX12_stop_10, xX12_stop_13, xX12_stop_14, xX12_stop_17, xX12_stop_18, xX12_stop_19, xX12_stop_20, xX12_stop_23, xX12_stop_24, xX12_stop_25, xX12_stop_26, xX12_stop_27, xX12_stop_30, xX12_stop_31, xX12_stop_34, xX12_stop_35, xX12_stop_36, xX12_stop_37, xX12_stop_38, xX12_stop_41, xX12_stop_42, xX12_stop_43, xX12_stop_44, xX12_stop_45, kd_123, fi_123_58, kd_154, ln_154, fi_123_60, kd_156, ln_156, kd_123, ↓reduceIte, gd_t, hK_p, hN_p, hF_p, hI_p, hJ_p, hR_p, stI_p, stJ_p, stR_p, stA_p, va_rf_s, va_rf_n, clr_i, clr_l, clr_r, clr_n, clr_o, w8_0, w8_1i, w8_1r, w8_2ii, w8_2ri, w8_2ir, w8_2rr, w8_3, beq_self_eq_true, Bool.and_self, Bool.and_true, Bool.true_and, decide_true, Option.toList_some, Option.toList_none, List.cons_append, List.nil_append, Option.bind_some, if_true, if_false, Nat.reduceLeDiff, Nat.reduceLT, Nat.reduceBEq, Bool.or_false, Bool.false_or, Bool.or_true, Bool.true_or, nI_leI, nI_ltI, nI_eq, nI_clamp, inb_n, up_s, up_n, bx_uu, nI_1, ix6, nI_0n, pk_us, pk_un, ge_0n, icl_m, h.nd, e, z01]

-- PAIRS, 2: named, count, reach, pull, was, apart
section ACC
variable {I : Mem} {R : MemR} {t t' n nb nm fL lL fG lG st : Nat}
theorem cAll.te (h : cAll I R t t' n nb nm fL lL fG lG st) : isTe t := h.1
theorem cAll.r3 (h : cAll I R t t' n nb nm fL lL fG lG st) : R 0 3 = some t := h.2.2.2.1
theorem cAll.r4 (h : cAll I R t t' n nb nm fL lL fG lG st) : R 0 4 = some t' := h.2.2.2.2.1
theorem cAll.txt (h : cAll I R t t' n nb nm fL lL fG lG st) : cTxt I t n nb nm := h.2.2.2.2.2.1
theorem cAll.lws (h : cAll I R t t' n nb nm fL lL fG lG st) : cLws I t fL lL fG lG := h.2.2.2.2.2.2.1
theorem cAll.kno (h : cAll I R t t' n nb nm fL lL fG lG st) : I 123 15 = nI (lL + lG) := h.2.2.2.2.2.2.2.1
theorem cAll.now (h : cAll I R t t' n nb nm fL lL fG lG st) : cNow I R t n nb st := h.2.2.2.2.2.2.2.2.1
theorem cAll.img (h : cAll I R t t' n nb nm fL lL fG lG st) : cImg I R t n nb st := h.2.2.2.2.2.2.2.2.2.1
theorem cAll.sto (h : cAll I R t t' n nb nm fL lL fG lG st) : cSto I n st := h.2.2.2.2.2.2.2.2.2.2.1
theorem cAll.hnd (h : cAll I R t t' n nb nm fL lL fG lG st) : cHnd I n nb := h.2.2.2.2.2.2.2.2.2.2.2.1
theorem cAll.hea (h : cAll I R t t' n nb nm fL lL fG lG st) : cHea I n := h.2.2.2.2.2.2.2.2.2.2.2.2.1
theorem cAll.tap (h : cAll I R t t' n nb nm fL lL fG lG st) : cTap I := h.2.2.2.2.2.2.2.2.2.2.2.2.2.1
theorem cAll.fau (h : cAll I R t t' n nb nm fL lL fG lG st) : cFau I := h.2.2.2.2.2.2.2.2.2.2.2.2.2.2
theorem cAll.n6 (h : cAll I R t t' n nb nm fL lL fG lG st) : n ≤ 6 := h.txt.2.1.2.2
theorem cAll.nc (h : cAll I R t t' n nb nm fL lL fG lG st) : I (t + 5) 1 = nI n := h.txt.2.1.1
theorem cAll.nd (h : cAll I R t t' n nb nm fL lL fG lG st) : I 123 13 = nI n := h.txt.2.1.2.1
theorem cAll.sc (h : cAll I R t t' n nb nm fL lL fG lG st) : I 60 2 = nI st := h.now.2.2.1
theorem cAll.sd (h : cAll I R t t' n nb nm fL lL fG lG st) : I 123 70 = nI st := h.now.2.2.2.1
theorem cAll.s4 (h : cAll I R t t' n nb nm fL lL fG lG st) : st ≤ 4000 := h.now.2.2.2.2.1
end ACC
/-- a call that asks: both answer alike, and all is kept -/
def askP (Mc Mm : Mth) (as : List Value) (I : Mem) (J : MemL) (R : MemR) : Prop := ∃ v I1 J1 R1 I2 J2, C 11 Mc (.ref 0 :: as) (hp I J R) = some (some (.int v), hp I1 J1 R1) ∧ C 11 Mm (.ref 123 :: as) (hp I1 J1 R1) = some (some (.int v), hp I2 J2 R1) ∧ kp I I2 ∧ R1 0 = R 0 ∧ R1 60 = R 60 ∧ R1 74 = R 74
theorem askP.mk0 {Mc Mm : Mth} {as : List Value} {I : Mem} {J : MemL} {R : MemR} {v w : Int32} (h1 : C 11 Mc (.ref 0 :: as) (hp I J R) = some (some (.int v), hp I J R)) (h2 : C 11 Mm (.ref 123 :: as) (hp I J R) = some (some (.int w), hp (va_up I 123 (upd (I 123) 2 0)) J R)) (e : v = w) : askP Mc Mm as I J R := ⟨v, I, J, R, _, J, h1, by rw [e]; exact h2, kp.thr, rfl, rfl, rfl⟩
theorem fault_p {I : Mem} {J : MemL} {R : MemR} {t t' n nb nm fL lL fG lG st : Nat} (h : cAll I R t t' n nb nm fL lL fG lG st) {x : Int32} : askP MX11_fault MX12_fault [.int x] I J R := by
  refine askP.mk0 fau_c fau_m ?_
  rw [h.fau.1, h.fau.2.1]
theorem nam_c {d t n nb nm : Nat} {I : Mem} {J : MemL} {R : MemR} {x y : Int32} (ht : isTe t) (hR : R 0 3 = some t) (hb : I (t + 1) 1 = nI nb) (hn : I (t + 5) 1 = nI n) (hm : I (t + 15) 1 = nI nm) (hb3 : nb ≤ 3) (hn6 : n ≤ 6) (hm4 : nm ≤ 4) :
    C (d + 2) MX11_named [.ref 0, .int x, .int y] (hp I J R) = some (some (.int (if x = 0 then fdF (I (t + 2)) nb y else if x = 1 then fdF (I (t + 6)) n y else if x = 2 then fdF (I (t + 16)) nm y else -1)), hp I J R) := by
  have f1 := fd_c (d := d) (I := I) (J := J) (R := R) (x := y) (te_k1 ht) (te_f1_0 ht) (te_k2 ht) (te_n2 ht) (by omega) hb hb3
  have f2 := fd_c (d := d) (I := I) (J := J) (R := R) (x := y) (te_k5 ht) (te_f5_0 ht) (te_k6 ht) (te_n6 ht) (by omega) hn hn6
  have f3 := fd_c (d := d) (I := I) (J := J) (R := R) (x := y) (te_k15 ht) (te_f15_0 ht) (te_k16 ht) (te_n16 ht) (by omega) hm hm4
  have n1 : ¬ (1 : Int32) = 0 := by decide
  have n2 : ¬ (2 : Int32) = 0 := by decide
  have n3 : ¬ (2 : Int32) = 1 := by decide
  rw [eX11_named]
  by_cases z : x = 0
  · simp only [xX11_named_0, xX11_named_1, xX11_named_28, xX11_named_29, xX11_named_32, xX11_named_35, xX11_named_36, xX11_named_39, xX11_named_40, xX11_named_41, xX11_named_44, xX11_named_47, xX11_named_48, xX11_named_51, xX11_named_52, xX11_named_53, xX11_named_56, xX11_named_59, xX11_named_60, xX11_named_63, xX11_named_64, xX11_named_65, kd_0, te_k0 ht, te_f0_0 ht, te_k1 ht, te_f0_3 ht, te_k5 ht, te_f0_13 ht, te_k15 ht, te_k1 ht, te_k5 ht, te_k15 ht, ↓reduceIte, gd_t, hK_p, hN_p, hF_p, hI_p, hJ_p, hR_p, stI_p, stJ_p, stR_p, stA_p, va_rf_s, va_rf_n, clr_i, clr_l, clr_r, clr_n, clr_o, w8_0, w8_1i, w8_1r, w8_2ii, w8_2ri, w8_2ir, w8_2rr, w8_3, beq_self_eq_true, Bool.and_self, Bool.and_true, Bool.true_and, decide_true, Option.toList_some, Option.toList_none, List.cons_append, List.nil_append, Option.bind_some, if_true, if_false, Nat.reduceLeDiff, Nat.reduceLT, Nat.reduceBEq, Bool.or_false, Bool.false_or, Bool.or_true, Bool.true_or, hR, z, f1]
  by_cases y : x = 1
  · simp only [xX11_named_0, xX11_named_1, xX11_named_28, xX11_named_29, xX11_named_32, xX11_named_35, xX11_named_36, xX11_named_39, xX11_named_40, xX11_named_41, xX11_named_44, xX11_named_47, xX11_named_48, xX11_named_51, xX11_named_52, xX11_named_53, xX11_named_56, xX11_named_59, xX11_named_60, xX11_named_63, xX11_named_64, xX11_named_65, kd_0, te_k0 ht, te_f0_0 ht, te_k1 ht, te_f0_3 ht, te_k5 ht, te_f0_13 ht, te_k15 ht, te_k1 ht, te_k5 ht, te_k15 ht, ↓reduceIte, gd_t, hK_p, hN_p, hF_p, hI_p, hJ_p, hR_p, stI_p, stJ_p, stR_p, stA_p, va_rf_s, va_rf_n, clr_i, clr_l, clr_r, clr_n, clr_o, w8_0, w8_1i, w8_1r, w8_2ii, w8_2ri, w8_2ir, w8_2rr, w8_3, beq_self_eq_true, Bool.and_self, Bool.and_true, Bool.true_and, decide_true, Option.toList_some, Option.toList_none, List.cons_append, List.nil_append, Option.bind_some, if_true, if_false, Nat.reduceLeDiff, Nat.reduceLT, Nat.reduceBEq, Bool.or_false, Bool.false_or, Bool.or_true, Bool.true_or, hR, y, n1, f2]
  by_cases w : x = 2
  · simp only [xX11_named_0, xX11_named_1, xX11_named_28, xX11_named_29, xX11_named_32, xX11_named_35, xX11_named_36, xX11_named_39, xX11_named_40, xX11_named_41, xX11_named_44, xX11_named_47, xX11_named_48, xX11_named_51, xX11_named_52, xX11_named_53, xX11_named_56, xX11_named_59, xX11_named_60, xX11_named_63, xX11_named_64, xX11_named_65, kd_0, te_k0 ht, te_f0_0 ht, te_k1 ht, te_f0_3 ht, te_k5 ht, te_f0_13 ht, te_k15 ht, te_k1 ht, te_k5 ht, te_k15 ht, ↓reduceIte, gd_t, hK_p, hN_p, hF_p, hI_p, hJ_p, hR_p, stI_p, stJ_p, stR_p, stA_p, va_rf_s, va_rf_n, clr_i, clr_l, clr_r, clr_n, clr_o, w8_0, w8_1i, w8_1r, w8_2ii, w8_2ri, w8_2ir, w8_2rr, w8_3, beq_self_eq_true, Bool.and_self, Bool.and_true, Bool.true_and, decide_true, Option.toList_some, Option.toList_none, List.cons_append, List.nil_append, Option.bind_some, if_true, if_false, Nat.reduceLeDiff, Nat.reduceLT, Nat.reduceBEq, Bool.or_false, Bool.false_or, Bool.or_true, Bool.true_or, hR, w, n2, n3, f3]
  simp only [xX11_named_0, xX11_named_1, xX11_named_28, xX11_named_29, xX11_named_32, xX11_named_35, xX11_named_36, xX11_named_39, xX11_named_40, xX11_named_41, xX11_named_44, xX11_named_47, xX11_named_48, xX11_named_51, xX11_named_52, xX11_named_53, xX11_named_56, xX11_named_59, xX11_named_60, xX11_named_63, xX11_named_64, xX11_named_65, kd_0, te_k0 ht, te_f0_0 ht, te_k1 ht, te_f0_3 ht, te_k5 ht, te_f0_13 ht, te_k15 ht, ↓reduceIte, gd_t, hK_p, hN_p, hF_p, hI_p, hJ_p, hR_p, stI_p, stJ_p, stR_p, stA_p, va_rf_s, va_rf_n, clr_i, clr_l, clr_r, clr_n, clr_o, w8_0, w8_1i, w8_1r, w8_2ii, w8_2ri, w8_2ir, w8_2rr, w8_3, beq_self_eq_true, Bool.and_self, Bool.and_true, Bool.true_and, decide_true, Option.toList_some, Option.toList_none, List.cons_append, List.nil_append, Option.bind_some, if_true, if_false, Nat.reduceLeDiff, Nat.reduceLT, Nat.reduceBEq, Bool.or_false, Bool.false_or, Bool.or_true, Bool.true_or, hR, z, y, w]
theorem nam_m {d n nb nm : Nat} {I : Mem} {J : MemL} {R : MemR} {x y : Int32} (hb : I 123 12 = nI nb) (hn : I 123 13 = nI n) (hm : I 123 14 = nI nm) (hb3 : nb ≤ 3) (hn6 : n ≤ 6) (hm4 : nm ≤ 4) :
    C (d + 2) MX12_named [.ref 123, .int x, .int y] (hp I J R) = some (some (.int (if x = 0 then fdF (I 126) nb y else if x = 1 then fdF (I 129) n y else if x = 2 then fdF (I 138) nm y else -1)), hp (va_up I 123 (upd (I 123) 2 0)) J R) := by
  have f1 := fd_m (d := d) (fr := 0) (n := nb) (I := va_up I 123 (upd (I 123) 2 0)) (J := J) (R := R) (x := y) kd_126 ln_126 (by omega) (by omega)
  have f2 := fd_m (d := d) (fr := 0) (n := n) (I := va_up I 123 (upd (I 123) 2 0)) (J := J) (R := R) (x := y) kd_129 ln_129 (by omega) (by omega)
  have f3 := fd_m (d := d) (fr := 0) (n := nm) (I := va_up I 123 (upd (I 123) 2 0)) (J := J) (R := R) (x := y) kd_138 ln_138 (by omega) (by omega)
  simp only [Nat.zero_add, nI_0] at f1 f2 f3
  rw [up_n (by decide)] at f1 f2 f3
  have n1 : ¬ (1 : Int32) = 0 := by decide
  have n2 : ¬ (2 : Int32) = 0 := by decide
  have n3 : ¬ (2 : Int32) = 1 := by decide
  rw [eX12_named]
  by_cases z : x = 0
  · simp (disch := omega) only [xX12_named_0, xX12_named_1, xX12_named_2, xX12_named_5, xX12_named_6, xX12_named_9, xX12_named_10, xX12_named_13, xX12_named_14, xX12_named_15, xX12_named_18, xX12_named_19, xX12_named_22, xX12_named_25, xX12_named_26, xX12_named_27, xX12_named_30, xX12_named_31, xX12_named_34, xX12_named_35, xX12_named_36, xX12_named_39, xX12_named_40, xX12_named_43, xX12_named_46, xX12_named_47, xX12_named_48, xX12_named_51, xX12_named_52, xX12_named_55, xX12_named_56, xX12_named_57, xX12_named_60, xX12_named_61, xX12_named_64, xX12_named_67, xX12_named_68, kd_123, fi_123_23, kd_126, ln_126, fi_123_26, kd_129, ln_129, fi_123_35, kd_138, ln_138, ↓reduceIte, gd_t, hK_p, hN_p, hF_p, hI_p, hJ_p, hR_p, stI_p, stJ_p, stR_p, stA_p, va_rf_s, va_rf_n, clr_i, clr_l, clr_r, clr_n, clr_o, w8_0, w8_1i, w8_1r, w8_2ii, w8_2ri, w8_2ir, w8_2rr, w8_3, beq_self_eq_true, Bool.and_self, Bool.and_true, Bool.true_and, decide_true, Option.toList_some, Option.toList_none, List.cons_append, List.nil_append, Option.bind_some, if_true, if_false, Nat.reduceLeDiff, Nat.reduceLT, Nat.reduceBEq, Bool.or_false, Bool.false_or, Bool.or_true, Bool.true_or, nI_leI, nI_ltI, nI_eq, nI_clamp, inb_n, up_s, up_n, bx_uu, nI_1, ix6, nI_0n, pk_us, pk_un, ge_0n, hb, z, f1, w8_4, not_true_eq_false]
  by_cases y : x = 1
  · simp (disch := omega) only [xX12_named_0, xX12_named_1, xX12_named_2, xX12_named_5, xX12_named_6, xX12_named_9, xX12_named_10, xX12_named_13, xX12_named_14, xX12_named_15, xX12_named_18, xX12_named_19, xX12_named_22, xX12_named_25, xX12_named_26, xX12_named_27, xX12_named_30, xX12_named_31, xX12_named_34, xX12_named_35, xX12_named_36, xX12_named_39, xX12_named_40, xX12_named_43, xX12_named_46, xX12_named_47, xX12_named_48, xX12_named_51, xX12_named_52, xX12_named_55, xX12_named_56, xX12_named_57, xX12_named_60, xX12_named_61, xX12_named_64, xX12_named_67, xX12_named_68, kd_123, fi_123_23, kd_126, ln_126, fi_123_26, kd_129, ln_129, fi_123_35, kd_138, ln_138, ↓reduceIte, gd_t, hK_p, hN_p, hF_p, hI_p, hJ_p, hR_p, stI_p, stJ_p, stR_p, stA_p, va_rf_s, va_rf_n, clr_i, clr_l, clr_r, clr_n, clr_o, w8_0, w8_1i, w8_1r, w8_2ii, w8_2ri, w8_2ir, w8_2rr, w8_3, beq_self_eq_true, Bool.and_self, Bool.and_true, Bool.true_and, decide_true, Option.toList_some, Option.toList_none, List.cons_append, List.nil_append, Option.bind_some, if_true, if_false, Nat.reduceLeDiff, Nat.reduceLT, Nat.reduceBEq, Bool.or_false, Bool.false_or, Bool.or_true, Bool.true_or, nI_leI, nI_ltI, nI_eq, nI_clamp, inb_n, up_s, up_n, bx_uu, nI_1, ix6, nI_0n, pk_us, pk_un, ge_0n, hn, y, n1, f2, w8_4, not_true_eq_false, not_false_eq_true]
  by_cases w : x = 2
  · simp (disch := omega) only [xX12_named_0, xX12_named_1, xX12_named_2, xX12_named_5, xX12_named_6, xX12_named_9, xX12_named_10, xX12_named_13, xX12_named_14, xX12_named_15, xX12_named_18, xX12_named_19, xX12_named_22, xX12_named_25, xX12_named_26, xX12_named_27, xX12_named_30, xX12_named_31, xX12_named_34, xX12_named_35, xX12_named_36, xX12_named_39, xX12_named_40, xX12_named_43, xX12_named_46, xX12_named_47, xX12_named_48, xX12_named_51, xX12_named_52, xX12_named_55, xX12_named_56, xX12_named_57, xX12_named_60, xX12_named_61, xX12_named_64, xX12_named_67, xX12_named_68, kd_123, fi_123_23, kd_126, ln_126, fi_123_26, kd_129, ln_129, fi_123_35, kd_138, ln_138, ↓reduceIte, gd_t, hK_p, hN_p, hF_p, hI_p, hJ_p, hR_p, stI_p, stJ_p, stR_p, stA_p, va_rf_s, va_rf_n, clr_i, clr_l, clr_r, clr_n, clr_o, w8_0, w8_1i, w8_1r, w8_2ii, w8_2ri, w8_2ir, w8_2rr, w8_3, beq_self_eq_true, Bool.and_self, Bool.and_true, Bool.true_and, decide_true, Option.toList_some, Option.toList_none, List.cons_append, List.nil_append, Option.bind_some, if_true, if_false, Nat.reduceLeDiff, Nat.reduceLT, Nat.reduceBEq, Bool.or_false, Bool.false_or, Bool.or_true, Bool.true_or, nI_leI, nI_ltI, nI_eq, nI_clamp, inb_n, up_s, up_n, bx_uu, nI_1, ix6, nI_0n, pk_us, pk_un, ge_0n, hm, w, n2, n3, f3, w8_4, not_true_eq_false, not_false_eq_true]
  simp (disch := omega) only [xX12_named_0, xX12_named_1, xX12_named_2, xX12_named_5, xX12_named_6, xX12_named_9, xX12_named_10, xX12_named_13, xX12_named_14, xX12_named_15, xX12_named_18, xX12_named_19, xX12_named_22, xX12_named_25, xX12_named_26, xX12_named_27, xX12_named_30, xX12_named_31, xX12_named_34, xX12_named_35, xX12_named_36, xX12_named_39, xX12_named_40, xX12_named_43, xX12_named_46, xX12_named_47, xX12_named_48, xX12_named_51, xX12_named_52, xX12_named_55, xX12_named_56, xX12_named_57, xX12_named_60, xX12_named_61, xX12_named_64, xX12_named_67, xX12_named_68, kd_123, fi_123_23, kd_126, ln_126, fi_123_26, kd_129, ln_129, fi_123_35, kd_138, ln_138, ↓reduceIte, gd_t, hK_p, hN_p, hF_p, hI_p, hJ_p, hR_p, stI_p, stJ_p, stR_p, stA_p, va_rf_s, va_rf_n, clr_i, clr_l, clr_r, clr_n, clr_o, w8_0, w8_1i, w8_1r, w8_2ii, w8_2ri, w8_2ir, w8_2rr, w8_3, beq_self_eq_true, Bool.and_self, Bool.and_true, Bool.true_and, decide_true, Option.toList_some, Option.toList_none, List.cons_append, List.nil_append, Option.bind_some, if_true, if_false, Nat.reduceLeDiff, Nat.reduceLT, Nat.reduceBEq, Bool.or_false, Bool.false_or, Bool.or_true, Bool.true_or, nI_leI, nI_ltI, nI_eq, nI_clamp, inb_n, up_s, up_n, bx_uu, nI_1, ix6, nI_0n, pk_us, pk_un, ge_0n, z, y, w, not_false_eq_true]
theorem named_p {I : Mem} {J : MemL} {R : MemR} {t t' n nb nm fL lL fG lG st : Nat} (h : cAll I R t t' n nb nm fL lL fG lG st) {x y : Int32} : askP MX11_named MX12_named [.int x, .int y] I J R := by
  obtain ⟨⟨b1, b2, b3⟩, ⟨n1, n2, n3⟩, ⟨m1, m2, m3⟩, x1, x2, x3, x4, x5, x6⟩ := h.txt
  refine askP.mk0 (nam_c h.te h.r3 b1 n1 m1 b3 n3 m3) (nam_m b2 n2 m2 b3 n3 m3) ?_
  rw [fdF_eq (fun i hi => (x1 i hi).1), fdF_eq (fun i hi => (x2 i hi).1), fdF_eq (fun i hi => (x6 i hi).1)]
-- reach
theorem rch_c {d t a b : Nat} {I : Mem} {J : MemL} {R : MemR} (ht : isTe t) (hR : R 0 3 = some t) (hR2 : R 60 0 = some t) {x y : Int32} (ha : twF (I (t + 5) 1) x y = 1) (ex : x = nI a) (ey : y = nI b) (ha6 : a < 6) (hb6 : b < 6) :
    C (d + 3) MX11_reach [.ref 0, .int x, .int y] (hp I J R) = some (some (.int (reaF (I (t + 3)) (I 61) (I 63) (I 62) (I 60 3) a b)), hp I J R) := by
  have n1 : ¬ (1 : Int32) = 0 := by decide
  subst ex ey
  have hr := rea_spec (d := d) (m := 60) (I := I) (J := J) (R := R) (Or.inl rfl) ht hR2 ha6 hb6
  rw [eX11_reach]
  simp only [xX11_reach_0, xX11_reach_1, xX11_reach_2, xX11_reach_3, xX11_reach_6, xX11_reach_9, xX11_reach_10, xX11_reach_13, xX11_reach_14, xX11_reach_15, xX11_reach_18, xX11_reach_21, xX11_reach_22, kd_0, fi_0_5, kd_60, kd_0, kd_60, ↓reduceIte, gd_t, hK_p, hN_p, hF_p, hI_p, hJ_p, hR_p, stI_p, stJ_p, stR_p, stA_p, va_rf_s, va_rf_n, clr_i, clr_l, clr_r, clr_n, clr_o, w8_0, w8_1i, w8_1r, w8_2ii, w8_2ri, w8_2ir, w8_2rr, w8_3, beq_self_eq_true, Bool.and_self, Bool.and_true, Bool.true_and, decide_true, Option.toList_some, Option.toList_none, List.cons_append, List.nil_append, Option.bind_some, if_true, if_false, Nat.reduceLeDiff, Nat.reduceLT, Nat.reduceBEq, Bool.or_false, Bool.false_or, Bool.or_true, Bool.true_or, two_c ht hR, ha, n1, hr]
theorem rch_c0 {d t : Nat} {I : Mem} {J : MemL} {R : MemR} (ht : isTe t) (hR : R 0 3 = some t) {x y : Int32} (ha : twF (I (t + 5) 1) x y = 0) : C (d + 3) MX11_reach [.ref 0, .int x, .int y] (hp I J R) = some (some (.int (-1)), hp I J R) := by
  rw [eX11_reach]
  simp only [xX11_reach_0, xX11_reach_1, xX11_reach_2, xX11_reach_3, xX11_reach_6, xX11_reach_9, xX11_reach_10, xX11_reach_13, xX11_reach_14, xX11_reach_15, xX11_reach_18, xX11_reach_21, xX11_reach_22, kd_0, fi_0_5, kd_60, kd_0, ↓reduceIte, gd_t, hK_p, hN_p, hF_p, hI_p, hJ_p, hR_p, stI_p, stJ_p, stR_p, stA_p, va_rf_s, va_rf_n, clr_i, clr_l, clr_r, clr_n, clr_o, w8_0, w8_1i, w8_1r, w8_2ii, w8_2ri, w8_2ir, w8_2rr, w8_3, beq_self_eq_true, Bool.and_self, Bool.and_true, Bool.true_and, decide_true, Option.toList_some, Option.toList_none, List.cons_append, List.nil_append, Option.bind_some, if_true, if_false, Nat.reduceLeDiff, Nat.reduceLT, Nat.reduceBEq, Bool.or_false, Bool.false_or, Bool.or_true, Bool.true_or, two_c ht hR, ha]
theorem rch_m {d a b : Nat} {I : Mem} {J : MemL} {R : MemR} {x y : Int32} (ha : twF (I 123 13) x y = 1) (ex : x = nI a) (ey : y = nI b) (ha6 : a < 6) (hb6 : b < 6) (hx : ∃ x, x < 6 ∧ I 151 a = nI x) :
    C (d + 3) MX12_reach [.ref 123, .int x, .int y] (hp I J R) = some (some (.int (reaM (plaM (va_up I 123 (upd (I 123) 2 0))) a b)), hp (plaM (va_up I 123 (upd (I 123) 2 0))) J R) := by
  have n1 : ¬ (1 : Int32) = 0 := by decide
  subst ex ey
  have ep : plaM (va_up I 123 (upd (I 123) 2 0)) 123 13 = I 123 13 := by
    unfold plaM plaO
    simp (disch := omega) only [up_s, up_n, pk_un]
  have hr := reM_spec (d := d) (I := plaM (va_up I 123 (upd (I 123) 2 0))) (J := J) (R := R) (show a < 12 by omega) (show b < 12 by omega) (by
    unfold plaM
    simp (disch := omega) only [up_n]
    exact hx)
  rw [eX12_reach]
  simp (disch := omega) only [xX12_reach_0, xX12_reach_1, xX12_reach_2, xX12_reach_5, xX12_reach_6, xX12_reach_9, xX12_reach_10, xX12_reach_11, xX12_reach_12, xX12_reach_15, xX12_reach_18, xX12_reach_19, xX12_reach_20, xX12_reach_21, xX12_reach_24, xX12_reach_27, xX12_reach_28, kd_123, kd_123, ↓reduceIte, gd_t, hK_p, hN_p, hF_p, hI_p, hJ_p, hR_p, stI_p, stJ_p, stR_p, stA_p, va_rf_s, va_rf_n, clr_i, clr_l, clr_r, clr_n, clr_o, w8_0, w8_1i, w8_1r, w8_2ii, w8_2ri, w8_2ir, w8_2rr, w8_3, beq_self_eq_true, Bool.and_self, Bool.and_true, Bool.true_and, decide_true, Option.toList_some, Option.toList_none, List.cons_append, List.nil_append, Option.bind_some, if_true, if_false, Nat.reduceLeDiff, Nat.reduceLT, Nat.reduceBEq, Bool.or_false, Bool.false_or, Bool.or_true, Bool.true_or, pla_spec, two_m, ep, ha, n1, hr]
theorem rch_m0 {d : Nat} {I : Mem} {J : MemL} {R : MemR} {x y : Int32} (ha : twF (I 123 13) x y = 0) : C (d + 3) MX12_reach [.ref 123, .int x, .int y] (hp I J R) = some (some (.int (-1)), hp (plaM (va_up I 123 (upd (I 123) 2 0))) J R) := by
  have ep : plaM (va_up I 123 (upd (I 123) 2 0)) 123 13 = I 123 13 := by
    unfold plaM plaO
    simp (disch := omega) only [up_s, up_n, pk_un]
  rw [eX12_reach]
  simp (disch := omega) only [xX12_reach_0, xX12_reach_1, xX12_reach_2, xX12_reach_5, xX12_reach_6, xX12_reach_9, xX12_reach_10, xX12_reach_11, xX12_reach_12, xX12_reach_15, xX12_reach_18, xX12_reach_19, xX12_reach_20, xX12_reach_21, xX12_reach_24, xX12_reach_27, xX12_reach_28, kd_123, kd_123, ↓reduceIte, gd_t, hK_p, hN_p, hF_p, hI_p, hJ_p, hR_p, stI_p, stJ_p, stR_p, stA_p, va_rf_s, va_rf_n, clr_i, clr_l, clr_r, clr_n, clr_o, w8_0, w8_1i, w8_1r, w8_2ii, w8_2ri, w8_2ir, w8_2rr, w8_3, beq_self_eq_true, Bool.and_self, Bool.and_true, Bool.true_and, decide_true, Option.toList_some, Option.toList_none, List.cons_append, List.nil_append, Option.bind_some, if_true, if_false, Nat.reduceLeDiff, Nat.reduceLT, Nat.reduceBEq, Bool.or_false, Bool.false_or, Bool.or_true, Bool.true_or, pla_spec, two_m, ep, ha]
theorem kp_pla {I : Mem} : kp I (plaM I) := by
  refine ⟨fun a h => ?_, fun k h => ?_, fun a k h1 h2 h3 => ?_⟩
  · unfold kpA at h
    unfold plaM
    simp (disch := omega) only [up_n]
  · unfold kpK at h
    unfold plaM plaO
    simp (disch := omega) only [up_n, up_s, pk_un]
  · unfold plaM
    simp (disch := omega) only [up_n]
theorem pla_f {I : Mem} {k : Nat} (h : k < 61 ∨ 65 < k) : plaM I 123 k = I 123 k := by
  unfold plaM plaO
  simp (disch := omega) only [up_n, up_s, pk_un]
theorem pla_61 {I : Mem} : plaM I 123 61 = I 123 16 ∧ plaM I 123 62 = 1 ∧ plaM I 123 63 = 1 ∧ plaM I 123 64 = -1 ∧ plaM I 123 65 = 63 := by
  unfold plaM plaO
  simp (disch := omega) only [up_n, up_s, pk_un, pk_us, and_self]
theorem pla_o {I : Mem} {a : Nat} (h : a ≠ 123) (h1 : a ≠ 157) (h2 : a ≠ 158) : plaM I a = I a := by
  unfold plaM
  simp (disch := omega) only [up_n]
theorem reach_p {I : Mem} {J : MemL} {R : MemR} {t t' n nb nm fL lL fG lG st : Nat} (h : cAll I R t t' n nb nm fL lL fG lG st) {x y : Int32} : askP MX11_reach MX12_reach [.int x, .int y] I J R := by
  have hk : kp I (plaM (va_up I 123 (upd (I 123) 2 0))) := kp.thr.tr kp_pla
  have hn6 := h.n6
  rcases tw_or (x := x) (y := y) h.n6 with ⟨a, b, ha, hb, hab, ex, ey, e⟩ | e
  · obtain ⟨c1, c2, c3, c4, c5, c6, c7, c8, ⟨c9, -⟩, c10, c11, c12⟩ := h.now
    obtain ⟨⟨b1, b2, b3⟩, ⟨n1, n2, n3⟩, ⟨m1, m2, m3⟩, x1, x2, x3, x4, ⟨x5, x5'⟩, x6⟩ := h.txt
    obtain ⟨a1, ⟨xa, a2, a2'⟩, a3, ⟨pa, -, a4, a4'⟩⟩ := c9 a ha
    obtain ⟨d1, ⟨xb, d2, d2'⟩, d3, ⟨pb, -, d4, d4'⟩⟩ := c9 b hb
    refine ⟨_, I, J, R, _, J, rch_c h.te h.r3 c1 (by rw [h.nc]; exact e) ex ey (by omega) (by omega), ?_, hk, rfl, rfl, rfl⟩
    rw [rch_m (by rw [h.nd]; exact e) ex ey (by omega) (by omega) ⟨xa, by omega, by rw [Nat.zero_add] at a1; rw [← a1]; exact a2'⟩]
    congr 3
    have hr := rea_eq (Im := plaM (va_up I 123 (upd (I 123) 2 0))) (give := I (t + 3)) (stiff := I 61) (place := I 63) (beam := I 62) (wall := I 60 3) (at1 := 0) (a := a) (b := b) (by rw [pla_61.1, up_s, pk_un (by decide), c6, x5]) pla_61.2.2.2.1 (by rw [pla_o (by decide) (by decide) (by decide), up_n (by decide)]; exact a1) (by rw [pla_o (by decide) (by decide) (by decide), up_n (by decide)]; exact d1) (by rw [pla_o (by decide) (by decide) (by decide), up_n (by decide)]; exact a3) (by rw [pla_o (by decide) (by decide) (by decide), up_n (by decide)]; exact d3) ⟨xa, by omega, a2', by rw [pla_o (by decide) (by decide) (by decide), up_n (by decide)]; exact (x1 xa a2).2.1, by rw [pla_o (by decide) (by decide) (by decide), up_n (by decide), c8 xa a2]; exact (x1 xa a2).2.2.1⟩ ⟨pa, a4, a4'⟩ ⟨pb, d4, d4'⟩
    rw [Nat.zero_add, Nat.zero_add] at hr
    rw [hr]
  · exact ⟨_, I, J, R, _, J, rch_c0 h.te h.r3 (by rw [h.nc]; exact e), rch_m0 (by rw [h.nd]; exact e), hk, rfl, rfl, rfl⟩
-- apart
def apmF (x y : Int32) : Int32 := if 1000 - disF x y ≤ disF x y then 1000 - disF x y else disF x y
theorem apm_spec {d : Nat} {x y : Int32} {h : Hp} : C (d + 1) MX12_apartOf [.int x, .int y] h = some (some (.int (apmF x y)), h) := by
  rw [eX12_apartOf]
  unfold apmF disF
  by_cases h1 : y ≤ x
  · by_cases h2 : 1000 - (x - y) ≤ x - y <;> simp only [xX12_apartOf_0, xX12_apartOf_1, xX12_apartOf_2, xX12_apartOf_5, xX12_apartOf_6, xX12_apartOf_7, xX12_apartOf_8, xX12_apartOf_11, xX12_apartOf_12, xX12_apartOf_13, xX12_apartOf_14, xX12_apartOf_15, xX12_apartOf_16, xX12_apartOf_19, xX12_apartOf_20, xX12_apartOf_21, xX12_apartOf_24, xX12_apartOf_25, xX12_apartOf_28, xX12_apartOf_31, xX12_apartOf_32, xX12_apartOf_33, ↓reduceIte, gd_t, hK_p, hN_p, hF_p, hI_p, hJ_p, hR_p, stI_p, stJ_p, stR_p, stA_p, va_rf_s, va_rf_n, clr_i, clr_l, clr_r, clr_n, clr_o, w8_0, w8_1i, w8_1r, w8_2ii, w8_2ri, w8_2ir, w8_2rr, w8_3, beq_self_eq_true, Bool.and_self, Bool.and_true, Bool.true_and, decide_true, Option.toList_some, Option.toList_none, List.cons_append, List.nil_append, Option.bind_some, if_true, if_false, Nat.reduceLeDiff, Nat.reduceLT, Nat.reduceBEq, Bool.or_false, Bool.false_or, Bool.or_true, Bool.true_or, h1, h2]
  · by_cases h2 : 1000 - (y - x) ≤ y - x <;> simp only [xX12_apartOf_0, xX12_apartOf_1, xX12_apartOf_2, xX12_apartOf_5, xX12_apartOf_6, xX12_apartOf_7, xX12_apartOf_8, xX12_apartOf_11, xX12_apartOf_12, xX12_apartOf_13, xX12_apartOf_14, xX12_apartOf_15, xX12_apartOf_16, xX12_apartOf_19, xX12_apartOf_20, xX12_apartOf_21, xX12_apartOf_24, xX12_apartOf_25, xX12_apartOf_28, xX12_apartOf_31, xX12_apartOf_32, xX12_apartOf_33, ↓reduceIte, gd_t, hK_p, hN_p, hF_p, hI_p, hJ_p, hR_p, stI_p, stJ_p, stR_p, stA_p, va_rf_s, va_rf_n, clr_i, clr_l, clr_r, clr_n, clr_o, w8_0, w8_1i, w8_1r, w8_2ii, w8_2ri, w8_2ir, w8_2rr, w8_3, beq_self_eq_true, Bool.and_self, Bool.and_true, Bool.true_and, decide_true, Option.toList_some, Option.toList_none, List.cons_append, List.nil_append, Option.bind_some, if_true, if_false, Nat.reduceLeDiff, Nat.reduceLT, Nat.reduceBEq, Bool.or_false, Bool.false_or, Bool.or_true, Bool.true_or, h1, h2]
theorem dis_n {p q : Nat} (hp : p < 1000) (hq : q < 1000) : ∃ k, k < 1000 ∧ disF (nI p) (nI q) = nI k := by
  unfold disF
  rcases Nat.lt_or_ge p q with h | h
  · rw [if_neg (nI_ge h (by omega)), pk_sub (by omega)]
    exact ⟨q - p, by omega, rfl⟩
  · rw [if_pos (nI_le h (by omega)), pk_sub h]
    exact ⟨p - q, by omega, rfl⟩
theorem ap_dec : ∀ k, k < 1000 → (if 1000 - nI k ≤ nI k then 1000 - nI k else nI k) = (if nI k ≤ 500 then nI k else 1000 - nI k) ∧ ∃ j, j ≤ 500 ∧ (if nI k ≤ 500 then nI k else 1000 - nI k) = nI j := by
  intro k hk
  by_cases h : k ≤ 500
  · have e1 : nI k ≤ (500 : Int32) := nI_le (b := 500) h (by omega)
    rw [if_pos e1]
    refine ⟨?_, k, h, rfl⟩
    rw [show (1000 : Int32) = nI 1000 from rfl, pk_sub (by omega)]
    by_cases h2 : k = 500
    · subst h2
      rfl
    · rw [if_neg (nI_ge (by omega) (by omega))]
  · have e1 : ¬ nI k ≤ (500 : Int32) := nI_ge (a := 500) (by omega) (by omega)
    rw [if_neg e1, show (1000 : Int32) = nI 1000 from rfl, pk_sub (by omega), if_pos (nI_le (by omega) (by omega))]
    exact ⟨rfl, 1000 - k, by omega, rfl⟩
theorem apm_eq {x y : Int32} (hx : ∃ p, p < 1000 ∧ x = nI p) (hy : ∃ p, p < 1000 ∧ y = nI p) : apmF x y = apaF x y := by
  obtain ⟨p, hp, rfl⟩ := hx
  obtain ⟨q, hq, rfl⟩ := hy
  obtain ⟨k, hk, e⟩ := dis_n hp hq
  unfold apmF apaF
  rw [e]
  exact (ap_dec k hk).1
theorem apart_p {I : Mem} {J : MemL} {R : MemR} {t t' n nb nm fL lL fG lG st : Nat} (h : cAll I R t t' n nb nm fL lL fG lG st) {x y : Int32} : askP MX11_apart MX12_apart [.int x, .int y] I J R := by
  have hn6 := h.n6
  have n1 : ¬ (1 : Int32) = 0 := by decide
  rcases tw_or (x := x) (y := y) h.n6 with ⟨a, b, ha, hb, hab, rfl, rfl, e⟩ | e
  · obtain ⟨c1, c2, c3, c4, c5, c6, c7, c8, ⟨c9, -⟩, c10, c11, c12⟩ := h.now
    obtain ⟨a1, a2, -⟩ := c11 a ha
    obtain ⟨b1, b2, -⟩ := c11 b hb
    refine askP.mk0 (v := apaF (I 67 a) (I 67 b)) (w := apmF (I 153 a) (I 153 b)) ?_ ?_ ?_
    · rw [eX11_apart]
      simp (disch := omega) only [xX11_apart_0, xX11_apart_1, xX11_apart_2, xX11_apart_3, xX11_apart_6, xX11_apart_9, xX11_apart_10, xX11_apart_13, xX11_apart_16, xX11_apart_17, xX11_apart_18, xX11_apart_19, xX11_apart_22, xX11_apart_25, xX11_apart_26, xX11_apart_27, xX11_apart_30, xX11_apart_33, xX11_apart_34, kd_0, fi_0_5, kd_60, fi_60_11, kd_67, ln_67, ↓reduceIte, gd_t, hK_p, hN_p, hF_p, hI_p, hJ_p, hR_p, stI_p, stJ_p, stR_p, stA_p, va_rf_s, va_rf_n, clr_i, clr_l, clr_r, clr_n, clr_o, w8_0, w8_1i, w8_1r, w8_2ii, w8_2ri, w8_2ir, w8_2rr, w8_3, beq_self_eq_true, Bool.and_self, Bool.and_true, Bool.true_and, decide_true, Option.toList_some, Option.toList_none, List.cons_append, List.nil_append, Option.bind_some, if_true, if_false, Nat.reduceLeDiff, Nat.reduceLT, Nat.reduceBEq, Bool.or_false, Bool.false_or, Bool.or_true, Bool.true_or, nI_leI, nI_ltI, nI_eq, nI_clamp, inb_n, up_s, up_n, bx_uu, nI_1, ix6, nI_0n, pk_us, pk_un, ge_0n, two_c h.te h.r3, h.nc, e, n1, apa_spec]
    · rw [eX12_apart]
      simp (disch := omega) only [xX12_apart_0, xX12_apart_1, xX12_apart_2, xX12_apart_5, xX12_apart_6, xX12_apart_7, xX12_apart_8, xX12_apart_11, xX12_apart_14, xX12_apart_15, xX12_apart_18, xX12_apart_19, xX12_apart_20, xX12_apart_21, xX12_apart_24, xX12_apart_25, xX12_apart_26, xX12_apart_29, xX12_apart_32, xX12_apart_33, kd_123, fi_123_57, kd_153, ln_153, ↓reduceIte, gd_t, hK_p, hN_p, hF_p, hI_p, hJ_p, hR_p, stI_p, stJ_p, stR_p, stA_p, va_rf_s, va_rf_n, clr_i, clr_l, clr_r, clr_n, clr_o, w8_0, w8_1i, w8_1r, w8_2ii, w8_2ri, w8_2ir, w8_2rr, w8_3, beq_self_eq_true, Bool.and_self, Bool.and_true, Bool.true_and, decide_true, Option.toList_some, Option.toList_none, List.cons_append, List.nil_append, Option.bind_some, if_true, if_false, Nat.reduceLeDiff, Nat.reduceLT, Nat.reduceBEq, Bool.or_false, Bool.false_or, Bool.or_true, Bool.true_or, nI_leI, nI_ltI, nI_eq, nI_clamp, inb_n, up_s, up_n, bx_uu, nI_1, ix6, nI_0n, pk_us, pk_un, ge_0n, two_m, h.nd, e, n1, apm_spec]
    · rw [apm_eq (by rw [← a1]; exact a2) (by rw [← b1]; exact b2), a1, b1]
  · refine askP.mk0 (v := -1) (w := -1) ?_ ?_ rfl
    · rw [eX11_apart]
      simp (disch := omega) only [xX11_apart_0, xX11_apart_1, xX11_apart_2, xX11_apart_3, xX11_apart_6, xX11_apart_9, xX11_apart_10, xX11_apart_13, xX11_apart_16, xX11_apart_17, xX11_apart_18, xX11_apart_19, xX11_apart_22, xX11_apart_25, xX11_apart_26, xX11_apart_27, xX11_apart_30, xX11_apart_33, xX11_apart_34, kd_0, fi_0_5, kd_60, fi_60_11, kd_67, ln_67, ↓reduceIte, gd_t, hK_p, hN_p, hF_p, hI_p, hJ_p, hR_p, stI_p, stJ_p, stR_p, stA_p, va_rf_s, va_rf_n, clr_i, clr_l, clr_r, clr_n, clr_o, w8_0, w8_1i, w8_1r, w8_2ii, w8_2ri, w8_2ir, w8_2rr, w8_3, beq_self_eq_true, Bool.and_self, Bool.and_true, Bool.true_and, decide_true, Option.toList_some, Option.toList_none, List.cons_append, List.nil_append, Option.bind_some, if_true, if_false, Nat.reduceLeDiff, Nat.reduceLT, Nat.reduceBEq, Bool.or_false, Bool.false_or, Bool.or_true, Bool.true_or, nI_leI, nI_ltI, nI_eq, nI_clamp, inb_n, up_s, up_n, bx_uu, nI_1, ix6, nI_0n, pk_us, pk_un, ge_0n, two_c h.te h.r3, h.nc, e]
    · rw [eX12_apart]
      simp (disch := omega) only [xX12_apart_0, xX12_apart_1, xX12_apart_2, xX12_apart_5, xX12_apart_6, xX12_apart_7, xX12_apart_8, xX12_apart_11, xX12_apart_14, xX12_apart_15, xX12_apart_18, xX12_apart_19, xX12_apart_20, xX12_apart_21, xX12_apart_24, xX12_apart_25, xX12_apart_26, xX12_apart_29, xX12_apart_32, xX12_apart_33, kd_123, fi_123_57, kd_153, ln_153, ↓reduceIte, gd_t, hK_p, hN_p, hF_p, hI_p, hJ_p, hR_p, stI_p, stJ_p, stR_p, stA_p, va_rf_s, va_rf_n, clr_i, clr_l, clr_r, clr_n, clr_o, w8_0, w8_1i, w8_1r, w8_2ii, w8_2ri, w8_2ir, w8_2rr, w8_3, beq_self_eq_true, Bool.and_self, Bool.and_true, Bool.true_and, decide_true, Option.toList_some, Option.toList_none, List.cons_append, List.nil_append, Option.bind_some, if_true, if_false, Nat.reduceLeDiff, Nat.reduceLT, Nat.reduceBEq, Bool.or_false, Bool.false_or, Bool.or_true, Bool.true_or, nI_leI, nI_ltI, nI_eq, nI_clamp, inb_n, up_s, up_n, bx_uu, nI_1, ix6, nI_0n, pk_us, pk_un, ge_0n, two_m, h.nd, e]
-- was
theorem ix6r (i j : Nat) : 6 * nI i + nI j = nI (6 * i + j) := by rw [show (6 : Int32) = nI 6 from rfl, pk_mul, nI_add]
theorem phA_c {d c k : Nat} {I : Mem} {J : MemL} {R : MemR} (hc : c < 6) (hk : k < 4000) : C (d + 1) MX8_phaseAt [.ref 102, .int (nI c), .int (nI k)] (hp I J R) = some (some (.int (I 103 (k * 6 + c))), hp I J R) := by
  have c0 : k * 6 + c < 24000 := by omega
  rw [eX8_phaseAt]
  simp (disch := omega) only [xX8_phaseAt_0, xX8_phaseAt_1, xX8_phaseAt_3, xX8_phaseAt_4, xX8_phaseAt_5, xX8_phaseAt_6, xX8_phaseAt_7, xX8_phaseAt_8, xX8_phaseAt_11, xX8_phaseAt_12, xX8_phaseAt_13, xX8_phaseAt_16, xX8_phaseAt_17, xX8_phaseAt_20, xX8_phaseAt_21, xX8_phaseAt_24, xX8_phaseAt_25, xX8_phaseAt_28, xX8_phaseAt_29, xX8_phaseAt_30, kd_102, fi_102_0, kd_103, ln_103, ↓reduceIte, gd_t, hK_p, hN_p, hF_p, hI_p, hJ_p, hR_p, stI_p, stJ_p, stR_p, stA_p, va_rf_s, va_rf_n, clr_i, clr_l, clr_r, clr_n, clr_o, w8_0, w8_1i, w8_1r, w8_2ii, w8_2ri, w8_2ir, w8_2rr, w8_3, beq_self_eq_true, Bool.and_self, Bool.and_true, Bool.true_and, decide_true, Option.toList_some, Option.toList_none, List.cons_append, List.nil_append, Option.bind_some, if_true, if_false, Nat.reduceLeDiff, Nat.reduceLT, Nat.reduceBEq, Bool.or_false, Bool.false_or, Bool.or_true, Bool.true_or, nI_leI, nI_ltI, nI_eq, nI_clamp, inb_n, up_s, up_n, bx_uu, nI_1, ix6, nI_0n, pk_us, pk_un, ge_0n, c0]
theorem was_p {I : Mem} {J : MemL} {R : MemR} {t t' n nb nm fL lL fG lG st : Nat} (h : cAll I R t t' n nb nm fL lL fG lG st) {x y : Int32} : askP MX11_was MX12_was [.int x, .int y] I J R := by
  have hn6 := h.n6
  have h4 := h.s4
  have n1 : ¬ (1 : Int32) = 0 := by decide
  rcases ic_or (x := x) h.n6 with ⟨c, hc, rfl, e⟩ | e
  · by_cases y0 : y < 0
    · refine askP.mk0 (v := -1) (w := -1) ?_ ?_ rfl
      · rw [eX11_was]
        simp (disch := omega) only [xX11_was_0, xX11_was_1, xX11_was_2, xX11_was_5, xX11_was_8, xX11_was_9, xX11_was_12, xX11_was_13, xX11_was_14, xX11_was_17, xX11_was_20, xX11_was_23, xX11_was_24, xX11_was_25, xX11_was_26, xX11_was_29, xX11_was_30, xX11_was_31, xX11_was_34, kd_0, fi_0_5, kd_60, fi_0_9, kd_102, ↓reduceIte, gd_t, hK_p, hN_p, hF_p, hI_p, hJ_p, hR_p, stI_p, stJ_p, stR_p, stA_p, va_rf_s, va_rf_n, clr_i, clr_l, clr_r, clr_n, clr_o, w8_0, w8_1i, w8_1r, w8_2ii, w8_2ri, w8_2ir, w8_2rr, w8_3, beq_self_eq_true, Bool.and_self, Bool.and_true, Bool.true_and, decide_true, Option.toList_some, Option.toList_none, List.cons_append, List.nil_append, Option.bind_some, if_true, if_false, Nat.reduceLeDiff, Nat.reduceLT, Nat.reduceBEq, Bool.or_false, Bool.false_or, Bool.or_true, Bool.true_or, nI_leI, nI_ltI, nI_eq, nI_clamp, inb_n, up_s, up_n, bx_uu, nI_1, ix6, nI_0n, pk_us, pk_un, ge_0n, icl_c h.te h.r3, h.nc, e, n1, y0]
      · rw [eX12_was]
        simp (disch := omega) only [xX12_was_0, xX12_was_1, xX12_was_2, xX12_was_5, xX12_was_6, xX12_was_7, xX12_was_10, xX12_was_13, xX12_was_14, xX12_was_17, xX12_was_18, xX12_was_19, xX12_was_22, xX12_was_25, xX12_was_26, xX12_was_29, xX12_was_31, xX12_was_32, xX12_was_33, xX12_was_34, xX12_was_35, xX12_was_36, xX12_was_39, xX12_was_40, kd_123, fi_123_71, kd_160, ln_160, ↓reduceIte, gd_t, hK_p, hN_p, hF_p, hI_p, hJ_p, hR_p, stI_p, stJ_p, stR_p, stA_p, va_rf_s, va_rf_n, clr_i, clr_l, clr_r, clr_n, clr_o, w8_0, w8_1i, w8_1r, w8_2ii, w8_2ri, w8_2ir, w8_2rr, w8_3, beq_self_eq_true, Bool.and_self, Bool.and_true, Bool.true_and, decide_true, Option.toList_some, Option.toList_none, List.cons_append, List.nil_append, Option.bind_some, if_true, if_false, Nat.reduceLeDiff, Nat.reduceLT, Nat.reduceBEq, Bool.or_false, Bool.false_or, Bool.or_true, Bool.true_or, nI_leI, nI_ltI, nI_eq, nI_clamp, inb_n, up_s, up_n, bx_uu, nI_1, ix6, nI_0n, pk_us, pk_un, ge_0n, icl_m, h.nd, e, n1, y0]
    · obtain ⟨k, hk, rfl⟩ := nI_of y0
      by_cases ks : k < st
      · have ks' : ¬ st ≤ k := by omega
        have hs := (h.sto k ks).1 c hc
        refine askP.mk0 (v := I 103 (k * 6 + c)) (w := I 160 (6 * k + c)) ?_ ?_ hs.1
        · rw [eX11_was]
          simp (disch := omega) only [xX11_was_0, xX11_was_1, xX11_was_2, xX11_was_5, xX11_was_8, xX11_was_9, xX11_was_12, xX11_was_13, xX11_was_14, xX11_was_17, xX11_was_20, xX11_was_23, xX11_was_24, xX11_was_25, xX11_was_26, xX11_was_29, xX11_was_30, xX11_was_31, xX11_was_34, kd_0, fi_0_5, kd_60, fi_0_9, kd_102, kd_102, ↓reduceIte, gd_t, hK_p, hN_p, hF_p, hI_p, hJ_p, hR_p, stI_p, stJ_p, stR_p, stA_p, va_rf_s, va_rf_n, clr_i, clr_l, clr_r, clr_n, clr_o, w8_0, w8_1i, w8_1r, w8_2ii, w8_2ri, w8_2ir, w8_2rr, w8_3, beq_self_eq_true, Bool.and_self, Bool.and_true, Bool.true_and, decide_true, Option.toList_some, Option.toList_none, List.cons_append, List.nil_append, Option.bind_some, if_true, if_false, Nat.reduceLeDiff, Nat.reduceLT, Nat.reduceBEq, Bool.or_false, Bool.false_or, Bool.or_true, Bool.true_or, nI_leI, nI_ltI, nI_eq, nI_clamp, inb_n, up_s, up_n, bx_uu, nI_1, ix6, nI_0n, pk_us, pk_un, ge_0n, icl_c h.te h.r3, h.nc, h.sc, e, n1, ks, phA_c]
        · rw [eX12_was]
          simp (disch := omega) only [xX12_was_0, xX12_was_1, xX12_was_2, xX12_was_5, xX12_was_6, xX12_was_7, xX12_was_10, xX12_was_13, xX12_was_14, xX12_was_17, xX12_was_18, xX12_was_19, xX12_was_22, xX12_was_25, xX12_was_26, xX12_was_29, xX12_was_31, xX12_was_32, xX12_was_33, xX12_was_34, xX12_was_35, xX12_was_36, xX12_was_39, xX12_was_40, kd_123, fi_123_71, kd_160, ln_160, ↓reduceIte, gd_t, hK_p, hN_p, hF_p, hI_p, hJ_p, hR_p, stI_p, stJ_p, stR_p, stA_p, va_rf_s, va_rf_n, clr_i, clr_l, clr_r, clr_n, clr_o, w8_0, w8_1i, w8_1r, w8_2ii, w8_2ri, w8_2ir, w8_2rr, w8_3, beq_self_eq_true, Bool.and_self, Bool.and_true, Bool.true_and, decide_true, Option.toList_some, Option.toList_none, List.cons_append, List.nil_append, Option.bind_some, if_true, if_false, Nat.reduceLeDiff, Nat.reduceLT, Nat.reduceBEq, Bool.or_false, Bool.false_or, Bool.or_true, Bool.true_or, nI_leI, nI_ltI, nI_eq, nI_clamp, inb_n, up_s, up_n, bx_uu, nI_1, ix6, nI_0n, pk_us, pk_un, ge_0n, icl_m, h.nd, h.sd, e, n1, ks', ix6r]
      · have ks' : st ≤ k := by omega
        refine askP.mk0 (v := -1) (w := -1) ?_ ?_ rfl
        · rw [eX11_was]
          simp (disch := omega) only [xX11_was_0, xX11_was_1, xX11_was_2, xX11_was_5, xX11_was_8, xX11_was_9, xX11_was_12, xX11_was_13, xX11_was_14, xX11_was_17, xX11_was_20, xX11_was_23, xX11_was_24, xX11_was_25, xX11_was_26, xX11_was_29, xX11_was_30, xX11_was_31, xX11_was_34, kd_0, fi_0_5, kd_60, fi_0_9, kd_102, ↓reduceIte, gd_t, hK_p, hN_p, hF_p, hI_p, hJ_p, hR_p, stI_p, stJ_p, stR_p, stA_p, va_rf_s, va_rf_n, clr_i, clr_l, clr_r, clr_n, clr_o, w8_0, w8_1i, w8_1r, w8_2ii, w8_2ri, w8_2ir, w8_2rr, w8_3, beq_self_eq_true, Bool.and_self, Bool.and_true, Bool.true_and, decide_true, Option.toList_some, Option.toList_none, List.cons_append, List.nil_append, Option.bind_some, if_true, if_false, Nat.reduceLeDiff, Nat.reduceLT, Nat.reduceBEq, Bool.or_false, Bool.false_or, Bool.or_true, Bool.true_or, nI_leI, nI_ltI, nI_eq, nI_clamp, inb_n, up_s, up_n, bx_uu, nI_1, ix6, nI_0n, pk_us, pk_un, ge_0n, icl_c h.te h.r3, h.nc, h.sc, e, n1, ks]
        · rw [eX12_was]
          simp (disch := omega) only [xX12_was_0, xX12_was_1, xX12_was_2, xX12_was_5, xX12_was_6, xX12_was_7, xX12_was_10, xX12_was_13, xX12_was_14, xX12_was_17, xX12_was_18, xX12_was_19, xX12_was_22, xX12_was_25, xX12_was_26, xX12_was_29, xX12_was_31, xX12_was_32, xX12_was_33, xX12_was_34, xX12_was_35, xX12_was_36, xX12_was_39, xX12_was_40, kd_123, fi_123_71, kd_160, ln_160, ↓reduceIte, gd_t, hK_p, hN_p, hF_p, hI_p, hJ_p, hR_p, stI_p, stJ_p, stR_p, stA_p, va_rf_s, va_rf_n, clr_i, clr_l, clr_r, clr_n, clr_o, w8_0, w8_1i, w8_1r, w8_2ii, w8_2ri, w8_2ir, w8_2rr, w8_3, beq_self_eq_true, Bool.and_self, Bool.and_true, Bool.true_and, decide_true, Option.toList_some, Option.toList_none, List.cons_append, List.nil_append, Option.bind_some, if_true, if_false, Nat.reduceLeDiff, Nat.reduceLT, Nat.reduceBEq, Bool.or_false, Bool.false_or, Bool.or_true, Bool.true_or, nI_leI, nI_ltI, nI_eq, nI_clamp, inb_n, up_s, up_n, bx_uu, nI_1, ix6, nI_0n, pk_us, pk_un, ge_0n, icl_m, h.nd, h.sd, e, n1, ks']
  · refine askP.mk0 (v := -1) (w := -1) ?_ ?_ rfl
    · rw [eX11_was]
      simp (disch := omega) only [xX11_was_0, xX11_was_1, xX11_was_2, xX11_was_5, xX11_was_8, xX11_was_9, xX11_was_12, xX11_was_13, xX11_was_14, xX11_was_17, xX11_was_20, xX11_was_23, xX11_was_24, xX11_was_25, xX11_was_26, xX11_was_29, xX11_was_30, xX11_was_31, xX11_was_34, kd_0, fi_0_5, kd_60, fi_0_9, kd_102, ↓reduceIte, gd_t, hK_p, hN_p, hF_p, hI_p, hJ_p, hR_p, stI_p, stJ_p, stR_p, stA_p, va_rf_s, va_rf_n, clr_i, clr_l, clr_r, clr_n, clr_o, w8_0, w8_1i, w8_1r, w8_2ii, w8_2ri, w8_2ir, w8_2rr, w8_3, beq_self_eq_true, Bool.and_self, Bool.and_true, Bool.true_and, decide_true, Option.toList_some, Option.toList_none, List.cons_append, List.nil_append, Option.bind_some, if_true, if_false, Nat.reduceLeDiff, Nat.reduceLT, Nat.reduceBEq, Bool.or_false, Bool.false_or, Bool.or_true, Bool.true_or, nI_leI, nI_ltI, nI_eq, nI_clamp, inb_n, up_s, up_n, bx_uu, nI_1, ix6, nI_0n, pk_us, pk_un, ge_0n, icl_c h.te h.r3, h.nc, e]
    · rw [eX12_was]
      simp (disch := omega) only [xX12_was_0, xX12_was_1, xX12_was_2, xX12_was_5, xX12_was_6, xX12_was_7, xX12_was_10, xX12_was_13, xX12_was_14, xX12_was_17, xX12_was_18, xX12_was_19, xX12_was_22, xX12_was_25, xX12_was_26, xX12_was_29, xX12_was_31, xX12_was_32, xX12_was_33, xX12_was_34, xX12_was_35, xX12_was_36, xX12_was_39, xX12_was_40, kd_123, fi_123_71, kd_160, ln_160, ↓reduceIte, gd_t, hK_p, hN_p, hF_p, hI_p, hJ_p, hR_p, stI_p, stJ_p, stR_p, stA_p, va_rf_s, va_rf_n, clr_i, clr_l, clr_r, clr_n, clr_o, w8_0, w8_1i, w8_1r, w8_2ii, w8_2ri, w8_2ir, w8_2rr, w8_3, beq_self_eq_true, Bool.and_self, Bool.and_true, Bool.true_and, decide_true, Option.toList_some, Option.toList_none, List.cons_append, List.nil_append, Option.bind_some, if_true, if_false, Nat.reduceLeDiff, Nat.reduceLT, Nat.reduceBEq, Bool.or_false, Bool.false_or, Bool.or_true, Bool.true_or, nI_leI, nI_ltI, nI_eq, nI_clamp, inb_n, up_s, up_n, bx_uu, nI_1, ix6, nI_0n, pk_us, pk_un, ge_0n, icl_m, h.nd, e]

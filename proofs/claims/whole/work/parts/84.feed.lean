-- PAIRS, 12: feed
theorem up_cm {α : Type} {f : Nat → α} {a b : Nat} {x y : α} (h : a ≠ b) : va_up (va_up f a x) b y = va_up (va_up f b y) a x := by
  funext q
  unfold va_up
  by_cases h1 : q = a
  · subst h1
    simp [h]
  · simp [h1]
theorem i8_i8 (x : Int32) : x.toInt8.toInt32.toInt8.toInt32 = x.toInt8.toInt32 := (vp_nar_byte _).symm.trans (pk_vb x)
theorem i8_and (y : Int32) : (y &&& 255).toInt8 = y.toInt8 := by
  apply Int8.toBitVec_inj.mp
  rw [Int32.toBitVec_toInt8, Int32.toBitVec_toInt8, BitVec.signExtend_eq_setWidth_of_le _ (by omega), BitVec.signExtend_eq_setWidth_of_le _ (by omega)]
  apply BitVec.eq_of_toNat_eq
  rw [BitVec.toNat_setWidth, BitVec.toNat_setWidth, Int32.toBitVec_and, BitVec.toNat_and, show (255 : Int32).toBitVec.toNat = 2 ^ 8 - 1 from rfl, Nat.and_two_pow_sub_one_eq_mod, Nat.mod_mod]
def tpM (I : Mem) (tp : Nat) (v : Int32) : Mem := va_up (va_up I 1 (upd (I 1) tp v)) 0 (upd (I 0) 1 (nI (tp + 1)))
def byt (x s : Int32) : Int32 := (x >>> (s &&& 31)).toInt8.toInt32
theorem tp_step {d tp : Nat} {x s : Int32} {I : Mem} {J : MemL} {R : MemR} (hs : ¬ s < 0) (ht : I 0 1 = nI tp) (h7 : tp < 700) : E (C d) MX11_tapeNumber 3 [some (.ref 0), some (.int x), some (.int s)] [] (hp I J R) = E (C d) MX11_tapeNumber 3 [some (.ref 0), some (.int x), some (.int (s + (-8)))] [] (hp (tpM I tp (byt x s)) J R) := by
  have c0 : ¬ (700 : Int32) ≤ nI tp := nI_ge (b := 700) h7 (by omega)
  rw [xX11_tapeNumber_3]
  unfold tpM byt
  simp (disch := omega) only [xX11_tapeNumber_4, xX11_tapeNumber_7, xX11_tapeNumber_8, xX11_tapeNumber_11, xX11_tapeNumber_14, xX11_tapeNumber_17, xX11_tapeNumber_18, xX11_tapeNumber_21, xX11_tapeNumber_22, xX11_tapeNumber_25, xX11_tapeNumber_26, xX11_tapeNumber_27, xX11_tapeNumber_28, xX11_tapeNumber_29, xX11_tapeNumber_30, xX11_tapeNumber_31, xX11_tapeNumber_31I, xX11_tapeNumber_32, xX11_tapeNumber_35, xX11_tapeNumber_36, xX11_tapeNumber_37, xX11_tapeNumber_40, xX11_tapeNumber_43, kd_0, fi_0_0, kd_1, ln_1, ↓reduceIte, gd_t, hK_p, hN_p, hF_p, hI_p, hJ_p, hR_p, stI_p, stJ_p, stR_p, stA_p, va_rf_s, va_rf_n, clr_i, clr_l, clr_r, clr_n, clr_o, w8_0, w8_1i, w8_1r, w8_2ii, w8_2ri, w8_2ir, w8_2rr, w8_3, beq_self_eq_true, Bool.and_self, Bool.and_true, Bool.true_and, decide_true, Option.toList_some, Option.toList_none, List.cons_append, List.nil_append, Option.bind_some, if_true, if_false, Nat.reduceLeDiff, Nat.reduceLT, Nat.reduceBEq, Bool.or_false, Bool.false_or, Bool.or_true, Bool.true_or, nI_leI, nI_ltI, nI_eq, nI_clamp, inb_n, up_s, up_n, bx_uu, nI_1, ix6, nI_0n, pk_us, pk_un, ge_0n, hs, ht, c0, i8_i8]
theorem tpM_0 {I : Mem} {tp : Nat} {v : Int32} : tpM I tp v 0 1 = nI (tp + 1) := by
  unfold tpM
  rw [up_s, pk_us]
def fdM (I : Mem) (tp : Nat) : List Int32 → Mem
  | [] => I
  | v :: l => fdM (tpM I tp v) (tp + 1) l
theorem tpn_c {d tp : Nat} {x : Int32} {I : Mem} {J : MemL} {R : MemR} (ht : I 0 1 = nI tp) (h7 : tp + 4 ≤ 700) : C (d + 1) MX11_tapeNumber [.ref 0, .int x] (hp I J R) = some (none, hp (fdM I tp [byt x 24, byt x 16, byt x 8, byt x 0]) J R) := by
  have e1 : (24 : Int32) + (-8) = 16 := by decide
  have e2 : (16 : Int32) + (-8) = 8 := by decide
  have e3 : (8 : Int32) + (-8) = 0 := by decide
  have c1 : (0 : Int32) + (-8) < 0 := by decide
  rw [eX11_tapeNumber]
  simp only [xX11_tapeNumber_0, xX11_tapeNumber_2, clr_i]
  rw [tp_step (by decide) ht (by omega), e1, tp_step (by decide) tpM_0 (by omega), e2, tp_step (by decide) tpM_0 (by omega), e3, tp_step (by decide) tpM_0 (by omega), xX11_tapeNumber_3]
  simp only [xX11_tapeNumber_4, xX11_tapeNumber_46, ↓reduceIte, gd_t, hK_p, hN_p, hF_p, hI_p, hJ_p, hR_p, stI_p, stJ_p, stR_p, stA_p, va_rf_s, va_rf_n, clr_i, clr_l, clr_r, clr_n, clr_o, w8_0, w8_1i, w8_1r, w8_2ii, w8_2ri, w8_2ir, w8_2rr, w8_3, beq_self_eq_true, Bool.and_self, Bool.and_true, Bool.true_and, decide_true, Option.toList_some, Option.toList_none, List.cons_append, List.nil_append, Option.bind_some, if_true, if_false, Nat.reduceLeDiff, Nat.reduceLT, Nat.reduceBEq, Bool.or_false, Bool.false_or, Bool.or_true, Bool.true_or, c1]
  rfl
theorem fdM_app0 {I : Mem} {tp : Nat} {k l : List Int32} : fdM (fdM I tp k) (tp + k.length) l = fdM I tp (k ++ l) := by
  induction k generalizing I tp with
  | nil => rfl
  | cons v k ih =>
    show fdM (fdM (tpM I tp v) (tp + 1) k) (tp + (k.length + 1)) l = fdM (tpM I tp v) (tp + 1) (k ++ l)
    rw [show tp + (k.length + 1) = tp + 1 + k.length by omega]
    exact ih
theorem fdM_app {I : Mem} {tp m : Nat} {k l : List Int32} (h : k.length = m) : fdM (fdM I tp k) (tp + m) l = fdM I tp (k ++ l) := by
  rw [← h]
  exact fdM_app0
theorem fdM_00 {I : Mem} {tp : Nat} {l : List Int32} (h : I 0 1 = nI tp) : fdM I tp l 0 1 = nI (tp + l.length) := by
  induction l generalizing I tp with
  | nil => exact h
  | cons v l ih =>
    show fdM (tpM I tp v) (tp + 1) l 0 1 = nI (tp + (l.length + 1))
    rw [ih tpM_0]
    congr 1
    omega
theorem fdM_0 {I : Mem} {tp m : Nat} {l : List Int32} (h : I 0 1 = nI tp) (hl : l.length = m) : fdM I tp l 0 1 = nI (tp + m) := by
  rw [← hl]
  exact fdM_00 h
theorem fdM_o {I : Mem} {tp : Nat} {l : List Int32} {a : Nat} (h0 : a ≠ 0) (h1 : a ≠ 1) : fdM I tp l a = I a := by
  induction l generalizing I tp with
  | nil => rfl
  | cons v l ih =>
    show fdM (tpM I tp v) (tp + 1) l a = I a
    rw [ih]
    unfold tpM
    rw [up_n h0, up_n h1]
theorem fdM_f {I : Mem} {tp : Nat} {l : List Int32} {k : Nat} (h : k ≠ 1) : fdM I tp l 0 k = I 0 k := by
  induction l generalizing I tp with
  | nil => rfl
  | cons v l ih =>
    show fdM (tpM I tp v) (tp + 1) l 0 k = I 0 k
    rw [ih]
    unfold tpM
    rw [up_s, pk_un h]
theorem fdM_lo {I : Mem} {tp : Nat} {l : List Int32} {k : Nat} (h : k < tp) : fdM I tp l 1 k = I 1 k := by
  induction l generalizing I tp with
  | nil => rfl
  | cons v l ih =>
    show fdM (tpM I tp v) (tp + 1) l 1 k = I 1 k
    rw [ih (by omega)]
    unfold tpM
    rw [up_n (by decide), up_s, pk_un (by omega)]
theorem fdM_at {I : Mem} {tp : Nat} {l : List Int32} {k : Nat} (h : k < l.length) : fdM I tp l 1 (tp + k) = l.getD k 0 := by
  induction l generalizing I tp k with
  | nil => exact absurd h (Nat.not_lt_zero _)
  | cons v l ih =>
    show fdM (tpM I tp v) (tp + 1) l 1 (tp + k) = _
    rcases k with _ | k
    · rw [fdM_lo (by omega)]
      unfold tpM
      rw [up_n (by decide), up_s, Nat.add_zero, pk_us]
      rfl
    · rw [show tp + (k + 1) = tp + 1 + k by omega, ih (by simpa using h)]
      rfl
def fdL (a b c e g : Int32) : List Int32 := (((([byt a 24, byt a 16, byt a 8, byt a 0] ++ [byt b 24, byt b 16, byt b 8, byt b 0]) ++ [byt c 24, byt c 16, byt c 8, byt c 0]) ++ [byt e 24, byt e 16, byt e 8, byt e 0]) ++ [byt g 24, byt g 16, byt g 8, byt g 0])
theorem fee_c {d tp : Nat} {a b c e g : Int32} {I : Mem} {J : MemL} {R : MemR} (ht : I 0 1 = nI tp) (h7 : tp + 20 ≤ 700) : C (d + 2) MX11_feed [.ref 0, .int a, .int b, .int c, .int e, .int g] (hp I J R) = some (some (.int (nI (tp + 20))), hp (fdM I tp (fdL a b c e g)) J R) := by
  have h0 : nI tp + 20 ≤ (700 : Int32) := by rw [show (20 : Int32) = nI 20 from rfl, nI_add]; exact nI_le (b := 700) h7 (by omega)
  have t1 := tpn_c (d := d) (x := a) (I := I) (J := J) (R := R) ht (by omega)
  have t2 := tpn_c (d := d) (x := b) (I := fdM I tp [byt a 24, byt a 16, byt a 8, byt a 0]) (J := J) (R := R) (fdM_0 ht rfl) (show tp + 4 + 4 ≤ 700 by omega)
  rw [fdM_app rfl] at t2
  have t3 := tpn_c (d := d) (x := c) (I := fdM I tp ([byt a 24, byt a 16, byt a 8, byt a 0] ++ [byt b 24, byt b 16, byt b 8, byt b 0])) (J := J) (R := R) (fdM_0 ht rfl) (show tp + 8 + 4 ≤ 700 by omega)
  rw [fdM_app rfl] at t3
  have t4 := tpn_c (d := d) (x := e) (I := fdM I tp (([byt a 24, byt a 16, byt a 8, byt a 0] ++ [byt b 24, byt b 16, byt b 8, byt b 0]) ++ [byt c 24, byt c 16, byt c 8, byt c 0])) (J := J) (R := R) (fdM_0 ht rfl) (show tp + 12 + 4 ≤ 700 by omega)
  rw [fdM_app rfl] at t4
  have t5 := tpn_c (d := d) (x := g) (I := fdM I tp ((([byt a 24, byt a 16, byt a 8, byt a 0] ++ [byt b 24, byt b 16, byt b 8, byt b 0]) ++ [byt c 24, byt c 16, byt c 8, byt c 0]) ++ [byt e 24, byt e 16, byt e 8, byt e 0])) (J := J) (R := R) (fdM_0 ht rfl) (show tp + 16 + 4 ≤ 700 by omega)
  rw [fdM_app rfl] at t5
  generalize hL : (((([byt a 24, byt a 16, byt a 8, byt a 0] ++ [byt b 24, byt b 16, byt b 8, byt b 0]) ++ [byt c 24, byt c 16, byt c 8, byt c 0]) ++ [byt e 24, byt e 16, byt e 8, byt e 0]) ++ [byt g 24, byt g 16, byt g 8, byt g 0]) = L5 at t5
  generalize hL4 : ((([byt a 24, byt a 16, byt a 8, byt a 0] ++ [byt b 24, byt b 16, byt b 8, byt b 0]) ++ [byt c 24, byt c 16, byt c 8, byt c 0]) ++ [byt e 24, byt e 16, byt e 8, byt e 0]) = L4 at t4 t5
  generalize hL3 : (([byt a 24, byt a 16, byt a 8, byt a 0] ++ [byt b 24, byt b 16, byt b 8, byt b 0]) ++ [byt c 24, byt c 16, byt c 8, byt c 0]) = L3 at t3 t4
  generalize hL2 : ([byt a 24, byt a 16, byt a 8, byt a 0] ++ [byt b 24, byt b 16, byt b 8, byt b 0]) = L2 at t2 t3
  generalize hL1 : [byt a 24, byt a 16, byt a 8, byt a 0] = L1 at t1 t2
  have e0 : fdL a b c e g = L5 := hL
  have e1 : fdM I tp L5 0 1 = nI (tp + 20) := fdM_0 ht (by rw [← hL]; rfl)
  rw [e0, eX11_feed]
  simp only [xX11_feed_0, xX11_feed_1, xX11_feed_4, xX11_feed_6, xX11_feed_7, xX11_feed_10, xX11_feed_13, xX11_feed_14, xX11_feed_15, xX11_feed_16, xX11_feed_17, kd_0, ↓reduceIte, gd_t, hK_p, hN_p, hF_p, hI_p, hJ_p, hR_p, stI_p, stJ_p, stR_p, stA_p, va_rf_s, va_rf_n, clr_i, clr_l, clr_r, clr_n, clr_o, w8_0, w8_1i, w8_1r, w8_2ii, w8_2ri, w8_2ir, w8_2rr, w8_3, beq_self_eq_true, Bool.and_self, Bool.and_true, Bool.true_and, decide_true, Option.toList_some, Option.toList_none, List.cons_append, List.nil_append, Option.bind_some, if_true, if_false, Nat.reduceLeDiff, Nat.reduceLT, Nat.reduceBEq, Bool.or_false, Bool.false_or, Bool.or_true, Bool.true_or, ht, h0]
  rw [t1]
  simp only [xX11_feed_20, xX11_feed_21, xX11_feed_22, kd_0, Option.bind_some, Option.toList_none, List.nil_append, hK_p, beq_self_eq_true, Bool.and_self, gd_t, w8_0]
  rw [t2]
  simp only [xX11_feed_25, xX11_feed_26, xX11_feed_27, kd_0, Option.bind_some, Option.toList_none, List.nil_append, hK_p, beq_self_eq_true, Bool.and_self, gd_t, w8_0]
  rw [t3]
  simp only [xX11_feed_30, xX11_feed_31, xX11_feed_33, kd_0, Option.bind_some, Option.toList_none, List.nil_append, hK_p, beq_self_eq_true, Bool.and_self, gd_t, w8_0]
  rw [t4]
  simp only [xX11_feed_36, xX11_feed_37, xX11_feed_39, kd_0, Option.bind_some, Option.toList_none, List.nil_append, hK_p, beq_self_eq_true, Bool.and_self, gd_t, w8_0]
  rw [t5]
  simp only [xX11_feed_42, xX11_feed_43, xX11_feed_46, kd_0, Option.bind_some, Option.toList_none, List.nil_append, hK_p, hI_p, beq_self_eq_true, Bool.and_self, gd_t, w8_0]
  rw [e1]
-- the model's
def selF (a b c e g : Int32) (k : Nat) : Int32 := if 4 ≤ nI k then (if 8 ≤ nI k then (if 12 ≤ nI k then (if 16 ≤ nI k then g else e) else c) else b) else a
def fvM (a b c e g : Int32) (k : Nat) : Int32 := selF a b c e g k >>> ((24 - 8 * (nI k - nI k / 4 * 4)) &&& 31) &&& 255
theorem fee_m {d tp : Nat} {a b c e g : Int32} {I : Mem} {J : MemL} {R : MemR} (ht : I 123 1 = nI tp) (h7 : tp + 20 ≤ 700) : C (d + 1) MX12_feed [.ref 123, .int a, .int b, .int c, .int e, .int g] (hp I J R) = some (some (.int (nI (tp + 20))), hp (va_up (va_up I 124 (fun j => if tp ≤ j ∧ j < tp + 20 then fvM a b c e g (j - tp) else I 124 j)) 123 (upd (upd (I 123) 2 0) 1 (nI (tp + 20)))) J R) := by
  have h0 : nI tp + 20 ≤ (700 : Int32) := by rw [show (20 : Int32) = nI 20 from rfl, nI_add]; exact nI_le (b := 700) h7 (by omega)
  have e20 : nI tp + 20 = nI (tp + 20) := nI_add tp 20
  have h := for_0 (P := fun i (s : (Nat → Int32) × Option Value) => E (C d) MX12_feed 23 [some (.ref 123), some (.int a), some (.int b), some (.int c), some (.int e), some (.int g), some (.int (nI i)), s.2] [] (hp (va_up (va_up I 123 (upd (I 123) 2 0)) 124 s.1) J R)) (f := fun i s => (upd s.1 (tp + i) (fvM a b c e g i), some (.int (selF a b c e g i)))) (fin := fun s => some (some (.int (nI (tp + 20))), hp (va_up (va_up I 124 s.1) 123 (upd (upd (I 123) 2 0) 1 (nI (tp + 20)))) J R)) (n := 20) (s := (I 124, none)) (by
    intro i s hi
    have c0 : ¬ (20 : Int32) ≤ nI i := nI_ge (b := 20) hi (by omega)
    have n4 : ¬ (4 : Int32) = 0 := by decide
    unfold fvM selF
    rw [xX12_feed_23]
    by_cases z4 : 4 ≤ nI i
    · by_cases z8 : 8 ≤ nI i
      · by_cases z12 : 12 ≤ nI i
        · by_cases z16 : 16 ≤ nI i <;> simp (disch := omega) only [xX12_feed_25, xX12_feed_27, xX12_feed_30, xX12_feed_32, xX12_feed_33, xX12_feed_36, xX12_feed_37, xX12_feed_40, xX12_feed_42, xX12_feed_44, xX12_feed_47, xX12_feed_48, xX12_feed_51, xX12_feed_53, xX12_feed_55, xX12_feed_58, xX12_feed_59, xX12_feed_62, xX12_feed_64, xX12_feed_66, xX12_feed_69, xX12_feed_71, xX12_feed_74, xX12_feed_76, xX12_feed_78, xX12_feed_79, xX12_feed_82, xX12_feed_83, xX12_feed_86, xX12_feed_88, xX12_feed_89, xX12_feed_91, xX12_feed_93, xX12_feed_95, xX12_feed_97, xX12_feed_98, xX12_feed_99, xX12_feed_100, xX12_feed_101, xX12_feed_102, xX12_feed_105, xX12_feed_106, xX12_feed_107, xX12_feed_110, kd_123, fi_123_0, kd_124, ln_124, ↓reduceIte, gd_t, hK_p, hN_p, hF_p, hI_p, hJ_p, hR_p, stI_p, stJ_p, stR_p, stA_p, va_rf_s, va_rf_n, clr_i, clr_l, clr_r, clr_n, clr_o, w8_0, w8_1i, w8_1r, w8_2ii, w8_2ri, w8_2ir, w8_2rr, w8_3, beq_self_eq_true, Bool.and_self, Bool.and_true, Bool.true_and, decide_true, Option.toList_some, Option.toList_none, List.cons_append, List.nil_append, Option.bind_some, if_true, if_false, Nat.reduceLeDiff, Nat.reduceLT, Nat.reduceBEq, Bool.or_false, Bool.false_or, Bool.or_true, Bool.true_or, nI_leI, nI_ltI, nI_eq, nI_clamp, inb_n, up_s, up_n, bx_uu, nI_1, ix6, nI_0n, pk_us, pk_un, ge_0n, c0, z4, z8, z12, z16, ht, nI_add, n4, decide_false, Bool.not_false]
        · simp (disch := omega) only [xX12_feed_25, xX12_feed_27, xX12_feed_30, xX12_feed_32, xX12_feed_33, xX12_feed_36, xX12_feed_37, xX12_feed_40, xX12_feed_42, xX12_feed_44, xX12_feed_47, xX12_feed_48, xX12_feed_51, xX12_feed_53, xX12_feed_55, xX12_feed_58, xX12_feed_59, xX12_feed_62, xX12_feed_64, xX12_feed_66, xX12_feed_69, xX12_feed_71, xX12_feed_74, xX12_feed_76, xX12_feed_78, xX12_feed_79, xX12_feed_82, xX12_feed_83, xX12_feed_86, xX12_feed_88, xX12_feed_89, xX12_feed_91, xX12_feed_93, xX12_feed_95, xX12_feed_97, xX12_feed_98, xX12_feed_99, xX12_feed_100, xX12_feed_101, xX12_feed_102, xX12_feed_105, xX12_feed_106, xX12_feed_107, xX12_feed_110, kd_123, fi_123_0, kd_124, ln_124, ↓reduceIte, gd_t, hK_p, hN_p, hF_p, hI_p, hJ_p, hR_p, stI_p, stJ_p, stR_p, stA_p, va_rf_s, va_rf_n, clr_i, clr_l, clr_r, clr_n, clr_o, w8_0, w8_1i, w8_1r, w8_2ii, w8_2ri, w8_2ir, w8_2rr, w8_3, beq_self_eq_true, Bool.and_self, Bool.and_true, Bool.true_and, decide_true, Option.toList_some, Option.toList_none, List.cons_append, List.nil_append, Option.bind_some, if_true, if_false, Nat.reduceLeDiff, Nat.reduceLT, Nat.reduceBEq, Bool.or_false, Bool.false_or, Bool.or_true, Bool.true_or, nI_leI, nI_ltI, nI_eq, nI_clamp, inb_n, up_s, up_n, bx_uu, nI_1, ix6, nI_0n, pk_us, pk_un, ge_0n, c0, z4, z8, z12, ht, nI_add, n4, decide_false, Bool.not_false]
      · simp (disch := omega) only [xX12_feed_25, xX12_feed_27, xX12_feed_30, xX12_feed_32, xX12_feed_33, xX12_feed_36, xX12_feed_37, xX12_feed_40, xX12_feed_42, xX12_feed_44, xX12_feed_47, xX12_feed_48, xX12_feed_51, xX12_feed_53, xX12_feed_55, xX12_feed_58, xX12_feed_59, xX12_feed_62, xX12_feed_64, xX12_feed_66, xX12_feed_69, xX12_feed_71, xX12_feed_74, xX12_feed_76, xX12_feed_78, xX12_feed_79, xX12_feed_82, xX12_feed_83, xX12_feed_86, xX12_feed_88, xX12_feed_89, xX12_feed_91, xX12_feed_93, xX12_feed_95, xX12_feed_97, xX12_feed_98, xX12_feed_99, xX12_feed_100, xX12_feed_101, xX12_feed_102, xX12_feed_105, xX12_feed_106, xX12_feed_107, xX12_feed_110, kd_123, fi_123_0, kd_124, ln_124, ↓reduceIte, gd_t, hK_p, hN_p, hF_p, hI_p, hJ_p, hR_p, stI_p, stJ_p, stR_p, stA_p, va_rf_s, va_rf_n, clr_i, clr_l, clr_r, clr_n, clr_o, w8_0, w8_1i, w8_1r, w8_2ii, w8_2ri, w8_2ir, w8_2rr, w8_3, beq_self_eq_true, Bool.and_self, Bool.and_true, Bool.true_and, decide_true, Option.toList_some, Option.toList_none, List.cons_append, List.nil_append, Option.bind_some, if_true, if_false, Nat.reduceLeDiff, Nat.reduceLT, Nat.reduceBEq, Bool.or_false, Bool.false_or, Bool.or_true, Bool.true_or, nI_leI, nI_ltI, nI_eq, nI_clamp, inb_n, up_s, up_n, bx_uu, nI_1, ix6, nI_0n, pk_us, pk_un, ge_0n, c0, z4, z8, ht, nI_add, n4, decide_false, Bool.not_false]
    · simp (disch := omega) only [xX12_feed_25, xX12_feed_27, xX12_feed_30, xX12_feed_32, xX12_feed_33, xX12_feed_36, xX12_feed_37, xX12_feed_40, xX12_feed_42, xX12_feed_44, xX12_feed_47, xX12_feed_48, xX12_feed_51, xX12_feed_53, xX12_feed_55, xX12_feed_58, xX12_feed_59, xX12_feed_62, xX12_feed_64, xX12_feed_66, xX12_feed_69, xX12_feed_71, xX12_feed_74, xX12_feed_76, xX12_feed_78, xX12_feed_79, xX12_feed_82, xX12_feed_83, xX12_feed_86, xX12_feed_88, xX12_feed_89, xX12_feed_91, xX12_feed_93, xX12_feed_95, xX12_feed_97, xX12_feed_98, xX12_feed_99, xX12_feed_100, xX12_feed_101, xX12_feed_102, xX12_feed_105, xX12_feed_106, xX12_feed_107, xX12_feed_110, kd_123, fi_123_0, kd_124, ln_124, ↓reduceIte, gd_t, hK_p, hN_p, hF_p, hI_p, hJ_p, hR_p, stI_p, stJ_p, stR_p, stA_p, va_rf_s, va_rf_n, clr_i, clr_l, clr_r, clr_n, clr_o, w8_0, w8_1i, w8_1r, w8_2ii, w8_2ri, w8_2ir, w8_2rr, w8_3, beq_self_eq_true, Bool.and_self, Bool.and_true, Bool.true_and, decide_true, Option.toList_some, Option.toList_none, List.cons_append, List.nil_append, Option.bind_some, if_true, if_false, Nat.reduceLeDiff, Nat.reduceLT, Nat.reduceBEq, Bool.or_false, Bool.false_or, Bool.or_true, Bool.true_or, nI_leI, nI_ltI, nI_eq, nI_clamp, inb_n, up_s, up_n, bx_uu, nI_1, ix6, nI_0n, pk_us, pk_un, ge_0n, c0, z4, ht, nI_add, n4, decide_false, Bool.not_false]) (by
    intro s
    have c0 : (20 : Int32) ≤ nI 20 := by decide
    rw [xX12_feed_23]
    simp (disch := omega) only [xX12_feed_25, kd_123, fi_123_0, kd_124, ln_124, xX12_feed_27, kd_123, fi_123_0, kd_124, ln_124, xX12_feed_113, xX12_feed_114, xX12_feed_114I, xX12_feed_115, xX12_feed_118, xX12_feed_120, xX12_feed_121, xX12_feed_124, xX12_feed_125, xX12_feed_128, kd_123, fi_123_0, kd_124, ln_124, ↓reduceIte, gd_t, hK_p, hN_p, hF_p, hI_p, hJ_p, hR_p, stI_p, stJ_p, stR_p, stA_p, va_rf_s, va_rf_n, clr_i, clr_l, clr_r, clr_n, clr_o, w8_0, w8_1i, w8_1r, w8_2ii, w8_2ri, w8_2ir, w8_2rr, w8_3, beq_self_eq_true, Bool.and_self, Bool.and_true, Bool.true_and, decide_true, Option.toList_some, Option.toList_none, List.cons_append, List.nil_append, Option.bind_some, if_true, if_false, Nat.reduceLeDiff, Nat.reduceLT, Nat.reduceBEq, Bool.or_false, Bool.false_or, Bool.or_true, Bool.true_or, nI_leI, nI_ltI, nI_eq, nI_clamp, inb_n, up_s, up_n, bx_uu, nI_1, ix6, nI_0n, pk_us, pk_un, ge_0n, c0, ht, e20]
    rw [up_31 (by decide), up_cm (by decide)])
  have hq := itf_inv (f := fun i (s : (Nat → Int32) × Option Value) => (upd s.1 (tp + i) (fvM a b c e g i), some (Value.int (selF a b c e g i)))) (n := 20) (Q := fun i s => s.1 = fun j => if tp ≤ j ∧ j < tp + i then fvM a b c e g (j - tp) else I 124 j) (fun i s hi hq => by
    dsimp only
    rw [hq]
    funext j
    by_cases hj : j = tp + i
    · subst hj
      rw [pk_us, if_pos ⟨by omega, by omega⟩, show tp + i - tp = i by omega]
    · rw [pk_un hj]
      by_cases h2 : tp ≤ j ∧ j < tp + i
      · rw [if_pos h2, if_pos ⟨h2.1, by omega⟩]
      · rw [if_neg h2, if_neg (by omega)]) 20 0 (I 124, none) (by omega) (by funext j; rw [if_neg (by omega)])
  rw [hq, nI_0] at h
  have hs : va_up (va_up I 123 (upd (I 123) 2 0)) 124 (I 124) = va_up I 123 (upd (I 123) 2 0) := by
    funext q
    by_cases hq : q = 124
    · subst hq
      rw [up_s, up_n (by decide)]
    · rw [up_n hq]
  dsimp only at h
  rw [hs] at h
  rw [eX12_feed]
  simp (disch := omega) only [xX12_feed_0, xX12_feed_1, xX12_feed_2, xX12_feed_5, xX12_feed_6, xX12_feed_9, xX12_feed_11, xX12_feed_12, xX12_feed_15, xX12_feed_18, xX12_feed_19, xX12_feed_20, xX12_feed_21, kd_123, fi_123_0, kd_124, ln_124, ↓reduceIte, gd_t, hK_p, hN_p, hF_p, hI_p, hJ_p, hR_p, stI_p, stJ_p, stR_p, stA_p, va_rf_s, va_rf_n, clr_i, clr_l, clr_r, clr_n, clr_o, w8_0, w8_1i, w8_1r, w8_2ii, w8_2ri, w8_2ir, w8_2rr, w8_3, beq_self_eq_true, Bool.and_self, Bool.and_true, Bool.true_and, decide_true, Option.toList_some, Option.toList_none, List.cons_append, List.nil_append, Option.bind_some, if_true, if_false, Nat.reduceLeDiff, Nat.reduceLT, Nat.reduceBEq, Bool.or_false, Bool.false_or, Bool.or_true, Bool.true_or, nI_leI, nI_ltI, nI_eq, nI_clamp, inb_n, up_s, up_n, bx_uu, nI_1, ix6, nI_0n, pk_us, pk_un, ge_0n, ht, h0]
  exact h
theorem fv_eq {a b c e g : Int32} : ∀ k, k < 20 → (fdL a b c e g).getD k 0 = (fvM a b c e g k).toInt8.toInt32 ∧ inN (fvM a b c e g k) 0 255 := by
  intro k hk
  refine ⟨?_, ?_⟩
  · unfold fvM
    rw [i8_and]
    have hs : ∀ k, k < 20 → selF a b c e g k = if k < 4 then a else if k < 8 then b else if k < 12 then c else if k < 16 then e else g := by
      intro k hk
      unfold selF
      have q : ∀ m, m < 100 → ((nI m ≤ nI k) = (m ≤ k)) := fun m hm => propext (nI_leI (by omega) (by omega))
      rw [show (4 : Int32) = nI 4 from rfl, show (8 : Int32) = nI 8 from rfl, show (12 : Int32) = nI 12 from rfl, show (16 : Int32) = nI 16 from rfl]
      simp only [q 4 (by omega), q 8 (by omega), q 12 (by omega), q 16 (by omega)]
      repeat' split
      all_goals first | rfl | omega
    rw [hs k hk]
    have hk' : k = 0 ∨ k = 1 ∨ k = 2 ∨ k = 3 ∨ k = 4 ∨ k = 5 ∨ k = 6 ∨ k = 7 ∨ k = 8 ∨ k = 9 ∨ k = 10 ∨ k = 11 ∨ k = 12 ∨ k = 13 ∨ k = 14 ∨ k = 15 ∨ k = 16 ∨ k = 17 ∨ k = 18 ∨ k = 19 := by omega
    have r0 : (24 : Int32) - 8 * (nI 0 - nI 0 / 4 * 4) = 24 := by decide
    have r1 : (24 : Int32) - 8 * (nI 1 - nI 1 / 4 * 4) = 16 := by decide
    have r2 : (24 : Int32) - 8 * (nI 2 - nI 2 / 4 * 4) = 8 := by decide
    have r3 : (24 : Int32) - 8 * (nI 3 - nI 3 / 4 * 4) = 0 := by decide
    have r4 : (24 : Int32) - 8 * (nI 4 - nI 4 / 4 * 4) = 24 := by decide
    have r5 : (24 : Int32) - 8 * (nI 5 - nI 5 / 4 * 4) = 16 := by decide
    have r6 : (24 : Int32) - 8 * (nI 6 - nI 6 / 4 * 4) = 8 := by decide
    have r7 : (24 : Int32) - 8 * (nI 7 - nI 7 / 4 * 4) = 0 := by decide
    have r8 : (24 : Int32) - 8 * (nI 8 - nI 8 / 4 * 4) = 24 := by decide
    have r9 : (24 : Int32) - 8 * (nI 9 - nI 9 / 4 * 4) = 16 := by decide
    have r10 : (24 : Int32) - 8 * (nI 10 - nI 10 / 4 * 4) = 8 := by decide
    have r11 : (24 : Int32) - 8 * (nI 11 - nI 11 / 4 * 4) = 0 := by decide
    have r12 : (24 : Int32) - 8 * (nI 12 - nI 12 / 4 * 4) = 24 := by decide
    have r13 : (24 : Int32) - 8 * (nI 13 - nI 13 / 4 * 4) = 16 := by decide
    have r14 : (24 : Int32) - 8 * (nI 14 - nI 14 / 4 * 4) = 8 := by decide
    have r15 : (24 : Int32) - 8 * (nI 15 - nI 15 / 4 * 4) = 0 := by decide
    have r16 : (24 : Int32) - 8 * (nI 16 - nI 16 / 4 * 4) = 24 := by decide
    have r17 : (24 : Int32) - 8 * (nI 17 - nI 17 / 4 * 4) = 16 := by decide
    have r18 : (24 : Int32) - 8 * (nI 18 - nI 18 / 4 * 4) = 8 := by decide
    have r19 : (24 : Int32) - 8 * (nI 19 - nI 19 / 4 * 4) = 0 := by decide
    rcases hk' with rfl | rfl | rfl | rfl | rfl | rfl | rfl | rfl | rfl | rfl | rfl | rfl | rfl | rfl | rfl | rfl | rfl | rfl | rfl | rfl
    · rw [r0]; rfl
    · rw [r1]; rfl
    · rw [r2]; rfl
    · rw [r3]; rfl
    · rw [r4]; rfl
    · rw [r5]; rfl
    · rw [r6]; rfl
    · rw [r7]; rfl
    · rw [r8]; rfl
    · rw [r9]; rfl
    · rw [r10]; rfl
    · rw [r11]; rfl
    · rw [r12]; rfl
    · rw [r13]; rfl
    · rw [r14]; rfl
    · rw [r15]; rfl
    · rw [r16]; rfl
    · rw [r17]; rfl
    · rw [r18]; rfl
    · rw [r19]; rfl
  · obtain ⟨j, hj, e1⟩ := pk_andE (selF a b c e g k >>> ((24 - 8 * (nI k - nI k / 4 * 4)) &&& 31)) (m := 255) 8 (by decide)
    exact ⟨j, by omega, by omega, e1⟩
theorem feed_p {I : Mem} {J : MemL} {R : MemR} {t t' n nb nm fL lL fG lG st : Nat} (h : cAll I R t t' n nb nm fL lL fG lG st) {a b c e g : Int32} : chgP MX11_feed MX12_feed [.int a, .int b, .int c, .int e, .int g] I J R t t' n nb nm fL lL fG lG := by
  have ht := te_hi h.te
  obtain ⟨tp, t1, t2, t3, t4⟩ := h.tap
  by_cases h7 : tp + 20 ≤ 700
  · have hm := fee_m (d := 10) (tp := tp) (a := a) (b := b) (c := c) (e := e) (g := g) (I := fdM I tp (fdL a b c e g)) (J := J) (R := R) (by rw [fdM_o (by decide) (by decide)]; exact t2) h7
    rw [fdM_o (a := 124) (by decide) (by decide), fdM_o (a := 123) (by decide) (by decide)] at hm
    generalize hI2 : va_up (va_up (fdM I tp (fdL a b c e g)) 124 (fun j => if tp ≤ j ∧ j < tp + 20 then fvM a b c e g (j - tp) else I 124 j)) 123 (upd (upd (I 123) 2 0) 1 (nI (tp + 20))) = K at hm
    have o : ∀ q, q ≠ 0 → q ≠ 1 → q ≠ 123 → q ≠ 124 → K q = I q := fun q h1 h2 h3 h4 => by rw [← hI2, up_n h3, up_n h4, fdM_o h1 h2]
    have f : ∀ k, k ≠ 1 → k ≠ 2 → K 123 k = I 123 k := fun k h1 h2 => by rw [← hI2, up_s, pk_un h1, pk_un h2]
    refine ⟨nI (tp + 20), fdM I tp (fdL a b c e g), J, R, K, J, st, fee_c t1 h7, hm, ?_, Or.inr ⟨fun q h1 h2 => o q (by omega) (by omega) (by omega) (by omega), o _ (by decide) (by decide) (by decide) (by decide), o _ (by decide) (by decide) (by decide) (by decide), o _ (by decide) (by decide) (by decide) (by decide), o _ (by decide) (by decide) (by decide) (by decide), o _ (by decide) (by decide) (by decide) (by decide), o _ (by decide) (by decide) (by decide) (by decide)⟩⟩
    refine ⟨h.te, h.2.1, h.2.2.1, h.r3, h.r4, ?_, ?_, ?_, ?_, ?_, ?_, ?_, ?_, ?_, ?_⟩
    · exact cTxt_fr h.txt (fun q h1 h2 => o q (by omega) (by omega) (by omega) (by omega)) (fun q h1 h2 => o q (by omega) (by omega) (by omega) (by omega)) (f _ (by decide) (by decide)) (f _ (by decide) (by decide)) (f _ (by decide) (by decide)) (f _ (by decide) (by decide))
    · exact cLws_fr h.lws (fun q h1 h2 => o q (by omega) (by omega) (by omega) (by omega)) (fun q h1 h2 => o q (by omega) (by omega) (by omega) (by omega))
    · rw [f _ (by decide) (by decide)]; exact h.kno
    · exact cNow_fr h.now h.n6 (fun q h1 h2 => o q (by omega) (by omega) (by omega) (by omega)) (fun q h1 h2 => o q (by omega) (by omega) (by omega) (by omega)) (fun q k h1 h2 _ => by rw [o q (by omega) (by omega) (by omega) (by omega)]) (f _ (by decide) (by decide)) rfl
    · exact cImg_fr h.img (by rw [← hI2, up_n (by decide), up_n (by decide), fdM_f (by decide)]) (fun q h1 h2 => o q (by omega) (by omega) (by omega) (by omega)) (o _ (by omega) (by omega) (by omega) (by omega)) (f _ (by decide) (by decide)) (f _ (by decide) (by decide)) rfl
    · exact cSto_fr h.sto (o _ (by omega) (by omega) (by omega) (by omega)) (o _ (by omega) (by omega) (by omega) (by omega)) (o _ (by omega) (by omega) (by omega) (by omega)) (o _ (by omega) (by omega) (by omega) (by omega))
    · exact cHnd_fr h.hnd (o _ (by omega) (by omega) (by omega) (by omega)) (o _ (by omega) (by omega) (by omega) (by omega)) (o _ (by omega) (by omega) (by omega) (by omega)) (f _ (by decide) (by decide))
    · exact cHea_fr h.hea (fun a h1 h2 => o a (by omega) (by omega) (by omega) (by omega)) (o _ (by omega) (by omega) (by omega) (by omega)) (f _ (by decide) (by decide)) (f _ (by decide) (by decide))
    · refine ⟨tp + 20, ?_, ?_, h7, fun k hk => ?_⟩
      · rw [← hI2, up_n (by decide), up_n (by decide)]
        exact fdM_0 t1 rfl
      · rw [← hI2, up_s, pk_us]
      · have e1 : K 1 = fdM I tp (fdL a b c e g) 1 := by rw [← hI2, up_n (by decide), up_n (by decide)]
        have e2 : K 124 = fun j => if tp ≤ j ∧ j < tp + 20 then fvM a b c e g (j - tp) else I 124 j := by rw [← hI2, up_n (by decide), up_s]
        rw [e1, e2]
        by_cases hkt : k < tp
        · rw [fdM_lo hkt]
          simp only [show ¬ (tp ≤ k ∧ k < tp + 20) by omega, if_false]
          exact t4 k hkt
        · obtain ⟨j, rfl⟩ : ∃ j, k = tp + j := ⟨k - tp, by omega⟩
          rw [fdM_at (show j < 20 by omega)]
          simp only [show (tp ≤ tp + j ∧ tp + j < tp + 20) = True from eq_true ⟨by omega, by omega⟩, if_true, show tp + j - tp = j by omega]
          exact fv_eq j (by omega)
    · exact cFau_fr h.fau (o _ (by omega) (by omega) (by omega) (by omega)) (f _ (by decide) (by decide)) (f _ (by decide) (by decide)) (o _ (by omega) (by omega) (by omega) (by omega)) (o _ (by omega) (by omega) (by omega) (by omega))
  · have h0 : ¬ nI tp + 20 ≤ (700 : Int32) := by rw [show (20 : Int32) = nI 20 from rfl, nI_add]; exact nI_ge (a := 700) (by omega) (by omega)
    refine askP.chg h (askP.mk0 (v := -1) (w := -1) ?_ ?_ rfl)
    · rw [eX11_feed]
      simp only [xX11_feed_0, xX11_feed_1, xX11_feed_4, xX11_feed_6, xX11_feed_7, xX11_feed_10, xX11_feed_13, xX11_feed_14, kd_0, ↓reduceIte, gd_t, hK_p, hN_p, hF_p, hI_p, hJ_p, hR_p, stI_p, stJ_p, stR_p, stA_p, va_rf_s, va_rf_n, clr_i, clr_l, clr_r, clr_n, clr_o, w8_0, w8_1i, w8_1r, w8_2ii, w8_2ri, w8_2ir, w8_2rr, w8_3, beq_self_eq_true, Bool.and_self, Bool.and_true, Bool.true_and, decide_true, Option.toList_some, Option.toList_none, List.cons_append, List.nil_append, Option.bind_some, if_true, if_false, Nat.reduceLeDiff, Nat.reduceLT, Nat.reduceBEq, Bool.or_false, Bool.false_or, Bool.or_true, Bool.true_or, t1, h0]
    · rw [eX12_feed]
      simp (disch := omega) only [xX12_feed_0, xX12_feed_1, xX12_feed_2, xX12_feed_5, xX12_feed_6, xX12_feed_9, xX12_feed_11, xX12_feed_12, xX12_feed_15, xX12_feed_18, xX12_feed_19, kd_123, fi_123_0, kd_124, ln_124, ↓reduceIte, gd_t, hK_p, hN_p, hF_p, hI_p, hJ_p, hR_p, stI_p, stJ_p, stR_p, stA_p, va_rf_s, va_rf_n, clr_i, clr_l, clr_r, clr_n, clr_o, w8_0, w8_1i, w8_1r, w8_2ii, w8_2ri, w8_2ir, w8_2rr, w8_3, beq_self_eq_true, Bool.and_self, Bool.and_true, Bool.true_and, decide_true, Option.toList_some, Option.toList_none, List.cons_append, List.nil_append, Option.bind_some, if_true, if_false, Nat.reduceLeDiff, Nat.reduceLT, Nat.reduceBEq, Bool.or_false, Bool.false_or, Bool.or_true, Bool.true_or, nI_leI, nI_ltI, nI_eq, nI_clamp, inb_n, up_s, up_n, bx_uu, nI_1, ix6, nI_0n, pk_us, pk_un, ge_0n, t2, h0]

-- PAIRS, 9: hang, undo
theorem sr_none {p : Nat → Bool} : ∀ {k i : Nat}, (srF (fun i (_ : Unit) => p i) (fun _ s => s) k i ()).1 = none ↔ ∀ j, i ≤ j → j < i + k → p j = false
  | 0, i => ⟨fun _ j h1 h2 => absurd h2 (by omega), fun _ => rfl⟩
  | k + 1, i => by
    unfold srF
    by_cases z : p i = true
    · rw [if_pos z]
      refine ⟨fun q => absurd q (by simp), fun q => ?_⟩
      rw [q i (by omega) (by omega)] at z
      exact absurd z (by simp)
    · rw [if_neg z, sr_none (k := k) (i := i + 1)]
      refine ⟨fun q j h1 h2 => ?_, fun q j h1 h2 => q j (by omega) (by omega)⟩
      by_cases e : j = i
      · subst e
        simpa using z
      · exact q j (by omega) (by omega)
def tkP (b p : Nat → Int32) (x y : Int32) (i : Nat) : Bool := decide (b i = x) && decide (p i = y)
theorem tak_c {d a b fr la lb : Nat} {x y : Int32} {I : Mem} {J : MemL} {R : MemR} (ka : kd0 a = 14) (kb : kd0 b = 14) (na : ln0 a = la) (nb : ln0 b = lb) (ha : fr + 6 ≤ la) (hb : fr + 6 ≤ lb) (ha2 : la < 2 ^ 20) (hb2 : lb < 2 ^ 20) : C (d + 1) MX11_isTaken [.ref a, .ref b, .int (nI fr), .int x, .int y] (hp I J R) = some (some (.int (if (srF (fun i (_ : Unit) => tkP (fun i => I a (fr + i)) (fun i => I b (fr + i)) x y i) (fun _ s => s) 6 0 ()).1 = none then 0 else 1)), hp I J R) := by
  have h := for_s (P := fun i (_ : Unit) => E (C d) MX11_isTaken 3 [some (.ref a), some (.ref b), some (.int (nI fr)), some (.int x), some (.int y), some (.int (nI (fr + i)))] [] (hp I J R)) (F := fun o => some (some (.int (if o.1 = none then 0 else 1)), hp I J R)) (c := fun i _ => tkP (fun i => I a (fr + i)) (fun i => I b (fr + i)) x y i) (f := fun _ s => s) (n := 6) (by
    intro i s hi
    have e6 : nI fr + 6 = nI (fr + 6) := nI_add fr 6
    have c0 : ¬ fr + 6 ≤ fr + i := by omega
    have c1 : ¬ la ≤ fr + i := by omega
    have c2 : ¬ lb ≤ fr + i := by omega
    rw [xX11_isTaken_3]
    unfold tkP
    by_cases z : I a (fr + i) = x
    · by_cases w : I b (fr + i) = y
      · simp (disch := omega) only [xX11_isTaken_5, xX11_isTaken_6, xX11_isTaken_8, xX11_isTaken_9, xX11_isTaken_12, xX11_isTaken_14, xX11_isTaken_15, xX11_isTaken_16, xX11_isTaken_19, xX11_isTaken_21, xX11_isTaken_22, xX11_isTaken_23, xX11_isTaken_26, xX11_isTaken_27, xX11_isTaken_29, xX11_isTaken_30, xX11_isTaken_31, xX11_isTaken_34, xX11_isTaken_35, xX11_isTaken_37, xX11_isTaken_38, xX11_isTaken_40, xX11_isTaken_43, xX11_isTaken_44, xX11_isTaken_45, xX11_isTaken_48, xX11_isTaken_51, xX11_isTaken_52, ↓reduceIte, gd_t, hK_p, hN_p, hF_p, hI_p, hJ_p, hR_p, stI_p, stJ_p, stR_p, stA_p, va_rf_s, va_rf_n, clr_i, clr_l, clr_r, clr_n, clr_o, w8_0, w8_1i, w8_1r, w8_2ii, w8_2ri, w8_2ir, w8_2rr, w8_3, beq_self_eq_true, Bool.and_self, Bool.and_true, Bool.true_and, decide_true, Option.toList_some, Option.toList_none, List.cons_append, List.nil_append, Option.bind_some, if_true, if_false, Nat.reduceLeDiff, Nat.reduceLT, Nat.reduceBEq, Bool.or_false, Bool.false_or, Bool.or_true, Bool.true_or, nI_leI, nI_ltI, nI_eq, nI_clamp, inb_n, up_s, up_n, bx_uu, nI_1, ix6, nI_0n, pk_us, pk_un, ge_0n, ka, kb, na, nb, e6, c0, c1, c2, z, w, z11, not_true_eq_false, reduceCtorEq]
      · simp (disch := omega) only [xX11_isTaken_5, xX11_isTaken_6, xX11_isTaken_8, xX11_isTaken_9, xX11_isTaken_12, xX11_isTaken_14, xX11_isTaken_15, xX11_isTaken_16, xX11_isTaken_19, xX11_isTaken_21, xX11_isTaken_22, xX11_isTaken_23, xX11_isTaken_26, xX11_isTaken_27, xX11_isTaken_29, xX11_isTaken_30, xX11_isTaken_31, xX11_isTaken_34, xX11_isTaken_35, xX11_isTaken_37, xX11_isTaken_38, xX11_isTaken_40, xX11_isTaken_43, xX11_isTaken_44, xX11_isTaken_45, xX11_isTaken_48, xX11_isTaken_51, xX11_isTaken_52, ↓reduceIte, gd_t, hK_p, hN_p, hF_p, hI_p, hJ_p, hR_p, stI_p, stJ_p, stR_p, stA_p, va_rf_s, va_rf_n, clr_i, clr_l, clr_r, clr_n, clr_o, w8_0, w8_1i, w8_1r, w8_2ii, w8_2ri, w8_2ir, w8_2rr, w8_3, beq_self_eq_true, Bool.and_self, Bool.and_true, Bool.true_and, decide_true, Option.toList_some, Option.toList_none, List.cons_append, List.nil_append, Option.bind_some, if_true, if_false, Nat.reduceLeDiff, Nat.reduceLT, Nat.reduceBEq, Bool.or_false, Bool.false_or, Bool.or_true, Bool.true_or, nI_leI, nI_ltI, nI_eq, nI_clamp, inb_n, up_s, up_n, bx_uu, nI_1, ix6, nI_0n, pk_us, pk_un, ge_0n, ka, kb, na, nb, e6, c0, c1, c2, z, w, decide_false, Bool.and_false, Bool.false_eq_true, not_true_eq_false, not_false_eq_true, Nat.add_assoc]
    · simp (disch := omega) only [xX11_isTaken_5, xX11_isTaken_6, xX11_isTaken_8, xX11_isTaken_9, xX11_isTaken_12, xX11_isTaken_14, xX11_isTaken_15, xX11_isTaken_16, xX11_isTaken_19, xX11_isTaken_21, xX11_isTaken_22, xX11_isTaken_23, xX11_isTaken_26, xX11_isTaken_27, xX11_isTaken_29, xX11_isTaken_30, xX11_isTaken_31, xX11_isTaken_34, xX11_isTaken_35, xX11_isTaken_37, xX11_isTaken_38, xX11_isTaken_40, xX11_isTaken_43, xX11_isTaken_44, xX11_isTaken_45, xX11_isTaken_48, xX11_isTaken_51, xX11_isTaken_52, ↓reduceIte, gd_t, hK_p, hN_p, hF_p, hI_p, hJ_p, hR_p, stI_p, stJ_p, stR_p, stA_p, va_rf_s, va_rf_n, clr_i, clr_l, clr_r, clr_n, clr_o, w8_0, w8_1i, w8_1r, w8_2ii, w8_2ri, w8_2ir, w8_2rr, w8_3, beq_self_eq_true, Bool.and_self, Bool.and_true, Bool.true_and, decide_true, Option.toList_some, Option.toList_none, List.cons_append, List.nil_append, Option.bind_some, if_true, if_false, Nat.reduceLeDiff, Nat.reduceLT, Nat.reduceBEq, Bool.or_false, Bool.false_or, Bool.or_true, Bool.true_or, nI_leI, nI_ltI, nI_eq, nI_clamp, inb_n, up_s, up_n, bx_uu, nI_1, ix6, nI_0n, pk_us, pk_un, ge_0n, ka, kb, na, nb, e6, c0, c1, c2, z, decide_false, Bool.false_and, Bool.false_eq_true, not_false_eq_true, Nat.add_assoc]) (by
    intro s
    have e6 : nI fr + 6 = nI (fr + 6) := nI_add fr 6
    have c0 : fr + 6 ≤ fr + 6 := Nat.le_refl _
    rw [xX11_isTaken_3]
    simp (disch := omega) only [xX11_isTaken_5, xX11_isTaken_6, xX11_isTaken_8, xX11_isTaken_9, xX11_isTaken_12, xX11_isTaken_14, xX11_isTaken_15, xX11_isTaken_16, xX11_isTaken_19, xX11_isTaken_21, xX11_isTaken_22, xX11_isTaken_23, xX11_isTaken_26, xX11_isTaken_27, xX11_isTaken_29, xX11_isTaken_30, xX11_isTaken_31, xX11_isTaken_34, xX11_isTaken_35, xX11_isTaken_37, xX11_isTaken_38, xX11_isTaken_40, xX11_isTaken_43, xX11_isTaken_44, xX11_isTaken_45, xX11_isTaken_48, xX11_isTaken_51, xX11_isTaken_52, ↓reduceIte, gd_t, hK_p, hN_p, hF_p, hI_p, hJ_p, hR_p, stI_p, stJ_p, stR_p, stA_p, va_rf_s, va_rf_n, clr_i, clr_l, clr_r, clr_n, clr_o, w8_0, w8_1i, w8_1r, w8_2ii, w8_2ri, w8_2ir, w8_2rr, w8_3, beq_self_eq_true, Bool.and_self, Bool.and_true, Bool.true_and, decide_true, Option.toList_some, Option.toList_none, List.cons_append, List.nil_append, Option.bind_some, if_true, if_false, Nat.reduceLeDiff, Nat.reduceLT, Nat.reduceBEq, Bool.or_false, Bool.false_or, Bool.or_true, Bool.true_or, nI_leI, nI_ltI, nI_eq, nI_clamp, inb_n, up_s, up_n, bx_uu, nI_1, ix6, nI_0n, pk_us, pk_un, ge_0n, e6, c0, z01]) 6 0 () (by omega)
  rw [Nat.add_zero] at h
  rw [eX11_isTaken]
  simp only [xX11_isTaken_0, xX11_isTaken_1, clr_i]
  exact h
theorem hun_m {d at1 n : Nat} {x y : Int32} {I : Mem} {J : MemL} {R : MemR} (ha : at1 ≤ 6) (hn : I 123 13 = nI n) (hn6 : n ≤ 6) : C (d + 1) MX12_hungAt [.ref 123, .int (nI at1), .int x, .int y] (hp I J R) = some (some (.int (an (srF (fun i (_ : Unit) => tkP (fun i => I 151 (at1 + i)) (fun i => I 152 (at1 + i)) x y i) (fun _ s => s) n 0 ()).1 (-1))), hp I J R) := by
  have h := for_s (P := fun i (_ : Unit) => E (C d) MX12_hungAt 3 [some (.ref 123), some (.int (nI at1)), some (.int x), some (.int y), some (.int (nI i))] [] (hp I J R)) (F := fun o => some (some (.int (an o.1 (-1))), hp I J R)) (c := fun i _ => tkP (fun i => I 151 (at1 + i)) (fun i => I 152 (at1 + i)) x y i) (f := fun _ s => s) (n := n) (by
    intro i s hi
    have c0 : ¬ n ≤ i := by omega
    rw [xX12_hungAt_3]
    unfold tkP
    by_cases z : I 151 (at1 + i) = x
    · by_cases w : I 152 (at1 + i) = y
      · simp (disch := omega) only [xX12_hungAt_5, xX12_hungAt_6, xX12_hungAt_9, xX12_hungAt_12, xX12_hungAt_13, xX12_hungAt_16, xX12_hungAt_17, xX12_hungAt_19, xX12_hungAt_20, xX12_hungAt_21, xX12_hungAt_22, xX12_hungAt_25, xX12_hungAt_26, xX12_hungAt_29, xX12_hungAt_30, xX12_hungAt_32, xX12_hungAt_33, xX12_hungAt_34, xX12_hungAt_35, xX12_hungAt_38, xX12_hungAt_40, xX12_hungAt_41, xX12_hungAt_44, xX12_hungAt_47, xX12_hungAt_48, kd_123, fi_123_55, kd_151, ln_151, fi_123_56, kd_152, ln_152, ↓reduceIte, gd_t, hK_p, hN_p, hF_p, hI_p, hJ_p, hR_p, stI_p, stJ_p, stR_p, stA_p, va_rf_s, va_rf_n, clr_i, clr_l, clr_r, clr_n, clr_o, w8_0, w8_1i, w8_1r, w8_2ii, w8_2ri, w8_2ir, w8_2rr, w8_3, beq_self_eq_true, Bool.and_self, Bool.and_true, Bool.true_and, decide_true, Option.toList_some, Option.toList_none, List.cons_append, List.nil_append, Option.bind_some, if_true, if_false, Nat.reduceLeDiff, Nat.reduceLT, Nat.reduceBEq, Bool.or_false, Bool.false_or, Bool.or_true, Bool.true_or, nI_leI, nI_ltI, nI_eq, nI_clamp, inb_n, up_s, up_n, bx_uu, nI_1, ix6, nI_0n, pk_us, pk_un, ge_0n, hn, nI_add, c0, z, w, an, not_true_eq_false]
      · simp (disch := omega) only [xX12_hungAt_5, xX12_hungAt_6, xX12_hungAt_9, xX12_hungAt_12, xX12_hungAt_13, xX12_hungAt_16, xX12_hungAt_17, xX12_hungAt_19, xX12_hungAt_20, xX12_hungAt_21, xX12_hungAt_22, xX12_hungAt_25, xX12_hungAt_26, xX12_hungAt_29, xX12_hungAt_30, xX12_hungAt_32, xX12_hungAt_33, xX12_hungAt_34, xX12_hungAt_35, xX12_hungAt_38, xX12_hungAt_40, xX12_hungAt_41, xX12_hungAt_44, xX12_hungAt_47, xX12_hungAt_48, kd_123, fi_123_55, kd_151, ln_151, fi_123_56, kd_152, ln_152, ↓reduceIte, gd_t, hK_p, hN_p, hF_p, hI_p, hJ_p, hR_p, stI_p, stJ_p, stR_p, stA_p, va_rf_s, va_rf_n, clr_i, clr_l, clr_r, clr_n, clr_o, w8_0, w8_1i, w8_1r, w8_2ii, w8_2ri, w8_2ir, w8_2rr, w8_3, beq_self_eq_true, Bool.and_self, Bool.and_true, Bool.true_and, decide_true, Option.toList_some, Option.toList_none, List.cons_append, List.nil_append, Option.bind_some, if_true, if_false, Nat.reduceLeDiff, Nat.reduceLT, Nat.reduceBEq, Bool.or_false, Bool.false_or, Bool.or_true, Bool.true_or, nI_leI, nI_ltI, nI_eq, nI_clamp, inb_n, up_s, up_n, bx_uu, nI_1, ix6, nI_0n, pk_us, pk_un, ge_0n, hn, nI_add, c0, z, w, decide_false, Bool.and_false, Bool.false_eq_true, not_true_eq_false, not_false_eq_true]
    · simp (disch := omega) only [xX12_hungAt_5, xX12_hungAt_6, xX12_hungAt_9, xX12_hungAt_12, xX12_hungAt_13, xX12_hungAt_16, xX12_hungAt_17, xX12_hungAt_19, xX12_hungAt_20, xX12_hungAt_21, xX12_hungAt_22, xX12_hungAt_25, xX12_hungAt_26, xX12_hungAt_29, xX12_hungAt_30, xX12_hungAt_32, xX12_hungAt_33, xX12_hungAt_34, xX12_hungAt_35, xX12_hungAt_38, xX12_hungAt_40, xX12_hungAt_41, xX12_hungAt_44, xX12_hungAt_47, xX12_hungAt_48, kd_123, fi_123_55, kd_151, ln_151, fi_123_56, kd_152, ln_152, ↓reduceIte, gd_t, hK_p, hN_p, hF_p, hI_p, hJ_p, hR_p, stI_p, stJ_p, stR_p, stA_p, va_rf_s, va_rf_n, clr_i, clr_l, clr_r, clr_n, clr_o, w8_0, w8_1i, w8_1r, w8_2ii, w8_2ri, w8_2ir, w8_2rr, w8_3, beq_self_eq_true, Bool.and_self, Bool.and_true, Bool.true_and, decide_true, Option.toList_some, Option.toList_none, List.cons_append, List.nil_append, Option.bind_some, if_true, if_false, Nat.reduceLeDiff, Nat.reduceLT, Nat.reduceBEq, Bool.or_false, Bool.false_or, Bool.or_true, Bool.true_or, nI_leI, nI_ltI, nI_eq, nI_clamp, inb_n, up_s, up_n, bx_uu, nI_1, ix6, nI_0n, pk_us, pk_un, ge_0n, hn, nI_add, c0, z, decide_false, Bool.false_and, Bool.false_eq_true, not_false_eq_true]) (by
    intro s
    have c0 : n ≤ n := Nat.le_refl n
    rw [xX12_hungAt_3]
    simp (disch := omega) only [xX12_hungAt_5, xX12_hungAt_6, xX12_hungAt_9, xX12_hungAt_12, xX12_hungAt_13, xX12_hungAt_16, xX12_hungAt_17, xX12_hungAt_19, xX12_hungAt_20, xX12_hungAt_21, xX12_hungAt_22, xX12_hungAt_25, xX12_hungAt_26, xX12_hungAt_29, xX12_hungAt_30, xX12_hungAt_32, xX12_hungAt_33, xX12_hungAt_34, xX12_hungAt_35, xX12_hungAt_38, xX12_hungAt_40, xX12_hungAt_41, xX12_hungAt_44, xX12_hungAt_47, xX12_hungAt_48, kd_123, fi_123_55, kd_151, ln_151, fi_123_56, kd_152, ln_152, ↓reduceIte, gd_t, hK_p, hN_p, hF_p, hI_p, hJ_p, hR_p, stI_p, stJ_p, stR_p, stA_p, va_rf_s, va_rf_n, clr_i, clr_l, clr_r, clr_n, clr_o, w8_0, w8_1i, w8_1r, w8_2ii, w8_2ri, w8_2ir, w8_2rr, w8_3, beq_self_eq_true, Bool.and_self, Bool.and_true, Bool.true_and, decide_true, Option.toList_some, Option.toList_none, List.cons_append, List.nil_append, Option.bind_some, if_true, if_false, Nat.reduceLeDiff, Nat.reduceLT, Nat.reduceBEq, Bool.or_false, Bool.false_or, Bool.or_true, Bool.true_or, nI_leI, nI_ltI, nI_eq, nI_clamp, inb_n, up_s, up_n, bx_uu, nI_1, ix6, nI_0n, pk_us, pk_un, ge_0n, hn, c0, an]) n 0 () (by omega)
  rw [nI_0] at h
  rw [eX12_hungAt]
  simp only [xX12_hungAt_0, xX12_hungAt_1, clr_i]
  exact h
def ffM (I : Mem) : Mem := va_up (va_up I 112 (upd (I 112) 7 0)) 117 (upd (I 117) 4 0)
theorem ff_c {d : Nat} {I : Mem} {J : MemL} {R : MemR} : C (d + 2) MX11_forgetFound [.ref 0] (hp I J R) = some (none, hp (ffM I) J R) := by
  have h1 : ∀ I : Mem, C (d + 1) MX3_forget [.ref 112] (hp I J R) = some (none, hp (va_up I 112 (upd (I 112) 7 0)) J R) := fun I => by
    rw [eX3_forget]
    simp only [xX3_forget_0, xX3_forget_1, xX3_forget_2, xX3_forget_5, kd_112, ↓reduceIte, gd_t, hK_p, hN_p, hF_p, hI_p, hJ_p, hR_p, stI_p, stJ_p, stR_p, stA_p, va_rf_s, va_rf_n, clr_i, clr_l, clr_r, clr_n, clr_o, w8_0, w8_1i, w8_1r, w8_2ii, w8_2ri, w8_2ir, w8_2rr, w8_3, beq_self_eq_true, Bool.and_self, Bool.and_true, Bool.true_and, decide_true, Option.toList_some, Option.toList_none, List.cons_append, List.nil_append, Option.bind_some, if_true, if_false, Nat.reduceLeDiff, Nat.reduceLT, Nat.reduceBEq, Bool.or_false, Bool.false_or, Bool.or_true, Bool.true_or, z01]
  have h2 : ∀ I : Mem, C (d + 1) MX6_forget [.ref 117] (hp I J R) = some (none, hp (va_up I 117 (upd (I 117) 4 0)) J R) := fun I => by
    rw [eX6_forget]
    simp only [xX6_forget_0, xX6_forget_1, xX6_forget_2, xX6_forget_5, kd_117, ↓reduceIte, gd_t, hK_p, hN_p, hF_p, hI_p, hJ_p, hR_p, stI_p, stJ_p, stR_p, stA_p, va_rf_s, va_rf_n, clr_i, clr_l, clr_r, clr_n, clr_o, w8_0, w8_1i, w8_1r, w8_2ii, w8_2ri, w8_2ir, w8_2rr, w8_3, beq_self_eq_true, Bool.and_self, Bool.and_true, Bool.true_and, decide_true, Option.toList_some, Option.toList_none, List.cons_append, List.nil_append, Option.bind_some, if_true, if_false, Nat.reduceLeDiff, Nat.reduceLT, Nat.reduceBEq, Bool.or_false, Bool.false_or, Bool.or_true, Bool.true_or, z01]
  rw [eX11_forgetFound]
  simp (disch := omega) only [xX11_forgetFound_0, xX11_forgetFound_1, xX11_forgetFound_4, xX11_forgetFound_7, xX11_forgetFound_8, xX11_forgetFound_11, xX11_forgetFound_14, kd_0, fi_0_12, kd_112, fi_0_13, kd_117, kd_112, kd_117, ↓reduceIte, gd_t, hK_p, hN_p, hF_p, hI_p, hJ_p, hR_p, stI_p, stJ_p, stR_p, stA_p, va_rf_s, va_rf_n, clr_i, clr_l, clr_r, clr_n, clr_o, w8_0, w8_1i, w8_1r, w8_2ii, w8_2ri, w8_2ir, w8_2rr, w8_3, beq_self_eq_true, Bool.and_self, Bool.and_true, Bool.true_and, decide_true, Option.toList_some, Option.toList_none, List.cons_append, List.nil_append, Option.bind_some, if_true, if_false, Nat.reduceLeDiff, Nat.reduceLT, Nat.reduceBEq, Bool.or_false, Bool.false_or, Bool.or_true, Bool.true_or, nI_leI, nI_ltI, nI_eq, nI_clamp, inb_n, up_s, up_n, bx_uu, nI_1, ix6, nI_0n, pk_us, pk_un, ge_0n, h1, h2]
  rfl
theorem cNow_re {I I2 : Mem} {R R2 : MemR} {t n nb st : Nat} {z : Nat → Int32} (h : cNow I R t n nb st) (hn : n ≤ 6) (e1 : ∀ a, t ≤ a → a < t + 19 → I2 a = I a) (e60 : I2 60 = I 60) (e61 : I2 61 = I 61) (e64 : I2 64 = I 64) (e65 : I2 65 = I 65) (e66 : I2 66 = I 66) (e67 : I2 67 = I 67) (e69 : I2 69 = I 69) (hb : cHg I2 62 63 0 n nb) (hs : ∀ i, i < n → I2 68 i = I2 154 i ∧ I2 70 i = I2 156 i) (e153 : I2 153 = I 153) (e155 : I2 155 = I 155) (f : I2 123 70 = I 123 70) (h71 : I2 71 = mesF n (bonF (I 64) (I (t + 3)) (I 61) (I2 63) (I2 62) (I 60 3)) z) (r : R2 60 = R 60) : cNow I2 R2 t n nb st := by
  obtain ⟨c1, c2, c3, c4, c5, c6, c7, c8, c9, c10, c11, c12⟩ := h
  refine ⟨by rw [r]; exact c1, by rw [e60]; exact c2, by rw [e60]; exact c3, by rw [f]; exact c4, c5, ?_, by rw [e60]; exact c7, ?_, hb, ?_, fun i hi => ?_, fun c q hc hq => ?_⟩
  · rw [e60, e1 t (by omega) (by omega)]; exact c6
  · rw [e61, e1 (t + 4) (by omega) (by omega)]; exact c8
  · rw [e64, e65, e66, e1 (t + 9) (by omega) (by omega), e1 (t + 10) (by omega) (by omega), e1 (t + 14) (by omega) (by omega)]; exact c10
  · obtain ⟨d1, d2, d3, d4, d5⟩ := c11 i hi
    rw [e67, e69, e153, e155]
    exact ⟨d1, d2, (hs i hi).1, d4, (hs i hi).2⟩
  · rw [h71, mesF_at hn c q hc hq, e64, e60, e61, e1 (t + 3) (by omega) (by omega)]
theorem hang_p {I : Mem} {J : MemL} {R : MemR} {t t' n nb nm fL lL fG lG st : Nat} (h : cAll I R t t' n nb nm fL lL fG lG st) {x y z : Int32} : chgP MX11_hang MX12_hang [.int x, .int y, .int z] I J R t t' n nb nm fL lL fG lG := by
  have hn6 := h.n6
  have ht := te_hi h.te
  have n1 : ¬ (1 : Int32) = 0 := by decide
  have hb1 := h.txt.1.1
  have hb2 := h.txt.1.2.1
  have hb3 := h.txt.1.2.2
  have le30 : ∀ y : Int32, (¬ y ≤ 30) = (30 < y) := fun y => propext Int32.not_le
  rcases ic_or (x := x) h.n6 with ⟨c, hc, rfl, e⟩ | e
  · by_cases y0 : y < 0
    · refine askP.chg h (askP.mk0 (v := 0) (w := 0) ?_ ?_ rfl)
      · rw [eX11_hang]
        simp (disch := omega) only [xX11_hang_0, xX11_hang_1, xX11_hang_2, xX11_hang_5, xX11_hang_8, xX11_hang_9, xX11_hang_12, xX11_hang_13, xX11_hang_14, xX11_hang_17, xX11_hang_20, xX11_hang_23, xX11_hang_26, xX11_hang_27, xX11_hang_30, xX11_hang_31, xX11_hang_33, xX11_hang_36, xX11_hang_37, xX11_hang_38, xX11_hang_39, xX11_hang_42, xX11_hang_45, xX11_hang_46, xX11_hang_49, xX11_hang_52, xX11_hang_53, xX11_hang_54, xX11_hang_55, xX11_hang_58, xX11_hang_61, xX11_hang_62, xX11_hang_63, xX11_hang_64, xX11_hang_67, xX11_hang_68, xX11_hang_71, xX11_hang_72, xX11_hang_75, xX11_hang_76, xX11_hang_79, xX11_hang_82, xX11_hang_83, xX11_hang_84, xX11_hang_85, xX11_hang_86, xX11_hang_89, xX11_hang_92, xX11_hang_93, xX11_hang_94, xX11_hang_95, xX11_hang_96, xX11_hang_99, xX11_hang_102, xX11_hang_103, xX11_hang_106, xX11_hang_107, kd_0, fi_0_5, kd_60, fi_0_10, kd_105, fi_60_6, kd_62, ln_62, fi_60_7, kd_63, ln_63, kd_0, ↓reduceIte, gd_t, hK_p, hN_p, hF_p, hI_p, hJ_p, hR_p, stI_p, stJ_p, stR_p, stA_p, va_rf_s, va_rf_n, clr_i, clr_l, clr_r, clr_n, clr_o, w8_0, w8_1i, w8_1r, w8_2ii, w8_2ri, w8_2ir, w8_2rr, w8_3, beq_self_eq_true, Bool.and_self, Bool.and_true, Bool.true_and, decide_true, Option.toList_some, Option.toList_none, List.cons_append, List.nil_append, Option.bind_some, if_true, if_false, Nat.reduceLeDiff, Nat.reduceLT, Nat.reduceBEq, Bool.or_false, Bool.false_or, Bool.or_true, Bool.true_or, nI_leI, nI_ltI, nI_eq, nI_clamp, inb_n, up_s, up_n, bx_uu, nI_1, ix6, nI_0n, pk_us, pk_un, ge_0n, icl_c h.te h.r3, h.nc, e, n1, y0, z01]
      · rw [eX12_hang]
        simp (disch := omega) only [xX12_hang_0, xX12_hang_1, xX12_hang_2, xX12_hang_5, xX12_hang_6, xX12_hang_7, xX12_hang_10, xX12_hang_13, xX12_hang_14, xX12_hang_17, xX12_hang_18, xX12_hang_19, xX12_hang_22, xX12_hang_25, xX12_hang_26, xX12_hang_27, xX12_hang_29, xX12_hang_32, xX12_hang_35, xX12_hang_36, xX12_hang_37, xX12_hang_38, xX12_hang_39, xX12_hang_42, xX12_hang_45, xX12_hang_46, xX12_hang_47, xX12_hang_48, xX12_hang_49, xX12_hang_52, xX12_hang_53, xX12_hang_56, xX12_hang_57, xX12_hang_58, xX12_hang_59, xX12_hang_60, xX12_hang_63, xX12_hang_64, xX12_hang_65, xX12_hang_66, xX12_hang_67, kd_123, fi_123_55, kd_151, ln_151, fi_123_56, kd_152, ln_152, kd_123, ↓reduceIte, gd_t, hK_p, hN_p, hF_p, hI_p, hJ_p, hR_p, stI_p, stJ_p, stR_p, stA_p, va_rf_s, va_rf_n, clr_i, clr_l, clr_r, clr_n, clr_o, w8_0, w8_1i, w8_1r, w8_2ii, w8_2ri, w8_2ir, w8_2rr, w8_3, beq_self_eq_true, Bool.and_self, Bool.and_true, Bool.true_and, decide_true, Option.toList_some, Option.toList_none, List.cons_append, List.nil_append, Option.bind_some, if_true, if_false, Nat.reduceLeDiff, Nat.reduceLT, Nat.reduceBEq, Bool.or_false, Bool.false_or, Bool.or_true, Bool.true_or, nI_leI, nI_ltI, nI_eq, nI_clamp, inb_n, up_s, up_n, bx_uu, nI_1, ix6, nI_0n, pk_us, pk_un, ge_0n, icl_m, h.nd, e, n1, y0, z01]
    by_cases y1 : nI nb ≤ y
    · refine askP.chg h (askP.mk0 (v := 0) (w := 0) ?_ ?_ rfl)
      · rw [eX11_hang]
        simp (disch := omega) only [xX11_hang_0, xX11_hang_1, xX11_hang_2, xX11_hang_5, xX11_hang_8, xX11_hang_9, xX11_hang_12, xX11_hang_13, xX11_hang_14, xX11_hang_17, xX11_hang_20, xX11_hang_23, xX11_hang_26, xX11_hang_27, xX11_hang_30, xX11_hang_31, xX11_hang_33, xX11_hang_36, xX11_hang_37, xX11_hang_38, xX11_hang_39, xX11_hang_42, xX11_hang_45, xX11_hang_46, xX11_hang_49, xX11_hang_52, xX11_hang_53, xX11_hang_54, xX11_hang_55, xX11_hang_58, xX11_hang_61, xX11_hang_62, xX11_hang_63, xX11_hang_64, xX11_hang_67, xX11_hang_68, xX11_hang_71, xX11_hang_72, xX11_hang_75, xX11_hang_76, xX11_hang_79, xX11_hang_82, xX11_hang_83, xX11_hang_84, xX11_hang_85, xX11_hang_86, xX11_hang_89, xX11_hang_92, xX11_hang_93, xX11_hang_94, xX11_hang_95, xX11_hang_96, xX11_hang_99, xX11_hang_102, xX11_hang_103, xX11_hang_106, xX11_hang_107, kd_0, fi_0_5, kd_60, fi_0_10, kd_105, fi_60_6, kd_62, ln_62, fi_60_7, kd_63, ln_63, te_k0 h.te, te_f0_0 h.te, te_k1 h.te, te_k5 h.te, te_k15 h.te, kd_0, te_k1 h.te, ↓reduceIte, gd_t, hK_p, hN_p, hF_p, hI_p, hJ_p, hR_p, stI_p, stJ_p, stR_p, stA_p, va_rf_s, va_rf_n, clr_i, clr_l, clr_r, clr_n, clr_o, w8_0, w8_1i, w8_1r, w8_2ii, w8_2ri, w8_2ir, w8_2rr, w8_3, beq_self_eq_true, Bool.and_self, Bool.and_true, Bool.true_and, decide_true, Option.toList_some, Option.toList_none, List.cons_append, List.nil_append, Option.bind_some, if_true, if_false, Nat.reduceLeDiff, Nat.reduceLT, Nat.reduceBEq, Bool.or_false, Bool.false_or, Bool.or_true, Bool.true_or, nI_leI, nI_ltI, nI_eq, nI_clamp, inb_n, up_s, up_n, bx_uu, nI_1, ix6, nI_0n, pk_us, pk_un, ge_0n, h.r3, icl_c h.te h.r3, h.nc, e, n1, y0, hb1, y1, z01]
      · rw [eX12_hang]
        simp (disch := omega) only [xX12_hang_0, xX12_hang_1, xX12_hang_2, xX12_hang_5, xX12_hang_6, xX12_hang_7, xX12_hang_10, xX12_hang_13, xX12_hang_14, xX12_hang_17, xX12_hang_18, xX12_hang_19, xX12_hang_22, xX12_hang_25, xX12_hang_26, xX12_hang_27, xX12_hang_29, xX12_hang_32, xX12_hang_35, xX12_hang_36, xX12_hang_37, xX12_hang_38, xX12_hang_39, xX12_hang_42, xX12_hang_45, xX12_hang_46, xX12_hang_47, xX12_hang_48, xX12_hang_49, xX12_hang_52, xX12_hang_53, xX12_hang_56, xX12_hang_57, xX12_hang_58, xX12_hang_59, xX12_hang_60, xX12_hang_63, xX12_hang_64, xX12_hang_65, xX12_hang_66, xX12_hang_67, kd_123, fi_123_55, kd_151, ln_151, fi_123_56, kd_152, ln_152, kd_123, ↓reduceIte, gd_t, hK_p, hN_p, hF_p, hI_p, hJ_p, hR_p, stI_p, stJ_p, stR_p, stA_p, va_rf_s, va_rf_n, clr_i, clr_l, clr_r, clr_n, clr_o, w8_0, w8_1i, w8_1r, w8_2ii, w8_2ri, w8_2ir, w8_2rr, w8_3, beq_self_eq_true, Bool.and_self, Bool.and_true, Bool.true_and, decide_true, Option.toList_some, Option.toList_none, List.cons_append, List.nil_append, Option.bind_some, if_true, if_false, Nat.reduceLeDiff, Nat.reduceLT, Nat.reduceBEq, Bool.or_false, Bool.false_or, Bool.or_true, Bool.true_or, nI_leI, nI_ltI, nI_eq, nI_clamp, inb_n, up_s, up_n, bx_uu, nI_1, ix6, nI_0n, pk_us, pk_un, ge_0n, icl_m, h.nd, e, n1, y0, hb2, y1, z01]
    obtain ⟨b, hb, rfl⟩ := nI_of y0
    have hbn : b < nb := by
      rcases Nat.lt_or_ge b nb with w | w
      · exact w
      · exact absurd (nI_le w hb) y1
    have y1' : ¬ nb ≤ b := by omega
    by_cases z0 : z < 0
    · have hi : bi (¬ z < 0 ∧ ¬ (30 : Int32) < z) = 0 := if_neg (fun q => q.1 z0)
      refine askP.chg h (askP.mk0 (v := 0) (w := 0) ?_ ?_ rfl)
      · rw [eX11_hang]
        simp (disch := omega) only [xX11_hang_0, xX11_hang_1, xX11_hang_2, xX11_hang_5, xX11_hang_8, xX11_hang_9, xX11_hang_12, xX11_hang_13, xX11_hang_14, xX11_hang_17, xX11_hang_20, xX11_hang_23, xX11_hang_26, xX11_hang_27, xX11_hang_30, xX11_hang_31, xX11_hang_33, xX11_hang_36, xX11_hang_37, xX11_hang_38, xX11_hang_39, xX11_hang_42, xX11_hang_45, xX11_hang_46, xX11_hang_49, xX11_hang_52, xX11_hang_53, xX11_hang_54, xX11_hang_55, xX11_hang_58, xX11_hang_61, xX11_hang_62, xX11_hang_63, xX11_hang_64, xX11_hang_67, xX11_hang_68, xX11_hang_71, xX11_hang_72, xX11_hang_75, xX11_hang_76, xX11_hang_79, xX11_hang_82, xX11_hang_83, xX11_hang_84, xX11_hang_85, xX11_hang_86, xX11_hang_89, xX11_hang_92, xX11_hang_93, xX11_hang_94, xX11_hang_95, xX11_hang_96, xX11_hang_99, xX11_hang_102, xX11_hang_103, xX11_hang_106, xX11_hang_107, kd_0, fi_0_5, kd_60, fi_0_10, kd_105, fi_60_6, kd_62, ln_62, fi_60_7, kd_63, ln_63, te_k0 h.te, te_f0_0 h.te, te_k1 h.te, te_k5 h.te, te_k15 h.te, kd_0, te_k1 h.te, ↓reduceIte, gd_t, hK_p, hN_p, hF_p, hI_p, hJ_p, hR_p, stI_p, stJ_p, stR_p, stA_p, va_rf_s, va_rf_n, clr_i, clr_l, clr_r, clr_n, clr_o, w8_0, w8_1i, w8_1r, w8_2ii, w8_2ri, w8_2ir, w8_2rr, w8_3, beq_self_eq_true, Bool.and_self, Bool.and_true, Bool.true_and, decide_true, Option.toList_some, Option.toList_none, List.cons_append, List.nil_append, Option.bind_some, if_true, if_false, Nat.reduceLeDiff, Nat.reduceLT, Nat.reduceBEq, Bool.or_false, Bool.false_or, Bool.or_true, Bool.true_or, nI_leI, nI_ltI, nI_eq, nI_clamp, inb_n, up_s, up_n, bx_uu, nI_1, ix6, nI_0n, pk_us, pk_un, ge_0n, h.r3, icl_c h.te h.r3, h.nc, e, n1, hb1, y1', z0, z01]
      · rw [eX12_hang]
        simp (disch := omega) only [xX12_hang_0, xX12_hang_1, xX12_hang_2, xX12_hang_5, xX12_hang_6, xX12_hang_7, xX12_hang_10, xX12_hang_13, xX12_hang_14, xX12_hang_17, xX12_hang_18, xX12_hang_19, xX12_hang_22, xX12_hang_25, xX12_hang_26, xX12_hang_27, xX12_hang_29, xX12_hang_32, xX12_hang_35, xX12_hang_36, xX12_hang_37, xX12_hang_38, xX12_hang_39, xX12_hang_42, xX12_hang_45, xX12_hang_46, xX12_hang_47, xX12_hang_48, xX12_hang_49, xX12_hang_52, xX12_hang_53, xX12_hang_56, xX12_hang_57, xX12_hang_58, xX12_hang_59, xX12_hang_60, xX12_hang_63, xX12_hang_64, xX12_hang_65, xX12_hang_66, xX12_hang_67, kd_123, fi_123_55, kd_151, ln_151, fi_123_56, kd_152, ln_152, kd_123, ↓reduceIte, gd_t, hK_p, hN_p, hF_p, hI_p, hJ_p, hR_p, stI_p, stJ_p, stR_p, stA_p, va_rf_s, va_rf_n, clr_i, clr_l, clr_r, clr_n, clr_o, w8_0, w8_1i, w8_1r, w8_2ii, w8_2ri, w8_2ir, w8_2rr, w8_3, beq_self_eq_true, Bool.and_self, Bool.and_true, Bool.true_and, decide_true, Option.toList_some, Option.toList_none, List.cons_append, List.nil_append, Option.bind_some, if_true, if_false, Nat.reduceLeDiff, Nat.reduceLT, Nat.reduceBEq, Bool.or_false, Bool.false_or, Bool.or_true, Bool.true_or, nI_leI, nI_ltI, nI_eq, nI_clamp, inb_n, up_s, up_n, bx_uu, nI_1, ix6, nI_0n, pk_us, pk_un, ge_0n, icl_m, h.nd, e, n1, hb2, y1', isI_spec, hi, z01]
    by_cases z1 : z ≤ 30
    · obtain ⟨p, hp, rfl⟩ := nI_of2 (M := 30) (n := 30) (by decide) z0 z1
      have z1' : ¬ (30 : Int32) < nI p := Int32.not_lt.mpr z1
      have hin : ∀ h : Hp, C 10 MX12_isIn [.int (nI p), .int 0, .int 30] h = some (some (.int 1), h) := fun h => by rw [isI_spec (d := 9), bi, if_pos ⟨z0, z1'⟩]
      obtain ⟨c1, c2, c3, c4, c5, c6, c7, c8, ⟨c9, c9'⟩, c10, c11, c12⟩ := h.now
      have htk := tak_c (d := 9) (a := 62) (b := 63) (fr := 0) (x := nI b) (y := nI p) (I := I) (J := J) (R := R) kd_62 kd_63 ln_62 ln_63 (by omega) (by omega) (by omega) (by omega)
      rw [nI_0] at htk
      have hhu := hun_m (d := 9) (at1 := 0) (n := n) (x := nI b) (y := nI p) (I := I) (J := J) (R := R) (by omega) h.nd hn6
      rw [nI_0] at hhu
      have hsame : (srF (fun i (_ : Unit) => tkP (fun i => I 62 (0 + i)) (fun i => I 63 (0 + i)) (nI b) (nI p) i) (fun _ s => s) 6 0 ()).1 = none ↔ (srF (fun i (_ : Unit) => tkP (fun i => I 151 (0 + i)) (fun i => I 152 (0 + i)) (nI b) (nI p) i) (fun _ s => s) n 0 ()).1 = none := by
        rw [sr_none, sr_none]
        constructor
        · intro q j h1 h2
          have := q j h1 (by omega)
          obtain ⟨a1, -, a3, -⟩ := c9 j (by omega)
          unfold tkP at this ⊢
          simp only [Nat.zero_add] at this a1 a3 ⊢
          rw [← a1, ← a3]
          exact this
        · intro q j h1 h2
          by_cases hj : j < n
          · have := q j h1 (by omega)
            obtain ⟨a1, -, a3, -⟩ := c9 j hj
            unfold tkP at this ⊢
            simp only [Nat.zero_add] at this a1 a3 ⊢
            rw [a1, a3]
            exact this
          · have := c9' j (by omega) (by omega)
            unfold tkP
            simp only [Nat.zero_add, this]
            have hne : ¬ (-1 : Int32) = nI b := fun w => by
              have := nI_pos (n := b) (by omega)
              rw [← w] at this
              exact this (by decide)
            simp [hne]
      by_cases hf : (srF (fun i (_ : Unit) => tkP (fun i => I 62 (0 + i)) (fun i => I 63 (0 + i)) (nI b) (nI p) i) (fun _ s => s) 6 0 ()).1 = none
      · have hf2 := hsame.mp hf
        rw [if_pos hf] at htk
        rw [hf2] at hhu
        obtain ⟨en, r, r', he, hC, hM, hr⟩ := note_both h hc
        obtain ⟨s1, s2, s3, s4, s5⟩ := c11 c hc
        obtain ⟨b1, b2, b3, b4⟩ := c9 c hc
        rw [Nat.zero_add] at b1 b3
        have od : ∀ a, a ≠ 106 → a ≠ 105 → hndM I r en c a = I a := fun a h1 h2 => by unfold hndM; simp (disch := omega) only [up_n]
        generalize hI1 : va_up (va_up (hndM I r en c) 62 (upd (I 62) c (nI b))) 63 (upd (I 63) c (nI p)) = K1
        have k62 : K1 62 = upd (I 62) c (nI b) := by rw [← hI1, up_n (by decide), up_s]
        have k63 : K1 63 = upd (I 63) c (nI p) := by rw [← hI1, up_s]
        have k105 : K1 105 = upd (I 105) 1 (nI (en + 1)) := by rw [← hI1]; unfold hndM; simp (disch := omega) only [up_n, up_s]
        have k106 : K1 106 = rowF r en (nI c) (I 62 c) (I 63 c) (I 68 c) (I 70 c) := by rw [← hI1]; unfold hndM; simp (disch := omega) only [up_n, up_s]
        have ko : ∀ a, a ≠ 62 → a ≠ 63 → a ≠ 105 → a ≠ 106 → K1 a = I a := fun a h1 h2 h3 h4 => by rw [← hI1, up_n h2, up_n h1, od a h4 h3]
        have hmes := mes_spec (d := 7) (m := 60) (n := n) (I := K1) (J := J) (R := R) (Or.inl rfl) h.te c1 (by rw [ko _ (by decide) (by decide) (by decide) (by decide)]; exact c2) hn6
        simp only [Nat.reduceAdd] at hmes
        generalize hI2 : va_up K1 71 (mesF n (bonF (K1 64) (K1 (t + 3)) (K1 61) (K1 63) (K1 62) (K1 60 3)) (K1 71)) = K2 at hmes
        have l71 : K2 71 = mesF n (bonF (I 64) (I (t + 3)) (I 61) (K1 63) (K1 62) (I 60 3)) (K1 71) := by
          rw [← hI2, up_s, ko 64 (by decide) (by decide) (by decide) (by decide), ko (t + 3) (by omega) (by omega) (by omega) (by omega), ko 61 (by decide) (by decide) (by decide) (by decide), ko 60 (by decide) (by decide) (by decide) (by decide)]
        have lo : ∀ a, a ≠ 71 → K2 a = K1 a := fun a h1 => by rw [← hI2, up_n h1]
        refine ⟨1, ffM K2, J, R, va_up (va_up (hnmM (va_up (ffM K2) 123 (upd (I 123) 2 0)) r' en c) 151 (upd (I 151) c (nI b))) 152 (upd (I 152) c (nI p)), J, st, ?_, ?_, ?_, ?_⟩
        · rw [eX11_hang]
          simp (disch := omega) only [xX11_hang_0, xX11_hang_1, xX11_hang_2, xX11_hang_5, xX11_hang_8, xX11_hang_9, xX11_hang_12, xX11_hang_13, xX11_hang_14, xX11_hang_17, xX11_hang_20, xX11_hang_23, xX11_hang_26, xX11_hang_27, xX11_hang_30, xX11_hang_31, xX11_hang_33, xX11_hang_36, xX11_hang_37, xX11_hang_38, xX11_hang_39, xX11_hang_42, xX11_hang_45, xX11_hang_46, xX11_hang_49, xX11_hang_52, xX11_hang_53, xX11_hang_54, xX11_hang_55, xX11_hang_58, xX11_hang_61, xX11_hang_62, xX11_hang_63, xX11_hang_64, xX11_hang_67, xX11_hang_68, xX11_hang_71, xX11_hang_72, xX11_hang_75, xX11_hang_76, xX11_hang_79, xX11_hang_82, xX11_hang_83, xX11_hang_84, xX11_hang_85, xX11_hang_86, xX11_hang_89, xX11_hang_92, xX11_hang_93, xX11_hang_94, xX11_hang_95, xX11_hang_96, xX11_hang_99, xX11_hang_102, xX11_hang_103, xX11_hang_106, xX11_hang_107, kd_0, fi_0_5, kd_60, fi_0_10, kd_105, fi_60_6, kd_62, ln_62, fi_60_7, kd_63, ln_63, te_k0 h.te, te_f0_0 h.te, te_k1 h.te, te_k5 h.te, te_k15 h.te, kd_0, kd_105, te_k1 h.te, ↓reduceIte, gd_t, hK_p, hN_p, hF_p, hI_p, hJ_p, hR_p, stI_p, stJ_p, stR_p, stA_p, va_rf_s, va_rf_n, clr_i, clr_l, clr_r, clr_n, clr_o, w8_0, w8_1i, w8_1r, w8_2ii, w8_2ri, w8_2ir, w8_2rr, w8_3, beq_self_eq_true, Bool.and_self, Bool.and_true, Bool.true_and, decide_true, Option.toList_some, Option.toList_none, List.cons_append, List.nil_append, Option.bind_some, if_true, if_false, Nat.reduceLeDiff, Nat.reduceLT, Nat.reduceBEq, Bool.or_false, Bool.false_or, Bool.or_true, Bool.true_or, nI_leI, nI_ltI, nI_eq, nI_clamp, inb_n, up_s, up_n, bx_uu, nI_1, ix6, nI_0n, pk_us, pk_un, ge_0n, h.r3, icl_c h.te h.r3, h.nc, e, n1, hb1, y1', z1, htk, w8_4, hC 9, od, hI1, hmes, ff_c, z11]
        · have fo : ∀ a, a ≠ 112 → a ≠ 117 → ffM K2 a = K2 a := fun a h1 h2 => by unfold ffM; simp (disch := omega) only [up_n]
          have ho : ∀ (X : Mem) a, a ≠ 162 → a ≠ 123 → hnmM X r' en c a = X a := fun X a h1 h2 => by unfold hnmM; simp (disch := omega) only [up_n]
          have hh2 := hun_m (d := 9) (at1 := 0) (n := n) (x := nI b) (y := nI p) (I := va_up (ffM K2) 123 (upd (I 123) 2 0)) (J := J) (R := R) (by omega) (by rw [up_s, pk_un (by decide)]; exact h.nd) hn6
          rw [up_n (by decide), up_n (by decide), fo _ (by decide) (by decide), fo _ (by decide) (by decide), lo _ (by decide), lo _ (by decide), ko _ (by decide) (by decide) (by decide) (by decide), ko _ (by decide) (by decide) (by decide) (by decide), hf2, nI_0] at hh2
          have hm2 := hM 9 (va_up (ffM K2) 123 (upd (I 123) 2 0)) J R (by rw [up_s, pk_un (by decide)]) (by simp (disch := omega) only [up_n, fo, lo, ko])
          have an0 : an none (-1) < 0 := by decide
          rw [eX12_hang]
          simp (disch := omega) only [xX12_hang_0, xX12_hang_1, xX12_hang_2, xX12_hang_5, xX12_hang_6, xX12_hang_7, xX12_hang_10, xX12_hang_13, xX12_hang_14, xX12_hang_17, xX12_hang_18, xX12_hang_19, xX12_hang_22, xX12_hang_25, xX12_hang_26, xX12_hang_27, xX12_hang_29, xX12_hang_32, xX12_hang_35, xX12_hang_36, xX12_hang_37, xX12_hang_38, xX12_hang_39, xX12_hang_42, xX12_hang_45, xX12_hang_46, xX12_hang_47, xX12_hang_48, xX12_hang_49, xX12_hang_52, xX12_hang_53, xX12_hang_56, xX12_hang_57, xX12_hang_58, xX12_hang_59, xX12_hang_60, xX12_hang_63, xX12_hang_64, xX12_hang_65, xX12_hang_66, xX12_hang_67, kd_123, fi_123_55, kd_151, ln_151, fi_123_56, kd_152, ln_152, kd_123, ↓reduceIte, gd_t, hK_p, hN_p, hF_p, hI_p, hJ_p, hR_p, stI_p, stJ_p, stR_p, stA_p, va_rf_s, va_rf_n, clr_i, clr_l, clr_r, clr_n, clr_o, w8_0, w8_1i, w8_1r, w8_2ii, w8_2ri, w8_2ir, w8_2rr, w8_3, beq_self_eq_true, Bool.and_self, Bool.and_true, Bool.true_and, decide_true, Option.toList_some, Option.toList_none, List.cons_append, List.nil_append, Option.bind_some, if_true, if_false, Nat.reduceLeDiff, Nat.reduceLT, Nat.reduceBEq, Bool.or_false, Bool.false_or, Bool.or_true, Bool.true_or, nI_leI, nI_ltI, nI_eq, nI_clamp, inb_n, up_s, up_n, bx_uu, nI_1, ix6, nI_0n, pk_us, pk_un, ge_0n, fo, lo, ko, ho, icl_m, h.nd, e, n1, hb2, y1', hin, hh2, an0, hm2, z11]
        · have o : ∀ a, a ≠ 62 → a ≠ 63 → a ≠ 71 → a ≠ 105 → a ≠ 106 → a ≠ 112 → a ≠ 117 → a ≠ 123 → a ≠ 151 → a ≠ 152 → a ≠ 162 → va_up (va_up (hnmM (va_up (ffM K2) 123 (upd (I 123) 2 0)) r' en c) 151 (upd (I 151) c (nI b))) 152 (upd (I 152) c (nI p)) a = I a := by
            intro a h1 h2 h3 h4 h5 h6 h7 h8 h9 h10 h11
            unfold hnmM ffM
            simp (disch := omega) only [up_n, lo, ko]
          have f : ∀ k, k ≠ 2 → k ≠ 73 → va_up (va_up (hnmM (va_up (ffM K2) 123 (upd (I 123) 2 0)) r' en c) 151 (upd (I 151) c (nI b))) 152 (upd (I 152) c (nI p)) 123 k = I 123 k := by
            intro k h1 h2
            unfold hnmM
            simp (disch := omega) only [up_n, up_s, pk_un]
          have e62 : va_up (va_up (hnmM (va_up (ffM K2) 123 (upd (I 123) 2 0)) r' en c) 151 (upd (I 151) c (nI b))) 152 (upd (I 152) c (nI p)) 62 = upd (I 62) c (nI b) := by
            unfold hnmM ffM
            simp (disch := omega) only [up_n, lo, k62]
          have e63 : va_up (va_up (hnmM (va_up (ffM K2) 123 (upd (I 123) 2 0)) r' en c) 151 (upd (I 151) c (nI b))) 152 (upd (I 152) c (nI p)) 63 = upd (I 63) c (nI p) := by
            unfold hnmM ffM
            simp (disch := omega) only [up_n, lo, k63]
          have e71 : va_up (va_up (hnmM (va_up (ffM K2) 123 (upd (I 123) 2 0)) r' en c) 151 (upd (I 151) c (nI b))) 152 (upd (I 152) c (nI p)) 71 = mesF n (bonF (I 64) (I (t + 3)) (I 61) (K1 63) (K1 62) (I 60 3)) (K1 71) := by
            unfold hnmM ffM
            simp (disch := omega) only [up_n, l71]
          have e151 : va_up (va_up (hnmM (va_up (ffM K2) 123 (upd (I 123) 2 0)) r' en c) 151 (upd (I 151) c (nI b))) 152 (upd (I 152) c (nI p)) 151 = upd (I 151) c (nI b) := by
            rw [up_n (by decide), up_s]
          have e152 : va_up (va_up (hnmM (va_up (ffM K2) 123 (upd (I 123) 2 0)) r' en c) 151 (upd (I 151) c (nI b))) 152 (upd (I 152) c (nI p)) 152 = upd (I 152) c (nI p) := up_s _ _ _
          refine cAll_fr h (fun a q => o a (by omega) (by omega) (by omega) (by omega) (by omega) (by omega) (by omega) (by omega) (by omega) (by omega) (by omega)) (fun k q => f k (by omega) (by omega)) ?_ ?_ (cHea_fr h.hea (fun a h1 h2 => o a (by omega) (by omega) (by omega) (by omega) (by omega) (by omega) (by omega) (by omega) (by omega) (by omega) (by omega)) (o _ (by omega) (by omega) (by omega) (by omega) (by omega) (by omega) (by omega) (by omega) (by omega) (by omega) (by omega)) (f _ (by omega) (by omega)) (f _ (by omega) (by omega))) rfl rfl
          · refine cNow_re (z := K1 71) h.now hn6 (fun a h1 h2 => o a (by omega) (by omega) (by omega) (by omega) (by omega) (by omega) (by omega) (by omega) (by omega) (by omega) (by omega)) (by simp (disch := omega) only [o]) (by simp (disch := omega) only [o]) (by simp (disch := omega) only [o]) (by simp (disch := omega) only [o]) (by simp (disch := omega) only [o]) (by simp (disch := omega) only [o]) (by simp (disch := omega) only [o]) ⟨fun i hi => ?_, fun i h1 h2 => ?_⟩ (fun i hi => ?_) (by simp (disch := omega) only [o]) (by simp (disch := omega) only [o]) (f _ (by omega) (by omega)) ?_ rfl
            · rw [e62, e63, e151, e152, Nat.zero_add]
              by_cases hic : i = c
              · subst hic
                simp only [pk_us]
                exact ⟨trivial, ⟨b, hbn, rfl⟩, trivial, ⟨p, by omega, hp, rfl⟩⟩
              · have := c9 i hi
                rw [Nat.zero_add] at this
                simp only [pk_un hic]
                exact this
            · rw [e62, pk_un (by omega)]
              exact c9' i h1 h2
            · simp (disch := omega) only [o]
              exact ⟨(c11 i hi).2.2.1, (c11 i hi).2.2.2.2⟩
            · rw [e71, e62, e63, k62, k63]
          · refine hnd_note (I := I) (e := en) (c := c) (r := r) (r' := r') he hc ?_ ?_ ?_ ?_ b2 b4 b1 b3 s3 s5 hr
            · unfold hnmM ffM
              simp (disch := omega) only [up_n, lo, k105, pk_us]
            · unfold hnmM
              simp (disch := omega) only [up_n, up_s, pk_us]
            · unfold hnmM ffM
              simp (disch := omega) only [up_n, lo, k106]
            · unfold hnmM ffM
              simp (disch := omega) only [up_n, up_s, lo, ko]
        · refine Or.inl ⟨?_, ?_⟩
          · unfold hnmM ffM
            simp (disch := omega) only [up_n, up_s, pk_us]
          · unfold hnmM ffM
            simp (disch := omega) only [up_n, up_s, pk_us]
      · have hf2 : ¬ (srF (fun i (_ : Unit) => tkP (fun i => I 151 (0 + i)) (fun i => I 152 (0 + i)) (nI b) (nI p) i) (fun _ s => s) n 0 ()).1 = none := fun q => hf (hsame.mpr q)
        rw [if_neg hf] at htk
        obtain ⟨j, hj⟩ := Option.ne_none_iff_exists'.mp hf2
        have hjl := srF_lt hj
        have hhu := hun_m (d := 9) (at1 := 0) (n := n) (x := nI b) (y := nI p) (I := va_up I 123 (upd (I 123) 2 0)) (J := J) (R := R) (by omega) (by rw [up_s, pk_un (by decide)]; exact h.nd) hn6
        rw [up_n (by decide), up_n (by decide), hj, nI_0] at hhu
        have an0 : ¬ an (some j) (-1) < 0 := nI_pos (by omega)
        refine askP.chg h (askP.mk0 (v := 0) (w := 0) ?_ ?_ rfl)
        · rw [eX11_hang]
          simp (disch := omega) only [xX11_hang_0, xX11_hang_1, xX11_hang_2, xX11_hang_5, xX11_hang_8, xX11_hang_9, xX11_hang_12, xX11_hang_13, xX11_hang_14, xX11_hang_17, xX11_hang_20, xX11_hang_23, xX11_hang_26, xX11_hang_27, xX11_hang_30, xX11_hang_31, xX11_hang_33, xX11_hang_36, xX11_hang_37, xX11_hang_38, xX11_hang_39, xX11_hang_42, xX11_hang_45, xX11_hang_46, xX11_hang_49, xX11_hang_52, xX11_hang_53, xX11_hang_54, xX11_hang_55, xX11_hang_58, xX11_hang_61, xX11_hang_62, xX11_hang_63, xX11_hang_64, xX11_hang_67, xX11_hang_68, xX11_hang_71, xX11_hang_72, xX11_hang_75, xX11_hang_76, xX11_hang_79, xX11_hang_82, xX11_hang_83, xX11_hang_84, xX11_hang_85, xX11_hang_86, xX11_hang_89, xX11_hang_92, xX11_hang_93, xX11_hang_94, xX11_hang_95, xX11_hang_96, xX11_hang_99, xX11_hang_102, xX11_hang_103, xX11_hang_106, xX11_hang_107, kd_0, fi_0_5, kd_60, fi_0_10, kd_105, fi_60_6, kd_62, ln_62, fi_60_7, kd_63, ln_63, te_k0 h.te, te_f0_0 h.te, te_k1 h.te, te_k5 h.te, te_k15 h.te, kd_0, te_k1 h.te, ↓reduceIte, gd_t, hK_p, hN_p, hF_p, hI_p, hJ_p, hR_p, stI_p, stJ_p, stR_p, stA_p, va_rf_s, va_rf_n, clr_i, clr_l, clr_r, clr_n, clr_o, w8_0, w8_1i, w8_1r, w8_2ii, w8_2ri, w8_2ir, w8_2rr, w8_3, beq_self_eq_true, Bool.and_self, Bool.and_true, Bool.true_and, decide_true, Option.toList_some, Option.toList_none, List.cons_append, List.nil_append, Option.bind_some, if_true, if_false, Nat.reduceLeDiff, Nat.reduceLT, Nat.reduceBEq, Bool.or_false, Bool.false_or, Bool.or_true, Bool.true_or, nI_leI, nI_ltI, nI_eq, nI_clamp, inb_n, up_s, up_n, bx_uu, nI_1, ix6, nI_0n, pk_us, pk_un, ge_0n, h.r3, icl_c h.te h.r3, h.nc, e, n1, hb1, y1', z1, htk, w8_4, z01]
        · rw [eX12_hang]
          simp (disch := omega) only [xX12_hang_0, xX12_hang_1, xX12_hang_2, xX12_hang_5, xX12_hang_6, xX12_hang_7, xX12_hang_10, xX12_hang_13, xX12_hang_14, xX12_hang_17, xX12_hang_18, xX12_hang_19, xX12_hang_22, xX12_hang_25, xX12_hang_26, xX12_hang_27, xX12_hang_29, xX12_hang_32, xX12_hang_35, xX12_hang_36, xX12_hang_37, xX12_hang_38, xX12_hang_39, xX12_hang_42, xX12_hang_45, xX12_hang_46, xX12_hang_47, xX12_hang_48, xX12_hang_49, xX12_hang_52, xX12_hang_53, xX12_hang_56, xX12_hang_57, xX12_hang_58, xX12_hang_59, xX12_hang_60, xX12_hang_63, xX12_hang_64, xX12_hang_65, xX12_hang_66, xX12_hang_67, kd_123, fi_123_55, kd_151, ln_151, fi_123_56, kd_152, ln_152, kd_123, ↓reduceIte, gd_t, hK_p, hN_p, hF_p, hI_p, hJ_p, hR_p, stI_p, stJ_p, stR_p, stA_p, va_rf_s, va_rf_n, clr_i, clr_l, clr_r, clr_n, clr_o, w8_0, w8_1i, w8_1r, w8_2ii, w8_2ri, w8_2ir, w8_2rr, w8_3, beq_self_eq_true, Bool.and_self, Bool.and_true, Bool.true_and, decide_true, Option.toList_some, Option.toList_none, List.cons_append, List.nil_append, Option.bind_some, if_true, if_false, Nat.reduceLeDiff, Nat.reduceLT, Nat.reduceBEq, Bool.or_false, Bool.false_or, Bool.or_true, Bool.true_or, nI_leI, nI_ltI, nI_eq, nI_clamp, inb_n, up_s, up_n, bx_uu, nI_1, ix6, nI_0n, pk_us, pk_un, ge_0n, icl_m, h.nd, e, n1, hb2, y1', hin, hhu, an0, z01]
    · have hi : bi (¬ z < 0 ∧ ¬ (30 : Int32) < z) = 0 := if_neg (fun q => z1 (Int32.not_lt.mp q.2))
      refine askP.chg h (askP.mk0 (v := 0) (w := 0) ?_ ?_ rfl)
      · rw [eX11_hang]
        simp (disch := omega) only [xX11_hang_0, xX11_hang_1, xX11_hang_2, xX11_hang_5, xX11_hang_8, xX11_hang_9, xX11_hang_12, xX11_hang_13, xX11_hang_14, xX11_hang_17, xX11_hang_20, xX11_hang_23, xX11_hang_26, xX11_hang_27, xX11_hang_30, xX11_hang_31, xX11_hang_33, xX11_hang_36, xX11_hang_37, xX11_hang_38, xX11_hang_39, xX11_hang_42, xX11_hang_45, xX11_hang_46, xX11_hang_49, xX11_hang_52, xX11_hang_53, xX11_hang_54, xX11_hang_55, xX11_hang_58, xX11_hang_61, xX11_hang_62, xX11_hang_63, xX11_hang_64, xX11_hang_67, xX11_hang_68, xX11_hang_71, xX11_hang_72, xX11_hang_75, xX11_hang_76, xX11_hang_79, xX11_hang_82, xX11_hang_83, xX11_hang_84, xX11_hang_85, xX11_hang_86, xX11_hang_89, xX11_hang_92, xX11_hang_93, xX11_hang_94, xX11_hang_95, xX11_hang_96, xX11_hang_99, xX11_hang_102, xX11_hang_103, xX11_hang_106, xX11_hang_107, kd_0, fi_0_5, kd_60, fi_0_10, kd_105, fi_60_6, kd_62, ln_62, fi_60_7, kd_63, ln_63, te_k0 h.te, te_f0_0 h.te, te_k1 h.te, te_k5 h.te, te_k15 h.te, kd_0, te_k1 h.te, ↓reduceIte, gd_t, hK_p, hN_p, hF_p, hI_p, hJ_p, hR_p, stI_p, stJ_p, stR_p, stA_p, va_rf_s, va_rf_n, clr_i, clr_l, clr_r, clr_n, clr_o, w8_0, w8_1i, w8_1r, w8_2ii, w8_2ri, w8_2ir, w8_2rr, w8_3, beq_self_eq_true, Bool.and_self, Bool.and_true, Bool.true_and, decide_true, Option.toList_some, Option.toList_none, List.cons_append, List.nil_append, Option.bind_some, if_true, if_false, Nat.reduceLeDiff, Nat.reduceLT, Nat.reduceBEq, Bool.or_false, Bool.false_or, Bool.or_true, Bool.true_or, nI_leI, nI_ltI, nI_eq, nI_clamp, inb_n, up_s, up_n, bx_uu, nI_1, ix6, nI_0n, pk_us, pk_un, ge_0n, h.r3, icl_c h.te h.r3, h.nc, e, n1, hb1, y1', z0, z1, z01]
      · rw [eX12_hang]
        simp (disch := omega) only [xX12_hang_0, xX12_hang_1, xX12_hang_2, xX12_hang_5, xX12_hang_6, xX12_hang_7, xX12_hang_10, xX12_hang_13, xX12_hang_14, xX12_hang_17, xX12_hang_18, xX12_hang_19, xX12_hang_22, xX12_hang_25, xX12_hang_26, xX12_hang_27, xX12_hang_29, xX12_hang_32, xX12_hang_35, xX12_hang_36, xX12_hang_37, xX12_hang_38, xX12_hang_39, xX12_hang_42, xX12_hang_45, xX12_hang_46, xX12_hang_47, xX12_hang_48, xX12_hang_49, xX12_hang_52, xX12_hang_53, xX12_hang_56, xX12_hang_57, xX12_hang_58, xX12_hang_59, xX12_hang_60, xX12_hang_63, xX12_hang_64, xX12_hang_65, xX12_hang_66, xX12_hang_67, kd_123, fi_123_55, kd_151, ln_151, fi_123_56, kd_152, ln_152, kd_123, ↓reduceIte, gd_t, hK_p, hN_p, hF_p, hI_p, hJ_p, hR_p, stI_p, stJ_p, stR_p, stA_p, va_rf_s, va_rf_n, clr_i, clr_l, clr_r, clr_n, clr_o, w8_0, w8_1i, w8_1r, w8_2ii, w8_2ri, w8_2ir, w8_2rr, w8_3, beq_self_eq_true, Bool.and_self, Bool.and_true, Bool.true_and, decide_true, Option.toList_some, Option.toList_none, List.cons_append, List.nil_append, Option.bind_some, if_true, if_false, Nat.reduceLeDiff, Nat.reduceLT, Nat.reduceBEq, Bool.or_false, Bool.false_or, Bool.or_true, Bool.true_or, nI_leI, nI_ltI, nI_eq, nI_clamp, inb_n, up_s, up_n, bx_uu, nI_1, ix6, nI_0n, pk_us, pk_un, ge_0n, icl_m, h.nd, e, n1, hb2, y1', isI_spec, hi, z01]
  · refine askP.chg h (askP.mk0 (v := 0) (w := 0) ?_ ?_ rfl)
    · rw [eX11_hang]
      simp (disch := omega) only [xX11_hang_0, xX11_hang_1, xX11_hang_2, xX11_hang_5, xX11_hang_8, xX11_hang_9, xX11_hang_12, xX11_hang_13, xX11_hang_14, xX11_hang_17, xX11_hang_20, xX11_hang_23, xX11_hang_26, xX11_hang_27, xX11_hang_30, xX11_hang_31, xX11_hang_33, xX11_hang_36, xX11_hang_37, xX11_hang_38, xX11_hang_39, xX11_hang_42, xX11_hang_45, xX11_hang_46, xX11_hang_49, xX11_hang_52, xX11_hang_53, xX11_hang_54, xX11_hang_55, xX11_hang_58, xX11_hang_61, xX11_hang_62, xX11_hang_63, xX11_hang_64, xX11_hang_67, xX11_hang_68, xX11_hang_71, xX11_hang_72, xX11_hang_75, xX11_hang_76, xX11_hang_79, xX11_hang_82, xX11_hang_83, xX11_hang_84, xX11_hang_85, xX11_hang_86, xX11_hang_89, xX11_hang_92, xX11_hang_93, xX11_hang_94, xX11_hang_95, xX11_hang_96, xX11_hang_99, xX11_hang_102, xX11_hang_103, xX11_hang_106, xX11_hang_107, kd_0, fi_0_5, kd_60, fi_0_10, kd_105, fi_60_6, kd_62, ln_62, fi_60_7, kd_63, ln_63, kd_0, ↓reduceIte, gd_t, hK_p, hN_p, hF_p, hI_p, hJ_p, hR_p, stI_p, stJ_p, stR_p, stA_p, va_rf_s, va_rf_n, clr_i, clr_l, clr_r, clr_n, clr_o, w8_0, w8_1i, w8_1r, w8_2ii, w8_2ri, w8_2ir, w8_2rr, w8_3, beq_self_eq_true, Bool.and_self, Bool.and_true, Bool.true_and, decide_true, Option.toList_some, Option.toList_none, List.cons_append, List.nil_append, Option.bind_some, if_true, if_false, Nat.reduceLeDiff, Nat.reduceLT, Nat.reduceBEq, Bool.or_false, Bool.false_or, Bool.or_true, Bool.true_or, nI_leI, nI_ltI, nI_eq, nI_clamp, inb_n, up_s, up_n, bx_uu, nI_1, ix6, nI_0n, pk_us, pk_un, ge_0n, icl_c h.te h.r3, h.nc, e, z01]
    · rw [eX12_hang]
      simp (disch := omega) only [xX12_hang_0, xX12_hang_1, xX12_hang_2, xX12_hang_5, xX12_hang_6, xX12_hang_7, xX12_hang_10, xX12_hang_13, xX12_hang_14, xX12_hang_17, xX12_hang_18, xX12_hang_19, xX12_hang_22, xX12_hang_25, xX12_hang_26, xX12_hang_27, xX12_hang_29, xX12_hang_32, xX12_hang_35, xX12_hang_36, xX12_hang_37, xX12_hang_38, xX12_hang_39, xX12_hang_42, xX12_hang_45, xX12_hang_46, xX12_hang_47, xX12_hang_48, xX12_hang_49, xX12_hang_52, xX12_hang_53, xX12_hang_56, xX12_hang_57, xX12_hang_58, xX12_hang_59, xX12_hang_60, xX12_hang_63, xX12_hang_64, xX12_hang_65, xX12_hang_66, xX12_hang_67, kd_123, fi_123_55, kd_151, ln_151, fi_123_56, kd_152, ln_152, kd_123, ↓reduceIte, gd_t, hK_p, hN_p, hF_p, hI_p, hJ_p, hR_p, stI_p, stJ_p, stR_p, stA_p, va_rf_s, va_rf_n, clr_i, clr_l, clr_r, clr_n, clr_o, w8_0, w8_1i, w8_1r, w8_2ii, w8_2ri, w8_2ir, w8_2rr, w8_3, beq_self_eq_true, Bool.and_self, Bool.and_true, Bool.true_and, decide_true, Option.toList_some, Option.toList_none, List.cons_append, List.nil_append, Option.bind_some, if_true, if_false, Nat.reduceLeDiff, Nat.reduceLT, Nat.reduceBEq, Bool.or_false, Bool.false_or, Bool.or_true, Bool.true_or, nI_leI, nI_ltI, nI_eq, nI_clamp, inb_n, up_s, up_n, bx_uu, nI_1, ix6, nI_0n, pk_us, pk_un, ge_0n, icl_m, h.nd, e, z01]

-- LEAST, 4: find
def lonF (I : Mem) (t lL lG n nb N k : Nat) (bits : Int32) : Option (Nat × Nat) := sT (fun c => sT (fun to => if ok1 I t lL lG n N k bits c to = true then some (c, to) else none) (nb * 10) 0) n 0
def ltwF (I : Mem) (t lL lG n nb N k : Nat) (bits : Int32) : Option (Nat × Nat × Nat × Nat) := sT (fun a => sT (fun to => sT (fun b => sT (ok2C I t lL lG n N k bits a to b) (nb * 10) 0) (n - (a + 1)) (a + 1)) (nb * 10) 0) n 0
/-- what is answered, by what is asked; none: not by two -/
def leR (I : Mem) (t lL lG n nb N k : Nat) (bits : Int32) : Option (Nat → Int32) := if ¬ kK I t lL lG n N k bits (I 62) (I 63) = 0 then some (fun w => if w = 0 then 0 else -1) else match lonF I t lL lG n nb N k bits with
  | some r => some (fun w => if w = 0 then 1 else if w = 1 then nI r.1 else if w = 2 then nI (r.2 / 10) else if w = 3 then nI (r.2 % 10) else -1)
  | none => match ltwF I t lL lG n nb N k bits with
    | some r => some (fun w => if w = 0 then 2 else if w = 1 then nI r.1 else if w = 2 then nI (r.2.1 / 10) else if w = 3 then nI (r.2.1 % 10) else if w = 4 then nI r.2.2.1 else if w = 5 then nI (r.2.2.2 / 10) else nI (r.2.2.2 % 10))
    | none => none
def lsM (X : Mem) (o : Option (Nat → Int32)) : Prop := match o with
  | none => X 112 6 = -2
  | some f => X 112 6 = f 0 ∧ ¬ f 0 = -2 ∧ ∀ j, j < 6 → X 116 j = f (j + 1)
/-- what LEAST keeps -/
def cLst (I : Mem) (t lL lG n nb : Nat) : Prop := I 112 7 = 0 ∨ (I 112 7 = 1 ∧ ∃ N k, N ≤ 60 ∧ k ≤ 99 ∧ I 112 9 = nI N ∧ I 112 10 = nI k ∧ lsM I (leR I t lL lG n nb N k (I 112 8)))
section LED
variable {I X : Mem} {J : MemL} {R R' : MemR} {t t' n nb nm fL lL fG lG st : Nat}
theorem spo_c {d : Nat} (h : cAll I R t t' n nb nm fL lL fG lG st) (kx : tkL I X) (hr : R' 112 1 = some 60) (rq : rk R R') : C (d + 1) MX3_spots [.ref 112] (hp X J R') = some (some (.int (nI (nb * 10))), hp X J R') := by
  have ht2 := te_hi h.te
  have hR60 : R' 60 0 = some t := by rw [rq 60 (by decide)]; exact h.now.1
  have hb : X (t + 1) 1 = nI nb := by rw [kx _ (Or.inl ⟨by unfold kpA; omega, by omega, by omega⟩)]; exact h.txt.1.1
  have e10 : nI nb * 10 = nI (nb * 10) := pk_mul nb 10
  rw [eX3_spots]
  simp (disch := omega) only [xX3_spots_0, xX3_spots_1, xX3_spots_4, xX3_spots_7, xX3_spots_10, xX3_spots_13, xX3_spots_15, xX3_spots_16, kd_112, kd_60, te_k0 h.te, te_f0_0 h.te, te_k1 h.te, te_k5 h.te, te_k15 h.te, te_k1 h.te, ↓reduceIte, gd_t, hK_p, hN_p, hF_p, hI_p, hJ_p, hR_p, stI_p, stJ_p, stR_p, stA_p, va_rf_s, va_rf_n, clr_i, clr_l, clr_r, clr_n, clr_o, w8_0, w8_1i, w8_1r, w8_2ii, w8_2ri, w8_2ir, w8_2rr, w8_3, beq_self_eq_true, Bool.and_self, Bool.and_true, Bool.true_and, decide_true, Option.toList_some, Option.toList_none, List.cons_append, List.nil_append, Option.bind_some, if_true, if_false, Nat.reduceLeDiff, Nat.reduceLT, Nat.reduceBEq, Bool.or_false, Bool.false_or, Bool.or_true, Bool.true_or, hr, hR60, hb, e10]
theorem lfin_c {d N k : Nat} {bits : Int32} (h : cAll I R t t' n nb nm fL lL fG lG st) (hc : cLst I t lL lG n nb) (hN : N ≤ 60) (hk : k ≤ 99) : ∃ X1 J1 R1, C (d + 8) MX3_find [.ref 112, .ref 60, .int bits, .int (nI N), .int (nI k)] (hp I J R) = some (none, hp X1 J1 R1) ∧ rk R R1 ∧ tkL I X1 ∧ X1 112 7 = 1 ∧ X1 112 8 = bits ∧ X1 112 9 = nI N ∧ X1 112 10 = nI k ∧ lsM X1 (leR I t lL lG n nb N k bits) := by
  have hn6 := h.n6
  have hb3 := h.txt.1.2.2
  have n1 : ¬ (1 : Int32) = 0 := by decide
  by_cases hit : I 112 7 = 1 ∧ I 112 8 = bits ∧ I 112 9 = nI N ∧ I 112 10 = nI k
  · obtain ⟨h7, h8, h9, h10⟩ := hit
    rcases hc with h0 | ⟨_, N', k', b1, b2, b3, b4, b5⟩
    · rw [h0] at h7; exact absurd h7 (by decide)
    · obtain rfl : N' = N := (nI_eq (by omega) (by omega)).mp (b3.symm.trans h9)
      obtain rfl : k' = k := (nI_eq (by omega) (by omega)).mp (b4.symm.trans h10)
      rw [h8] at b5
      refine ⟨I, J, R, ?_, rk.rf, fun _ _ => rfl, h7, h8, h9, h10, b5⟩
      rw [eX3_find]
      simp (disch := omega) only [xX3_find_0, xX3_find_1, xX3_find_4, xX3_find_7, xX3_find_8, xX3_find_11, xX3_find_12, xX3_find_15, xX3_find_16, xX3_find_19, xX3_find_20, xX3_find_23, xX3_find_24, xX3_find_27, xX3_find_29, xX3_find_32, kd_112, fi_112_5, kd_116, ln_116, ↓reduceIte, gd_t, hK_p, hN_p, hF_p, hI_p, hJ_p, hR_p, stI_p, stJ_p, stR_p, stA_p, va_rf_s, va_rf_n, clr_i, clr_l, clr_r, clr_n, clr_o, w8_0, w8_1i, w8_1r, w8_2ii, w8_2ri, w8_2ir, w8_2rr, w8_3, beq_self_eq_true, Bool.and_self, Bool.and_true, Bool.true_and, decide_true, Option.toList_some, Option.toList_none, List.cons_append, List.nil_append, Option.bind_some, if_true, if_false, Nat.reduceLeDiff, Nat.reduceLT, Nat.reduceBEq, Bool.or_false, Bool.false_or, Bool.or_true, Bool.true_or, h7, h8, h9, h10, n1, not_true_eq_false]
  · have hmiss : E (C (d + 7)) MX3_find 0 [some (.ref 112), some (.ref 60), some (.int bits), some (.int (nI N)), some (.int (nI k)), none] [] (hp I J R) = E (C (d + 7)) MX3_find 33 [some (.ref 112), some (.ref 60), some (.int bits), some (.int (nI N)), some (.int (nI k)), none] [] (hp I J R) := by
      by_cases a1 : I 112 7 = 0
      · simp (disch := omega) only [xX3_find_0, xX3_find_1, xX3_find_4, xX3_find_7, xX3_find_8, xX3_find_11, xX3_find_12, xX3_find_15, xX3_find_16, xX3_find_19, xX3_find_20, xX3_find_23, xX3_find_24, xX3_find_27, xX3_find_29, xX3_find_32, kd_112, fi_112_5, kd_116, ln_116, ↓reduceIte, gd_t, hK_p, hN_p, hF_p, hI_p, hJ_p, hR_p, stI_p, stJ_p, stR_p, stA_p, va_rf_s, va_rf_n, clr_i, clr_l, clr_r, clr_n, clr_o, w8_0, w8_1i, w8_1r, w8_2ii, w8_2ri, w8_2ir, w8_2rr, w8_3, beq_self_eq_true, Bool.and_self, Bool.and_true, Bool.true_and, decide_true, Option.toList_some, Option.toList_none, List.cons_append, List.nil_append, Option.bind_some, if_true, if_false, Nat.reduceLeDiff, Nat.reduceLT, Nat.reduceBEq, Bool.or_false, Bool.false_or, Bool.or_true, Bool.true_or, a1]
      · have a1' : I 112 7 = 1 := by
          rcases hc with h0 | ⟨h0, -⟩
          · exact absurd h0 a1
          · exact h0
        by_cases a2 : I 112 8 = bits
        · by_cases a3 : I 112 9 = nI N
          · by_cases a4 : I 112 10 = nI k
            · exact absurd ⟨a1', a2, a3, a4⟩ hit
            · simp (disch := omega) only [xX3_find_0, xX3_find_1, xX3_find_4, xX3_find_7, xX3_find_8, xX3_find_11, xX3_find_12, xX3_find_15, xX3_find_16, xX3_find_19, xX3_find_20, xX3_find_23, xX3_find_24, xX3_find_27, xX3_find_29, xX3_find_32, kd_112, fi_112_5, kd_116, ln_116, ↓reduceIte, gd_t, hK_p, hN_p, hF_p, hI_p, hJ_p, hR_p, stI_p, stJ_p, stR_p, stA_p, va_rf_s, va_rf_n, clr_i, clr_l, clr_r, clr_n, clr_o, w8_0, w8_1i, w8_1r, w8_2ii, w8_2ri, w8_2ir, w8_2rr, w8_3, beq_self_eq_true, Bool.and_self, Bool.and_true, Bool.true_and, decide_true, Option.toList_some, Option.toList_none, List.cons_append, List.nil_append, Option.bind_some, if_true, if_false, Nat.reduceLeDiff, Nat.reduceLT, Nat.reduceBEq, Bool.or_false, Bool.false_or, Bool.or_true, Bool.true_or, a1, a2, a3, a4, not_true_eq_false, not_false_eq_true]
          · simp (disch := omega) only [xX3_find_0, xX3_find_1, xX3_find_4, xX3_find_7, xX3_find_8, xX3_find_11, xX3_find_12, xX3_find_15, xX3_find_16, xX3_find_19, xX3_find_20, xX3_find_23, xX3_find_24, xX3_find_27, xX3_find_29, xX3_find_32, kd_112, fi_112_5, kd_116, ln_116, ↓reduceIte, gd_t, hK_p, hN_p, hF_p, hI_p, hJ_p, hR_p, stI_p, stJ_p, stR_p, stA_p, va_rf_s, va_rf_n, clr_i, clr_l, clr_r, clr_n, clr_o, w8_0, w8_1i, w8_1r, w8_2ii, w8_2ri, w8_2ir, w8_2rr, w8_3, beq_self_eq_true, Bool.and_self, Bool.and_true, Bool.true_and, decide_true, Option.toList_some, Option.toList_none, List.cons_append, List.nil_append, Option.bind_some, if_true, if_false, Nat.reduceLeDiff, Nat.reduceLT, Nat.reduceBEq, Bool.or_false, Bool.false_or, Bool.or_true, Bool.true_or, a1, a2, a3, not_true_eq_false, not_false_eq_true]
        · simp (disch := omega) only [xX3_find_0, xX3_find_1, xX3_find_4, xX3_find_7, xX3_find_8, xX3_find_11, xX3_find_12, xX3_find_15, xX3_find_16, xX3_find_19, xX3_find_20, xX3_find_23, xX3_find_24, xX3_find_27, xX3_find_29, xX3_find_32, kd_112, fi_112_5, kd_116, ln_116, ↓reduceIte, gd_t, hK_p, hN_p, hF_p, hI_p, hJ_p, hR_p, stI_p, stJ_p, stR_p, stA_p, va_rf_s, va_rf_n, clr_i, clr_l, clr_r, clr_n, clr_o, w8_0, w8_1i, w8_1r, w8_2ii, w8_2ri, w8_2ir, w8_2rr, w8_3, beq_self_eq_true, Bool.and_self, Bool.and_true, Bool.true_and, decide_true, Option.toList_some, Option.toList_none, List.cons_append, List.nil_append, Option.bind_some, if_true, if_false, Nat.reduceLeDiff, Nat.reduceLT, Nat.reduceBEq, Bool.or_false, Bool.false_or, Bool.or_true, Bool.true_or, a1, a2, not_false_eq_true]
    generalize hO : upd (upd (upd (upd (I 112) 7 1) 8 bits) 9 (nI N)) 10 (nI k) = O
    generalize hR1 : va_up R 112 (va_up (R 112) 1 (some 60)) = R1
    have hr1 : R1 112 1 = some 60 := by rw [← hR1, up_s, up_s]
    have r1 : rk R R1 := fun a ha => by rw [← hR1, up_n (by omega)]
    have hl := for_0 (P := fun i (r : Nat → Int32) => E (C (d + 7)) MX3_find 62 [some (.ref 112), some (.ref 60), some (.int bits), some (.int (nI N)), some (.int (nI k)), some (.int (nI i))] [] (hp (va_up (va_up I 112 O) 116 r) J R1)) (fin := fun r => E (C (d + 7)) MX3_find 83 [some (.ref 112), some (.ref 60), some (.int bits), some (.int (nI N)), some (.int (nI k)), some (.int (nI 6))] [] (hp (va_up (va_up I 112 O) 116 r) J R1)) (f := fun i r => upd r i (-1)) (n := 6) (s := I 116) (by
      intro i r hi
      have c0 : ¬ (6 : Int32) ≤ nI i := fun w => absurd ((nI_leI (a := 6) (by omega) (by omega)).mp w) (by omega)
      rw [xX3_find_62]
      simp (disch := omega) only [xX3_find_64, xX3_find_66, xX3_find_69, xX3_find_70, xX3_find_73, xX3_find_75, xX3_find_76, xX3_find_77, xX3_find_80, kd_112, fi_112_5, kd_116, ln_116, ↓reduceIte, gd_t, hK_p, hN_p, hF_p, hI_p, hJ_p, hR_p, stI_p, stJ_p, stR_p, stA_p, va_rf_s, va_rf_n, clr_i, clr_l, clr_r, clr_n, clr_o, w8_0, w8_1i, w8_1r, w8_2ii, w8_2ri, w8_2ir, w8_2rr, w8_3, beq_self_eq_true, Bool.and_self, Bool.and_true, Bool.true_and, decide_true, Option.toList_some, Option.toList_none, List.cons_append, List.nil_append, Option.bind_some, if_true, if_false, Nat.reduceLeDiff, Nat.reduceLT, Nat.reduceBEq, Bool.or_false, Bool.false_or, Bool.or_true, Bool.true_or, nI_leI, nI_ltI, nI_eq, nI_clamp, inb_n, up_s, up_n, bx_uu, nI_1, ix6, nI_0n, pk_us, pk_un, ge_0n, c0]) (by
      intro r
      have c0 : (6 : Int32) ≤ nI 6 := by decide
      rw [xX3_find_62]
      simp (disch := omega) only [xX3_find_64, xX3_find_66, xX3_find_69, xX3_find_70, xX3_find_73, xX3_find_75, xX3_find_76, xX3_find_77, xX3_find_80, kd_112, fi_112_5, kd_116, ln_116, ↓reduceIte, gd_t, hK_p, hN_p, hF_p, hI_p, hJ_p, hR_p, stI_p, stJ_p, stR_p, stA_p, va_rf_s, va_rf_n, clr_i, clr_l, clr_r, clr_n, clr_o, w8_0, w8_1i, w8_1r, w8_2ii, w8_2ri, w8_2ir, w8_2rr, w8_3, beq_self_eq_true, Bool.and_self, Bool.and_true, Bool.true_and, decide_true, Option.toList_some, Option.toList_none, List.cons_append, List.nil_append, Option.bind_some, if_true, if_false, Nat.reduceLeDiff, Nat.reduceLT, Nat.reduceBEq, Bool.or_false, Bool.false_or, Bool.or_true, Bool.true_or, nI_leI, nI_ltI, nI_eq, nI_clamp, inb_n, up_s, up_n, bx_uu, nI_1, ix6, nI_0n, pk_us, pk_un, ge_0n, c0])
    have e116 : va_up (va_up I 112 O) 116 (I 116) = va_up I 112 O := by
      have : I 116 = va_up I 112 O 116 := (up_n (by decide)).symm
      rw [this, up_self]
    rw [itf_cp (v := fun _ => -1), nI_0, e116] at hl
    generalize hY : va_up (va_up I 112 O) 116 (cpF (fun _ => -1) (I 116) 6) = Y at *
    have y112 : Y 112 = O := by rw [← hY, up_n (by decide), up_s]
    have y116 : ∀ j, j < 6 → Y 116 j = -1 := fun j hj => by rw [← hY, up_s, cpF_at hj]
    have ky : tkL I Y := fun a ha => by rw [← hY, up_n (by omega), up_n (by omega)]
    have hhead : E (C (d + 7)) MX3_find 33 [some (.ref 112), some (.ref 60), some (.int bits), some (.int (nI N)), some (.int (nI k)), none] [] (hp I J R) = E (C (d + 7)) MX3_find 83 [some (.ref 112), some (.ref 60), some (.int bits), some (.int (nI N)), some (.int (nI k)), some (.int (nI 6))] [] (hp Y J R1) := by
      rw [← hl]
      simp (disch := omega) only [xX3_find_33, xX3_find_34, xX3_find_35, xX3_find_38, xX3_find_39, xX3_find_40, xX3_find_43, xX3_find_44, xX3_find_45, xX3_find_48, xX3_find_49, xX3_find_50, xX3_find_53, xX3_find_54, xX3_find_56, xX3_find_59, xX3_find_60, kd_112, fi_112_5, kd_116, ln_116, ↓reduceIte, gd_t, hK_p, hN_p, hF_p, hI_p, hJ_p, hR_p, stI_p, stJ_p, stR_p, stA_p, va_rf_s, va_rf_n, clr_i, clr_l, clr_r, clr_n, clr_o, w8_0, w8_1i, w8_1r, w8_2ii, w8_2ri, w8_2ir, w8_2rr, w8_3, beq_self_eq_true, Bool.and_self, Bool.and_true, Bool.true_and, decide_true, Option.toList_some, Option.toList_none, List.cons_append, List.nil_append, Option.bind_some, if_true, if_false, Nat.reduceLeDiff, Nat.reduceLT, Nat.reduceBEq, Bool.or_false, Bool.false_or, Bool.or_true, Bool.true_or, z11, up_s, bx_uu, hO, hR1]
    have f7 : Y 112 7 = 1 := by rw [y112, ← hO]; simp (disch := omega) only [pk_un, pk_us]
    have f8 : Y 112 8 = bits := by rw [y112, ← hO]; simp (disch := omega) only [pk_un, pk_us]
    have f9 : Y 112 9 = nI N := by rw [y112, ← hO]; simp (disch := omega) only [pk_un, pk_us]
    have f10 : Y 112 10 = nI k := by rw [y112, ← hO]; simp (disch := omega) only [pk_us]
    -- hear
    obtain ⟨X1, J1, R2, e1, o1, r2, w1⟩ := her_c (d := d + 1) h hN n 0 Y J R1 (by omega) ky f8 f9 hr1 r1 (fun i hi => absurd hi (by omega))
    rw [nI_0] at e1
    have eh : C (d + 7) MX3_hear [.ref 112] (hp Y J R1) = some (none, hp X1 J1 R2) := by
      rw [eX3_hear]
      simp only [xX3_hear_0, xX3_hear_1, ↓reduceIte, gd_t, hK_p, hN_p, hF_p, hI_p, hJ_p, hR_p, stI_p, stJ_p, stR_p, stA_p, va_rf_s, va_rf_n, clr_i, clr_l, clr_r, clr_n, clr_o, w8_0, w8_1i, w8_1r, w8_2ii, w8_2ri, w8_2ir, w8_2rr, w8_3, beq_self_eq_true, Bool.and_self, Bool.and_true, Bool.true_and, decide_true, Option.toList_some, Option.toList_none, List.cons_append, List.nil_append, Option.bind_some, if_true, if_false, Nat.reduceLeDiff, Nat.reduceLT, Nat.reduceBEq, Bool.or_false, Bool.false_or, Bool.or_true, Bool.true_or]
      exact e1
    have l1 : lI I R t lL lG n N k bits X1 R2 := ⟨fun a ha => by rw [o1 a (by unfold kpA at ha; omega) (by unfold kpA at ha; omega)]; exact ky a ha, by rw [o1 112 (by omega) (by omega)]; exact f7, by rw [o1 112 (by omega) (by omega)]; exact f8, by rw [o1 112 (by omega) (by omega)]; exact f9, by rw [o1 112 (by omega) (by omega)]; exact f10, by rw [r2 112 (by decide)]; exact hr1, fun a ha => by rw [r2 a (by omega)]; exact r1 a ha, w1⟩
    have x116 : ∀ j, j < 6 → X1 116 j = -1 := fun j hj => by rw [o1 116 (by omega) (by omega)]; exact y116 j hj
    -- putBack
    have eB := ptb_c (d := d + 6) (X := X1) (J := J1) l1.2.2.2.2.2.1
    obtain ⟨_, x62, x63⟩ := mvd_X (c := 0) (to := 0) l1
    rw [x62, x63] at eB
    generalize hX2 : va_up (va_up X1 113 (cpF (I 62) (X1 113) 6)) 114 (cpF (I 63) (X1 114) 6) = X2 at eB
    have o2 : ∀ a, a ≠ 113 → a ≠ 114 → X2 a = X1 a := fun a h1 h2 => by rw [← hX2, up_n h2, up_n h1]
    have l2 : lI I R t lL lG n N k bits X2 R2 := lI_o l1 (fun a _ h1 h2 _ => o2 a h1 h2) (fun _ _ => rfl)
    obtain ⟨-, X3, J3, R3, eK, o3, r3⟩ := fk_c (d := d + 2) (J := J1) h l2 hN (B := I 62) (Pl := I 63) (by rw [← hX2, up_n (by decide), up_s]; exact cp_eq hn6) (by rw [← hX2, up_s]; exact cp_eq hn6)
    have l3 : lI I R t lL lG n N k bits X3 R3 := lI_o l2 (fun a h1 _ _ _ => o3 a h1) r3
    have z116 : ∀ j, j < 6 → X3 116 j = -1 := fun j hj => by rw [o3 116 (by omega), o2 116 (by decide) (by decide)]; exact x116 j hj
    -- what is left is to write down how many
    have fin : ∀ (X : Mem) (J : MemL) (R' : MemR) (v : Int32) (o : Option (Nat → Int32)), lI I R t lL lG n N k bits X R' → lsM (va_up X 112 (upd (X 112) 6 v)) o → rk R R' ∧ tkL I (va_up X 112 (upd (X 112) 6 v)) ∧ va_up X 112 (upd (X 112) 6 v) 112 7 = 1 ∧ va_up X 112 (upd (X 112) 6 v) 112 8 = bits ∧ va_up X 112 (upd (X 112) 6 v) 112 9 = nI N ∧ va_up X 112 (upd (X 112) 6 v) 112 10 = nI k ∧ lsM (va_up X 112 (upd (X 112) 6 v)) o := by
      intro X J R' v o l hs
      refine ⟨l.2.2.2.2.2.2.1, fun a ha => by rw [up_n (by omega)]; exact l.1 a ha, ?_, ?_, ?_, ?_, hs⟩
      · rw [up_s, pk_un (by decide)]; exact l.2.1
      · rw [up_s, pk_un (by decide)]; exact l.2.2.1
      · rw [up_s, pk_un (by decide)]; exact l.2.2.2.1
      · rw [up_s, pk_un (by decide)]; exact l.2.2.2.2.1
    unfold leR
    by_cases zk : kK I t lL lG n N k bits (I 62) (I 63) = 0
    · rw [if_neg (fun q => q zk)]
      obtain ⟨X4, J4, R4, l4, h4, e4⟩ := mo1_o (d := d + 1) (k := k) (bits := bits) (S := nb * 10) h hN (by omega) n 0 X3 J3 R3 (by omega) l3
      rw [Nat.zero_mul, nI_0] at e4
      have es3 := spo_c (d := d + 5) (J := J3) h l3.1 l3.2.2.2.2.2.1 l3.2.2.2.2.2.2.1
      have hone : lonF I t lL lG n nb N k bits = sT (fun c => sT (fun to => if ok1 I t lL lG n N k bits c to = true then some (c, to) else none) (nb * 10) 0) n 0 := rfl
      rw [← hone] at e4
      cases ho : lonF I t lL lG n nb N k bits with
      | some r =>
        rw [ho] at e4
        dsimp only at e4 ⊢
        obtain ⟨e4, m4⟩ := e4
        have em : C (d + 7) MX3_moveOne [.ref 112] (hp X3 J3 R3) = some (some (.int 1), hp X4 J4 R4) := by
          rw [eX3_moveOne]
          simp (disch := omega) only [xX3_moveOne_0, xX3_moveOne_1, xX3_moveOne_4, xX3_moveOne_5, xX3_moveOne_6, hK_p, kd_112, ↓reduceIte, gd_t, hK_p, hN_p, hF_p, hI_p, hJ_p, hR_p, stI_p, stJ_p, stR_p, stA_p, va_rf_s, va_rf_n, clr_i, clr_l, clr_r, clr_n, clr_o, w8_0, w8_1i, w8_1r, w8_2ii, w8_2ri, w8_2ir, w8_2rr, w8_3, beq_self_eq_true, Bool.and_self, Bool.and_true, Bool.true_and, decide_true, Option.toList_some, Option.toList_none, List.cons_append, List.nil_append, Option.bind_some, if_true, if_false, Nat.reduceLeDiff, Nat.reduceLT, Nat.reduceBEq, Bool.or_false, Bool.false_or, Bool.or_true, Bool.true_or, es3]
          exact e4
        obtain ⟨q1, q2⟩ := fin X4 J4 R4 1 _ l4 (show lsM _ (some (fun w => if w = 0 then 1 else if w = 1 then nI r.1 else if w = 2 then nI (r.2 / 10) else if w = 3 then nI (r.2 % 10) else -1)) from ⟨by rw [up_s, pk_us]; rfl, (show ¬ (1 : Int32) = -2 by decide), fun j hj => by
          rw [up_n (by decide)]
          rcases (show j = 0 ∨ j = 1 ∨ j = 2 ∨ 3 ≤ j by omega) with rfl | rfl | rfl | h3
          · exact m4.1
          · exact m4.2.1
          · exact m4.2.2
          · dsimp only
            rw [h4 j h3, z116 j hj, if_neg (by omega), if_neg (by omega), if_neg (by omega), if_neg (by omega)]⟩)
        refine ⟨_, J4, R4, ?_, q1, q2⟩
        rw [eX3_find, hmiss, hhead]
        simp (disch := omega) only [xX3_find_83, xX3_find_84, xX3_find_87, xX3_find_88, xX3_find_91, xX3_find_92, xX3_find_95, xX3_find_98, xX3_find_99, xX3_find_100, xX3_find_103, xX3_find_106, xX3_find_107, xX3_find_110, xX3_find_113, xX3_find_114, xX3_find_115, xX3_find_118, xX3_find_121, xX3_find_122, xX3_find_123, xX3_find_126, xX3_find_129, xX3_find_130, xX3_find_133, xX3_find_135, xX3_find_138, kd_112, fi_112_5, kd_116, ln_116, kd_112, ↓reduceIte, gd_t, hK_p, hN_p, hF_p, hI_p, hJ_p, hR_p, stI_p, stJ_p, stR_p, stA_p, va_rf_s, va_rf_n, clr_i, clr_l, clr_r, clr_n, clr_o, w8_0, w8_1i, w8_1r, w8_2ii, w8_2ri, w8_2ir, w8_2rr, w8_3, beq_self_eq_true, Bool.and_self, Bool.and_true, Bool.true_and, decide_true, Option.toList_some, Option.toList_none, List.cons_append, List.nil_append, Option.bind_some, if_true, if_false, Nat.reduceLeDiff, Nat.reduceLT, Nat.reduceBEq, Bool.or_false, Bool.false_or, Bool.or_true, Bool.true_or, eh, eB, eK, zk, em, n1]
      | none =>
        rw [ho] at e4
        dsimp only at e4 ⊢
        have em : C (d + 7) MX3_moveOne [.ref 112] (hp X3 J3 R3) = some (some (.int 0), hp X4 J4 R4) := by
          rw [eX3_moveOne]
          simp (disch := omega) only [xX3_moveOne_0, xX3_moveOne_1, xX3_moveOne_4, xX3_moveOne_5, xX3_moveOne_6, hK_p, kd_112, ↓reduceIte, gd_t, hK_p, hN_p, hF_p, hI_p, hJ_p, hR_p, stI_p, stJ_p, stR_p, stA_p, va_rf_s, va_rf_n, clr_i, clr_l, clr_r, clr_n, clr_o, w8_0, w8_1i, w8_1r, w8_2ii, w8_2ri, w8_2ir, w8_2rr, w8_3, beq_self_eq_true, Bool.and_self, Bool.and_true, Bool.true_and, decide_true, Option.toList_some, Option.toList_none, List.cons_append, List.nil_append, Option.bind_some, if_true, if_false, Nat.reduceLeDiff, Nat.reduceLT, Nat.reduceBEq, Bool.or_false, Bool.false_or, Bool.or_true, Bool.true_or, es3]
          exact e4
        obtain ⟨X5, J5, R5, l5, e5⟩ := mo2_4 (d := d + 1) (k := k) (bits := bits) (S := nb * 10) h hN (by omega) n 0 X4 J4 R4 none none (by omega) l4
        rw [Nat.zero_mul, nI_0] at e5
        have es4 := spo_c (d := d + 5) (J := J4) h l4.1 l4.2.2.2.2.2.1 l4.2.2.2.2.2.2.1
        have htwo : ltwF I t lL lG n nb N k bits = sT (fun a => sT (fun to => sT (fun b => sT (ok2C I t lL lG n N k bits a to b) (nb * 10) 0) (n - (a + 1)) (a + 1)) (nb * 10) 0) n 0 := rfl
        rw [← htwo] at e5
        cases hw : ltwF I t lL lG n nb N k bits with
        | some r =>
          rw [hw] at e5
          dsimp only at e5 ⊢
          obtain ⟨e5, m5⟩ := e5
          have em2 : C (d + 7) MX3_moveTwo [.ref 112] (hp X4 J4 R4) = some (some (.int 1), hp X5 J5 R5) := by
            rw [eX3_moveTwo]
            simp (disch := omega) only [xX3_moveTwo_0, xX3_moveTwo_1, xX3_moveTwo_4, xX3_moveTwo_5, xX3_moveTwo_6, hK_p, kd_112, ↓reduceIte, gd_t, hK_p, hN_p, hF_p, hI_p, hJ_p, hR_p, stI_p, stJ_p, stR_p, stA_p, va_rf_s, va_rf_n, clr_i, clr_l, clr_r, clr_n, clr_o, w8_0, w8_1i, w8_1r, w8_2ii, w8_2ri, w8_2ir, w8_2rr, w8_3, beq_self_eq_true, Bool.and_self, Bool.and_true, Bool.true_and, decide_true, Option.toList_some, Option.toList_none, List.cons_append, List.nil_append, Option.bind_some, if_true, if_false, Nat.reduceLeDiff, Nat.reduceLT, Nat.reduceBEq, Bool.or_false, Bool.false_or, Bool.or_true, Bool.true_or, es4]
            exact e5
          obtain ⟨q1, q2⟩ := fin X5 J5 R5 2 _ l5 (show lsM _ (some (fun w => if w = 0 then 2 else if w = 1 then nI r.1 else if w = 2 then nI (r.2.1 / 10) else if w = 3 then nI (r.2.1 % 10) else if w = 4 then nI r.2.2.1 else if w = 5 then nI (r.2.2.2 / 10) else nI (r.2.2.2 % 10))) from ⟨by rw [up_s, pk_us]; rfl, (show ¬ (2 : Int32) = -2 by decide), fun j hj => by
            rw [up_n (by decide)]
            rcases (show j = 0 ∨ j = 1 ∨ j = 2 ∨ j = 3 ∨ j = 4 ∨ j = 5 by omega) with rfl | rfl | rfl | rfl | rfl | rfl
            · exact m5.1.1
            · exact m5.1.2.1
            · exact m5.1.2.2
            · exact m5.2.1
            · exact m5.2.2.1
            · exact m5.2.2.2⟩)
          refine ⟨_, J5, R5, ?_, q1, q2⟩
          rw [eX3_find, hmiss, hhead]
          simp (disch := omega) only [xX3_find_83, xX3_find_84, xX3_find_87, xX3_find_88, xX3_find_91, xX3_find_92, xX3_find_95, xX3_find_98, xX3_find_99, xX3_find_100, xX3_find_103, xX3_find_106, xX3_find_107, xX3_find_110, xX3_find_113, xX3_find_114, xX3_find_115, xX3_find_118, xX3_find_121, xX3_find_122, xX3_find_123, xX3_find_126, xX3_find_129, xX3_find_130, xX3_find_133, xX3_find_135, xX3_find_138, kd_112, fi_112_5, kd_116, ln_116, kd_112, ↓reduceIte, gd_t, hK_p, hN_p, hF_p, hI_p, hJ_p, hR_p, stI_p, stJ_p, stR_p, stA_p, va_rf_s, va_rf_n, clr_i, clr_l, clr_r, clr_n, clr_o, w8_0, w8_1i, w8_1r, w8_2ii, w8_2ri, w8_2ir, w8_2rr, w8_3, beq_self_eq_true, Bool.and_self, Bool.and_true, Bool.true_and, decide_true, Option.toList_some, Option.toList_none, List.cons_append, List.nil_append, Option.bind_some, if_true, if_false, Nat.reduceLeDiff, Nat.reduceLT, Nat.reduceBEq, Bool.or_false, Bool.false_or, Bool.or_true, Bool.true_or, eh, eB, eK, zk, em, em2, n1]
        | none =>
          rw [hw] at e5
          dsimp only at e5 ⊢
          have em2 : C (d + 7) MX3_moveTwo [.ref 112] (hp X4 J4 R4) = some (some (.int 0), hp X5 J5 R5) := by
            rw [eX3_moveTwo]
            simp (disch := omega) only [xX3_moveTwo_0, xX3_moveTwo_1, xX3_moveTwo_4, xX3_moveTwo_5, xX3_moveTwo_6, hK_p, kd_112, ↓reduceIte, gd_t, hK_p, hN_p, hF_p, hI_p, hJ_p, hR_p, stI_p, stJ_p, stR_p, stA_p, va_rf_s, va_rf_n, clr_i, clr_l, clr_r, clr_n, clr_o, w8_0, w8_1i, w8_1r, w8_2ii, w8_2ri, w8_2ir, w8_2rr, w8_3, beq_self_eq_true, Bool.and_self, Bool.and_true, Bool.true_and, decide_true, Option.toList_some, Option.toList_none, List.cons_append, List.nil_append, Option.bind_some, if_true, if_false, Nat.reduceLeDiff, Nat.reduceLT, Nat.reduceBEq, Bool.or_false, Bool.false_or, Bool.or_true, Bool.true_or, es4]
            exact e5
          obtain ⟨q1, q2⟩ := fin X5 J5 R5 (-2) _ l5 (show lsM _ none from (by unfold lsM; rw [up_s, pk_us]))
          refine ⟨_, J5, R5, ?_, q1, q2⟩
          rw [eX3_find, hmiss, hhead]
          simp (disch := omega) only [xX3_find_83, xX3_find_84, xX3_find_87, xX3_find_88, xX3_find_91, xX3_find_92, xX3_find_95, xX3_find_98, xX3_find_99, xX3_find_100, xX3_find_103, xX3_find_106, xX3_find_107, xX3_find_110, xX3_find_113, xX3_find_114, xX3_find_115, xX3_find_118, xX3_find_121, xX3_find_122, xX3_find_123, xX3_find_126, xX3_find_129, xX3_find_130, xX3_find_133, xX3_find_135, xX3_find_138, kd_112, fi_112_5, kd_116, ln_116, kd_112, ↓reduceIte, gd_t, hK_p, hN_p, hF_p, hI_p, hJ_p, hR_p, stI_p, stJ_p, stR_p, stA_p, va_rf_s, va_rf_n, clr_i, clr_l, clr_r, clr_n, clr_o, w8_0, w8_1i, w8_1r, w8_2ii, w8_2ri, w8_2ir, w8_2rr, w8_3, beq_self_eq_true, Bool.and_self, Bool.and_true, Bool.true_and, decide_true, Option.toList_some, Option.toList_none, List.cons_append, List.nil_append, Option.bind_some, if_true, if_false, Nat.reduceLeDiff, Nat.reduceLT, Nat.reduceBEq, Bool.or_false, Bool.false_or, Bool.or_true, Bool.true_or, eh, eB, eK, zk, em, em2, n1]
    · rw [if_pos zk]
      obtain ⟨q1, q2⟩ := fin X3 J3 R3 0 _ l3 (show lsM _ (some (fun w => if w = 0 then 0 else -1)) from ⟨by rw [up_s, pk_us]; rfl, by decide, fun j hj => by rw [up_n (by decide)]; exact z116 j hj⟩)
      refine ⟨_, J3, R3, ?_, q1, q2⟩
      rw [eX3_find, hmiss, hhead]
      simp (disch := omega) only [xX3_find_83, xX3_find_84, xX3_find_87, xX3_find_88, xX3_find_91, xX3_find_92, xX3_find_95, xX3_find_98, xX3_find_99, xX3_find_100, xX3_find_103, xX3_find_106, xX3_find_107, xX3_find_110, xX3_find_113, xX3_find_114, xX3_find_115, xX3_find_118, xX3_find_121, xX3_find_122, xX3_find_123, xX3_find_126, xX3_find_129, xX3_find_130, xX3_find_133, xX3_find_135, xX3_find_138, kd_112, fi_112_5, kd_116, ln_116, kd_112, ↓reduceIte, gd_t, hK_p, hN_p, hF_p, hI_p, hJ_p, hR_p, stI_p, stJ_p, stR_p, stA_p, va_rf_s, va_rf_n, clr_i, clr_l, clr_r, clr_n, clr_o, w8_0, w8_1i, w8_1r, w8_2ii, w8_2ri, w8_2ir, w8_2rr, w8_3, beq_self_eq_true, Bool.and_self, Bool.and_true, Bool.true_and, decide_true, Option.toList_some, Option.toList_none, List.cons_append, List.nil_append, Option.bind_some, if_true, if_false, Nat.reduceLeDiff, Nat.reduceLT, Nat.reduceBEq, Bool.or_false, Bool.false_or, Bool.or_true, Bool.true_or, eh, eB, eK, zk]
end LED

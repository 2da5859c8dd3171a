-- FITS, 3: a run for each hanging
def hgB (I : Mem) (t nm m : Nat) : Nat → Int32 := fun i => if m < nm then (if I (t + 17) (m * 6 + i) = -1 then I (t + 7) i else I (t + 17) (m * 6 + i)) else I (t + 7) i
def hgP (I : Mem) (t nm m : Nat) : Nat → Int32 := fun i => if m < nm then (if I (t + 17) (m * 6 + i) = -1 then I (t + 8) i else I (t + 18) (m * 6 + i)) else I (t + 8) i
theorem n24 : nI 24 = 24 := rfl
theorem hgs_c {d t nm m : Nat} {I : Mem} {J : MemL} {R : MemR} (ht : isTe t) (hs : I (t + 15) 1 = nI nm) (h4 : nm ≤ 4) (hm : m ≤ nm) : C (d + 1) MX9_hangings [.ref t, .int (nI m), .ref 120, .ref 121] (hp I J R) = some (none, hp (va_up (va_up I 120 (cpF (hgB I t nm m) (I 120) 6)) 121 (cpF (hgP I t nm m) (I 121) 6)) J R) := by
  have ht2 := te_hi ht
  have n1 : ¬ (1 : Int32) = 0 := by decide
  have hl := for_0 (P := fun i (s : (Nat → Int32) × (Nat → Int32) × Option Value × Option Value) => E (C d) MX9_hangings 3 [some (.ref t), some (.int (nI m)), some (.ref 120), some (.ref 121), some (.int (nI i)), s.2.2.1, s.2.2.2] [] (hp (va_up (va_up I 120 s.1) 121 s.2.1) J R)) (fin := fun s => some (none, hp (va_up (va_up I 120 s.1) 121 s.2.1) J R)) (f := fun i s => (upd s.1 i (hgB I t nm m i), upd s.2.1 i (hgP I t nm m i), some (.int (nI (m * 6 + i))), some (.int (if m < nm then (if I (t + 17) (m * 6 + i) = -1 then 0 else 1) else 0)))) (n := 6) (s := (I 120, I 121, none, none)) (by
    intro i s hi
    have c0 : ¬ (6 : Int32) ≤ nI i := fun q => absurd ((nI_leI (a := 6) (by omega) (by omega)).mp q) (by omega)
    have c1 : ¬ 6 ≤ i := by omega
    have w1 : ∀ (x y : Nat → Int32), va_up (va_up (va_up I 120 s.1) 121 s.2.1) 120 x = va_up (va_up I 120 x) 121 s.2.1 := fun x y => up_31 (by decide)
    rw [xX9_hangings_3]
    unfold hgB hgP
    by_cases z : m < nm
    · have z' : ¬ nm ≤ m := by omega
      have c2 : ¬ 24 ≤ m * 6 + i := by omega
      by_cases y : I (t + 17) (m * 6 + i) = -1
      · simp (disch := omega) only [xX9_hangings_5, xX9_hangings_7, xX9_hangings_10, xX9_hangings_12, xX9_hangings_13, xX9_hangings_14, xX9_hangings_17, xX9_hangings_19, xX9_hangings_20, xX9_hangings_21, xX9_hangings_24, xX9_hangings_25, xX9_hangings_27, xX9_hangings_28, xX9_hangings_30, xX9_hangings_31, xX9_hangings_33, xX9_hangings_34, xX9_hangings_37, xX9_hangings_38, xX9_hangings_39, xX9_hangings_42, xX9_hangings_45, xX9_hangings_48, xX9_hangings_50, xX9_hangings_51, xX9_hangings_54, xX9_hangings_55, xX9_hangings_58, xX9_hangings_59, xX9_hangings_62, xX9_hangings_64, xX9_hangings_65, xX9_hangings_66, xX9_hangings_69, xX9_hangings_70, xX9_hangings_73, xX9_hangings_74, xX9_hangings_76, xX9_hangings_77, xX9_hangings_79, xX9_hangings_81, xX9_hangings_84, xX9_hangings_85, xX9_hangings_88, xX9_hangings_90, xX9_hangings_91, xX9_hangings_94, xX9_hangings_95, xX9_hangings_98, xX9_hangings_100, xX9_hangings_101, xX9_hangings_102, xX9_hangings_103, xX9_hangings_105, xX9_hangings_107, xX9_hangings_110, xX9_hangings_111, xX9_hangings_114, xX9_hangings_116, xX9_hangings_117, xX9_hangings_120, xX9_hangings_121, xX9_hangings_124, xX9_hangings_126, xX9_hangings_127, xX9_hangings_128, xX9_hangings_131, te_k0 ht, te_f0_4 ht, te_k7 ht, te_n7 ht, te_f0_5 ht, te_k8 ht, te_n8 ht, te_f0_13 ht, te_k15 ht, te_f0_14 ht, te_k17 ht, te_n17 ht, te_f0_15 ht, te_k18 ht, te_n18 ht, te_k1 ht, te_k5 ht, te_k17 ht, kd_120, ln_120, kd_121, ln_121, ↓reduceIte, gd_t, hK_p, hN_p, hF_p, hI_p, hJ_p, hR_p, stI_p, stJ_p, stR_p, stA_p, va_rf_s, va_rf_n, clr_i, clr_l, clr_r, clr_n, clr_o, w8_0, w8_1i, w8_1r, w8_2ii, w8_2ri, w8_2ir, w8_2rr, w8_3, beq_self_eq_true, Bool.and_self, Bool.and_true, Bool.true_and, decide_true, Option.toList_some, Option.toList_none, List.cons_append, List.nil_append, Option.bind_some, if_true, if_false, Nat.reduceLeDiff, Nat.reduceLT, Nat.reduceBEq, Bool.or_false, Bool.false_or, Bool.or_true, Bool.true_or, nI_leI, nI_ltI, nI_eq, nI_clamp, inb_n, up_s, up_n, bx_uu, nI_1, ix6, nI_0n, pk_us, pk_un, ge_0n, hs, c0, c1, c2, z, z', y, up_31]
      · simp (disch := omega) only [xX9_hangings_5, xX9_hangings_7, xX9_hangings_10, xX9_hangings_12, xX9_hangings_13, xX9_hangings_14, xX9_hangings_17, xX9_hangings_19, xX9_hangings_20, xX9_hangings_21, xX9_hangings_24, xX9_hangings_25, xX9_hangings_27, xX9_hangings_28, xX9_hangings_30, xX9_hangings_31, xX9_hangings_33, xX9_hangings_34, xX9_hangings_37, xX9_hangings_38, xX9_hangings_39, xX9_hangings_42, xX9_hangings_45, xX9_hangings_48, xX9_hangings_50, xX9_hangings_51, xX9_hangings_54, xX9_hangings_55, xX9_hangings_58, xX9_hangings_59, xX9_hangings_62, xX9_hangings_64, xX9_hangings_65, xX9_hangings_66, xX9_hangings_69, xX9_hangings_70, xX9_hangings_73, xX9_hangings_74, xX9_hangings_76, xX9_hangings_77, xX9_hangings_79, xX9_hangings_81, xX9_hangings_84, xX9_hangings_85, xX9_hangings_88, xX9_hangings_90, xX9_hangings_91, xX9_hangings_94, xX9_hangings_95, xX9_hangings_98, xX9_hangings_100, xX9_hangings_101, xX9_hangings_102, xX9_hangings_103, xX9_hangings_105, xX9_hangings_107, xX9_hangings_110, xX9_hangings_111, xX9_hangings_114, xX9_hangings_116, xX9_hangings_117, xX9_hangings_120, xX9_hangings_121, xX9_hangings_124, xX9_hangings_126, xX9_hangings_127, xX9_hangings_128, xX9_hangings_131, te_k0 ht, te_f0_4 ht, te_k7 ht, te_n7 ht, te_f0_5 ht, te_k8 ht, te_n8 ht, te_f0_13 ht, te_k15 ht, te_f0_14 ht, te_k17 ht, te_n17 ht, te_f0_15 ht, te_k18 ht, te_n18 ht, te_k1 ht, te_k5 ht, te_k17 ht, kd_120, ln_120, kd_121, ln_121, ↓reduceIte, gd_t, hK_p, hN_p, hF_p, hI_p, hJ_p, hR_p, stI_p, stJ_p, stR_p, stA_p, va_rf_s, va_rf_n, clr_i, clr_l, clr_r, clr_n, clr_o, w8_0, w8_1i, w8_1r, w8_2ii, w8_2ri, w8_2ir, w8_2rr, w8_3, beq_self_eq_true, Bool.and_self, Bool.and_true, Bool.true_and, decide_true, Option.toList_some, Option.toList_none, List.cons_append, List.nil_append, Option.bind_some, if_true, if_false, Nat.reduceLeDiff, Nat.reduceLT, Nat.reduceBEq, Bool.or_false, Bool.false_or, Bool.or_true, Bool.true_or, nI_leI, nI_ltI, nI_eq, nI_clamp, inb_n, up_s, up_n, bx_uu, nI_1, ix6, nI_0n, pk_us, pk_un, ge_0n, hs, c0, c1, c2, z, z', y, n1, up_31]
    · have z' : nm ≤ m := by omega
      simp (disch := omega) only [xX9_hangings_5, xX9_hangings_7, xX9_hangings_10, xX9_hangings_12, xX9_hangings_13, xX9_hangings_14, xX9_hangings_17, xX9_hangings_19, xX9_hangings_20, xX9_hangings_21, xX9_hangings_24, xX9_hangings_25, xX9_hangings_27, xX9_hangings_28, xX9_hangings_30, xX9_hangings_31, xX9_hangings_33, xX9_hangings_34, xX9_hangings_37, xX9_hangings_38, xX9_hangings_39, xX9_hangings_42, xX9_hangings_45, xX9_hangings_48, xX9_hangings_50, xX9_hangings_51, xX9_hangings_54, xX9_hangings_55, xX9_hangings_58, xX9_hangings_59, xX9_hangings_62, xX9_hangings_64, xX9_hangings_65, xX9_hangings_66, xX9_hangings_69, xX9_hangings_70, xX9_hangings_73, xX9_hangings_74, xX9_hangings_76, xX9_hangings_77, xX9_hangings_79, xX9_hangings_81, xX9_hangings_84, xX9_hangings_85, xX9_hangings_88, xX9_hangings_90, xX9_hangings_91, xX9_hangings_94, xX9_hangings_95, xX9_hangings_98, xX9_hangings_100, xX9_hangings_101, xX9_hangings_102, xX9_hangings_103, xX9_hangings_105, xX9_hangings_107, xX9_hangings_110, xX9_hangings_111, xX9_hangings_114, xX9_hangings_116, xX9_hangings_117, xX9_hangings_120, xX9_hangings_121, xX9_hangings_124, xX9_hangings_126, xX9_hangings_127, xX9_hangings_128, xX9_hangings_131, te_k0 ht, te_f0_4 ht, te_k7 ht, te_n7 ht, te_f0_5 ht, te_k8 ht, te_n8 ht, te_f0_13 ht, te_k15 ht, te_f0_14 ht, te_k17 ht, te_n17 ht, te_f0_15 ht, te_k18 ht, te_n18 ht, te_k1 ht, te_k5 ht, te_k17 ht, kd_120, ln_120, kd_121, ln_121, ↓reduceIte, gd_t, hK_p, hN_p, hF_p, hI_p, hJ_p, hR_p, stI_p, stJ_p, stR_p, stA_p, va_rf_s, va_rf_n, clr_i, clr_l, clr_r, clr_n, clr_o, w8_0, w8_1i, w8_1r, w8_2ii, w8_2ri, w8_2ir, w8_2rr, w8_3, beq_self_eq_true, Bool.and_self, Bool.and_true, Bool.true_and, decide_true, Option.toList_some, Option.toList_none, List.cons_append, List.nil_append, Option.bind_some, if_true, if_false, Nat.reduceLeDiff, Nat.reduceLT, Nat.reduceBEq, Bool.or_false, Bool.false_or, Bool.or_true, Bool.true_or, nI_leI, nI_ltI, nI_eq, nI_clamp, inb_n, up_s, up_n, bx_uu, nI_1, ix6, nI_0n, pk_us, pk_un, ge_0n, hs, c0, c1, z, z', up_31]) (by
    intro s
    have c0 : (6 : Int32) ≤ nI 6 := by decide
    rw [xX9_hangings_3]
    simp (disch := omega) only [xX9_hangings_5, xX9_hangings_7, xX9_hangings_10, xX9_hangings_12, xX9_hangings_13, xX9_hangings_14, xX9_hangings_17, xX9_hangings_19, xX9_hangings_20, xX9_hangings_21, xX9_hangings_24, xX9_hangings_25, xX9_hangings_27, xX9_hangings_28, xX9_hangings_30, xX9_hangings_31, xX9_hangings_33, xX9_hangings_34, xX9_hangings_37, xX9_hangings_38, xX9_hangings_39, xX9_hangings_42, xX9_hangings_45, xX9_hangings_48, xX9_hangings_50, xX9_hangings_51, xX9_hangings_54, xX9_hangings_55, xX9_hangings_58, xX9_hangings_59, xX9_hangings_62, xX9_hangings_64, xX9_hangings_65, xX9_hangings_66, xX9_hangings_69, xX9_hangings_70, xX9_hangings_73, xX9_hangings_74, xX9_hangings_76, xX9_hangings_77, xX9_hangings_79, xX9_hangings_81, xX9_hangings_84, xX9_hangings_85, xX9_hangings_88, xX9_hangings_90, xX9_hangings_91, xX9_hangings_94, xX9_hangings_95, xX9_hangings_98, xX9_hangings_100, xX9_hangings_101, xX9_hangings_102, xX9_hangings_103, xX9_hangings_105, xX9_hangings_107, xX9_hangings_110, xX9_hangings_111, xX9_hangings_114, xX9_hangings_116, xX9_hangings_117, xX9_hangings_120, xX9_hangings_121, xX9_hangings_124, xX9_hangings_126, xX9_hangings_127, xX9_hangings_128, xX9_hangings_131, xX9_hangings_134, te_k0 ht, te_f0_4 ht, te_k7 ht, te_n7 ht, te_f0_5 ht, te_k8 ht, te_n8 ht, te_f0_13 ht, te_k15 ht, te_f0_14 ht, te_k17 ht, te_n17 ht, te_f0_15 ht, te_k18 ht, te_n18 ht, te_k1 ht, te_k5 ht, ↓reduceIte, gd_t, hK_p, hN_p, hF_p, hI_p, hJ_p, hR_p, stI_p, stJ_p, stR_p, stA_p, va_rf_s, va_rf_n, clr_i, clr_l, clr_r, clr_n, clr_o, w8_0, w8_1i, w8_1r, w8_2ii, w8_2ri, w8_2ir, w8_2rr, w8_3, beq_self_eq_true, Bool.and_self, Bool.and_true, Bool.true_and, decide_true, Option.toList_some, Option.toList_none, List.cons_append, List.nil_append, Option.bind_some, if_true, if_false, Nat.reduceLeDiff, Nat.reduceLT, Nat.reduceBEq, Bool.or_false, Bool.false_or, Bool.or_true, Bool.true_or, nI_leI, nI_ltI, nI_eq, nI_clamp, inb_n, up_s, up_n, bx_uu, nI_1, ix6, nI_0n, pk_us, pk_un, ge_0n, c0])
  have e : ∀ (k i : Nat) (s : (Nat → Int32) × (Nat → Int32) × Option Value × Option Value), (itf (fun i (s : (Nat → Int32) × (Nat → Int32) × Option Value × Option Value) => (upd s.1 i (hgB I t nm m i), upd s.2.1 i (hgP I t nm m i), some (Value.int (nI (m * 6 + i))), some (Value.int (if m < nm then (if I (t + 17) (m * 6 + i) = -1 then 0 else 1) else 0)))) k i s).1 = itf (fun i r => upd r i (hgB I t nm m i)) k i s.1 ∧ (itf (fun i (s : (Nat → Int32) × (Nat → Int32) × Option Value × Option Value) => (upd s.1 i (hgB I t nm m i), upd s.2.1 i (hgP I t nm m i), some (Value.int (nI (m * 6 + i))), some (Value.int (if m < nm then (if I (t + 17) (m * 6 + i) = -1 then 0 else 1) else 0)))) k i s).2.1 = itf (fun i r => upd r i (hgP I t nm m i)) k i s.2.1 := by
    intro k
    induction k with
    | zero => intro i s; exact ⟨rfl, rfl⟩
    | succ k ih => intro i s; exact ih (i + 1) _
  rw [(e 6 0 _).1, (e 6 0 _).2, itf_cp, itf_cp] at hl
  have eI : va_up (va_up I 120 (I 120)) 121 (I 121) = I := by rw [up_self, up_self]
  dsimp only at hl
  rw [nI_0, eI] at hl
  rw [eX9_hangings]
  simp only [xX9_hangings_0, xX9_hangings_1, ↓reduceIte, gd_t, hK_p, hN_p, hF_p, hI_p, hJ_p, hR_p, stI_p, stJ_p, stR_p, stA_p, va_rf_s, va_rf_n, clr_i, clr_l, clr_r, clr_n, clr_o, w8_0, w8_1i, w8_1r, w8_2ii, w8_2ri, w8_2ir, w8_2rr, w8_3, beq_self_eq_true, Bool.and_self, Bool.and_true, Bool.true_and, decide_true, Option.toList_some, Option.toList_none, List.cons_append, List.nil_append, Option.bind_some, if_true, if_false, Nat.reduceLeDiff, Nat.reduceLT, Nat.reduceBEq, Bool.or_false, Bool.false_or, Bool.or_true, Bool.true_or]
  exact hl
/-- a run hung like that is about to begin -/
theorem cBeg2 {I : Mem} {R : MemR} {m t b p lL lG n : Nat} {B Pl : Nat → Int32} (hm : isMo m) (ht : isTe t) (hn : I (t + 5) 1 = nI n) (hn6 : n ≤ 6) (hok : okL I t lL lG) (hph : phO n (I (t + 11))) (eb : eqR n (I b) B) (ep : eqR n (I p) Pl) : cSt (begM I m t b p n) (va_up R m (va_up (R m) 0 (some t))) m t lL lG n (P0 I t lL lG B Pl) 0 := by
  have hm2 := mo_lo hm
  refine cBegG hm ht hok (by rw [up_s, up_s]) (fun a ha => begM_o (by omega)) ((begM_f 1 (by omega)).trans hn) (begM_f 2 (by omega)) (begM_f 4 (by omega)) (fun c hc => ?_) (fun c hc => ?_) (fun c hc => ?_) (fun c q hc hq _ => ?_) (fun i hi j hj => ?_) (fun c hc => ?_) (fun c hc => ?_) (fun c hc => ?_) (fun c hc => ?_) hph
  · rw [begM_5, cpF_at (by omega)]
  · rw [begM_4, cpF_at (by omega)]
  · rw [begM_3, cpF_at (by omega)]; exact ep c hc
  · rw [begM_11, mesF_at hn6 c q hc hq]
    exact bonF_cong (cpF_at (by omega)) (fun x hx => cpF_at hx) ((cpF_at (by omega)).trans (ep c hc)) ((cpF_at (by omega)).trans (ep q hq)) ((cpF_at (by omega)).trans (eb c hc)) ((cpF_at (by omega)).trans (eb q hq))
  · rw [begM_6, cpF_at (by omega)]
    rfl
  · rw [begM_7, cpF_at (by omega)]
  · rw [begM_8, cpF_at (by omega)]
  · rw [begM_9, zer_at (by omega)]
  · rw [begM_10, zer_at (by omega)]
theorem rnG_sk {P : PR} {n k : Nat} (hn : n ≤ 6) : ∃ q, q < 64 ∧ (rnG P n (k + 1)).2.2.2.2 = nI q := stepG_sk hn
theorem gtE {E j : Nat} (hE : E ≤ 2000) (hj : j ≤ 2000) : nI E + (-1) < nI j ↔ E ≤ j := by
  cases E with
  | zero =>
    have e : nI 0 + (-1) = (-1 : Int32) := by decide
    rw [e]
    refine ⟨fun _ => by omega, fun _ => ?_⟩
    exact Int32.lt_of_lt_of_le (by decide) (nI_pos' (n := j) (by omega))
  | succ E =>
    rw [nI_pm, nI_ltI (by omega) (by omega)]
    omega
section FIT
variable {I Q : Mem} {J : MemL} {R R' R1 : MemR} {t t' n nb nm fL lL fG lG st : Nat}
def fiP (I : Mem) (t lL lG nm m : Nat) : PR := P0 I t lL lG (hgB I t nm m) (hgP I t nm m)
/-- a run of e steps, its strokes written down -/
theorem fit_l {d e m : Nat} {P : PR} {b : Int32} (h : cAll I R t t' n nb nm fL lL fG lG st) (hE : e ≤ 2000) : ∀ (q j : Nat) (X : Mem) (J : MemL), j + q = e → cSt X R1 88 t lL lG n P j → (∀ τ, τ < j → X 122 τ = (rnG P n (τ + 1)).2.2.2.2) → ∃ X1 J1, E (C (d + 4)) MX11_fits 71 [some (.ref 0), some (.int (nI e + (-1))), some (.int b), some (.int (nI m)), some (.int (nI j))] [] (hp X J R1) = E (C (d + 4)) MX11_fits 113 [some (.ref 0), some (.int (nI e + (-1))), some (.int b), some (.int (nI m)), some (.int (nI e))] [] (hp X1 J1 R1) ∧ (∀ τ, τ < e → X1 122 τ = (rnG P n (τ + 1)).2.2.2.2) ∧ ∀ a, a < 88 ∨ 102 ≤ a → a ≠ 122 → X1 a = X a := by
  have hn6 := h.n6
  have hm : isMo 88 := Or.inr (Or.inr rfl)
  intro q
  induction q with
  | zero =>
    intro j X J hj s g
    obtain rfl : j = e := by omega
    have c0 : nI j + (-1) < nI j := (gtE hE hE).mpr (Nat.le_refl j)
    refine ⟨X, J, ?_, g, fun _ _ _ => rfl⟩
    rw [xX11_fits_71]
    simp (disch := omega) only [xX11_fits_73, xX11_fits_74, xX11_fits_77, xX11_fits_79, xX11_fits_82, xX11_fits_85, xX11_fits_86, xX11_fits_89, xX11_fits_92, xX11_fits_93, xX11_fits_96, xX11_fits_98, xX11_fits_99, xX11_fits_102, xX11_fits_105, xX11_fits_106, xX11_fits_107, xX11_fits_110, kd_0, fi_0_8, kd_88, fi_0_11, kd_107, fi_0_14, kd_120, ln_120, fi_0_15, kd_121, ln_121, fi_0_16, kd_122, ln_122, ↓reduceIte, gd_t, hK_p, hN_p, hF_p, hI_p, hJ_p, hR_p, stI_p, stJ_p, stR_p, stA_p, va_rf_s, va_rf_n, clr_i, clr_l, clr_r, clr_n, clr_o, w8_0, w8_1i, w8_1r, w8_2ii, w8_2ri, w8_2ir, w8_2rr, w8_3, beq_self_eq_true, Bool.and_self, Bool.and_true, Bool.true_and, decide_true, Option.toList_some, Option.toList_none, List.cons_append, List.nil_append, Option.bind_some, if_true, if_false, Nat.reduceLeDiff, Nat.reduceLT, Nat.reduceBEq, Bool.or_false, Bool.false_or, Bool.or_true, Bool.true_or, c0]
  | succ q ih =>
    intro j X J hj s g
    have c0 : ¬ nI e + (-1) < nI j := fun w => absurd ((gtE hE (by omega)).mp w) (by omega)
    have c1 : ¬ (2000 : Int32) ≤ nI j := fun w => absurd ((nI_leI (a := 2000) (by omega) (by omega)).mp w) (by omega)
    obtain ⟨X1, J1, e1, s1, o1⟩ := cSt_adv (d := d) (J := J) hm h.te hn6 (by omega) s
    have e18 : X1 88 18 = (rnG P n (j + 1)).2.2.2.2 := s1.2.2.2 (by omega)
    obtain ⟨p, p1, p2⟩ := rnG_sk (P := P) (n := n) (k := j) hn6
    have e8 : (X1 88 18).toInt8.toInt32.toInt8.toInt32 = (rnG P n (j + 1)).2.2.2.2 := by rw [e18, p2, i8_ok p p1, i8_ok p p1]
    have s2 : cSt (va_up X1 122 (upd (X1 122) j (rnG P n (j + 1)).2.2.2.2)) R1 88 t lL lG n P (j + 1) := by
      have ht2 := te_hi h.te
      have u : ∀ a, a ≠ 122 → va_up X1 122 (upd (X1 122) j (rnG P n (j + 1)).2.2.2.2) a = X1 a := fun a ha => up_n ha
      generalize va_up X1 122 (upd (X1 122) j (rnG P n (j + 1)).2.2.2.2) = Y at u
      have el : ∀ x, losC Y t lL x = losC X1 t lL x := by
        intro x
        funext nm
        unfold losC
        simp (disch := omega) only [u]
      have eg : goC Y t lG = goC X1 t lG := by
        funext nm sp
        unfold goC
        simp (disch := omega) only [u]
      unfold cSt cPr okL sMo at s1 ⊢
      rw [el, eg]
      simp (disch := omega) only [u]
      exact s1
    obtain ⟨X2, J2, e2, g2, o2⟩ := ih (j + 1) (va_up X1 122 (upd (X1 122) j (rnG P n (j + 1)).2.2.2.2)) J1 (by omega) s2 (fun τ hτ => by
      rw [up_s]
      by_cases z : τ = j
      · rw [z, pk_us]
      · rw [pk_un z, o1 122 (by omega)]
        exact g τ (by omega))
    refine ⟨X2, J2, ?_, g2, fun a ha hb => (o2 a ha hb).trans ((up_n hb).trans (o1 a (by omega)))⟩
    rw [xX11_fits_71]
    simp (disch := omega) only [xX11_fits_73, xX11_fits_74, xX11_fits_77, xX11_fits_79, xX11_fits_82, xX11_fits_85, xX11_fits_86, xX11_fits_89, xX11_fits_92, xX11_fits_93, xX11_fits_96, xX11_fits_98, xX11_fits_99, xX11_fits_102, xX11_fits_105, xX11_fits_106, xX11_fits_107, xX11_fits_110, kd_0, fi_0_8, kd_88, fi_0_11, kd_107, fi_0_14, kd_120, ln_120, fi_0_15, kd_121, ln_121, fi_0_16, kd_122, ln_122, kd_88, kd_122, ln_122, ↓reduceIte, gd_t, hK_p, hN_p, hF_p, hI_p, hJ_p, hR_p, stI_p, stJ_p, stR_p, stA_p, va_rf_s, va_rf_n, clr_i, clr_l, clr_r, clr_n, clr_o, w8_0, w8_1i, w8_1r, w8_2ii, w8_2ri, w8_2ir, w8_2rr, w8_3, beq_self_eq_true, Bool.and_self, Bool.and_true, Bool.true_and, decide_true, Option.toList_some, Option.toList_none, List.cons_append, List.nil_append, Option.bind_some, if_true, if_false, Nat.reduceLeDiff, Nat.reduceLT, Nat.reduceBEq, Bool.or_false, Bool.false_or, Bool.or_true, Bool.true_or, nI_leI, nI_ltI, nI_eq, nI_clamp, inb_n, up_s, up_n, bx_uu, nI_1, ix6, nI_0n, pk_us, pk_un, ge_0n, c0, c1, e1, e8, e2]
/-- does a hanging fit -/
def fiV (I : Mem) (t lL lG n nm m : Nat) : Int32 := tgV (srF (fun i (_ : Unit) => agC (I 111) (I 108) (I 109) (I 110) (fun τ => (rnG (fiP I t lL lG nm m) n (τ + 1)).2.2.2.2) i) (fun _ s => s) 40 0 ()).1
def fiS (I : Mem) (t lL lG n nm : Nat) (m : Nat) (b : Int32) : Int32 := if fiV I t lL lG n nm m = 0 then b else b ||| (1 : Int32) <<< (nI m &&& 31)
theorem tgV_eq {c c' : Nat → Bool} {k k' : Nat} (h : (∃ j, j < k ∧ c j = true) ↔ ∃ j, j < k' ∧ c' j = true) : tgV (srF (fun i (_ : Unit) => c i) (fun _ s => s) k 0 ()).1 = tgV (srF (fun i (_ : Unit) => c' i) (fun _ s => s) k' 0 ()).1 := by
  have e : ((srF (fun i (_ : Unit) => c i) (fun _ s => s) k 0 ()).1.isSome = true) = ((srF (fun i (_ : Unit) => c' i) (fun _ s => s) k' 0 ()).1.isSome = true) := by
    refine propext ?_
    rw [srF_some, srF_some]
    constructor
    · rintro ⟨j, -, h2, h3⟩
      obtain ⟨j', a, b⟩ := h.mp ⟨j, by omega, h3⟩
      exact ⟨j', by omega, by omega, b⟩
    · rintro ⟨j, -, h2, h3⟩
      obtain ⟨j', a, b⟩ := h.mpr ⟨j, by omega, h3⟩
      exact ⟨j', by omega, by omega, b⟩
  unfold tgV
  simp only [e]
theorem fit_c {d e : Nat} (h : cAll I R t t' n nb nm fL lL fG lG st) (hE : e ≤ 2000) (hact : ∀ k, k < 40 → ¬ I 111 k = 0 → ¬ I 108 k = 2 → ∃ s, s < e ∧ I 109 k = nI s) : ∀ (q m : Nat) (b : Int32) (Q : Mem) (J : MemL) (R' : MemR) (l4 : Option Value), m + q = nm + 1 → tk I Q → rk R R' → ∃ I1 J1 R1, E (C (d + 4)) MX11_fits 19 [some (.ref 0), some (.int (nI e + (-1))), some (.int b), some (.int (nI m)), l4] [] (hp Q J R') = some (some (.int (itf (fiS I t lL lG n nm) q m b)), hp I1 J1 R1) ∧ tk I I1 ∧ rk R R1 := by
  have hn6 := h.n6
  have hm4 := h.txt.2.2.1.2.2
  have ht2 := te_hi h.te
  have hm : isMo 88 := Or.inr (Or.inr rfl)
  have n1 : ¬ (1 : Int32) = 0 := by decide
  intro q
  induction q with
  | zero =>
    intro m b Q J R' l4 hm kq rq
    obtain rfl : m = nm + 1 := by omega
    have hR3 : R' 0 3 = some t := by rw [rq 0 (by decide)]; exact h.r3
    have hs : Q (t + 15) 1 = nI nm := by rw [kq.lo (by omega)]; exact h.txt.2.2.1.1
    have c0 : nm < nm + 1 := by omega
    refine ⟨Q, J, R', ?_, kq, rq⟩
    rw [xX11_fits_19]
    simp (disch := omega) only [xX11_fits_20, xX11_fits_21, xX11_fits_24, xX11_fits_27, xX11_fits_30, xX11_fits_33, xX11_fits_34, xX11_fits_37, xX11_fits_38, xX11_fits_39, xX11_fits_42, xX11_fits_43, xX11_fits_46, xX11_fits_49, xX11_fits_50, xX11_fits_53, xX11_fits_54, xX11_fits_57, xX11_fits_58, xX11_fits_61, xX11_fits_62, xX11_fits_65, xX11_fits_68, xX11_fits_69, xX11_fits_71, xX11_fits_73, xX11_fits_74, xX11_fits_77, xX11_fits_79, xX11_fits_82, xX11_fits_85, xX11_fits_86, xX11_fits_89, xX11_fits_92, xX11_fits_93, xX11_fits_96, xX11_fits_98, xX11_fits_99, xX11_fits_102, xX11_fits_105, xX11_fits_106, xX11_fits_107, xX11_fits_110, xX11_fits_113, xX11_fits_114, xX11_fits_117, xX11_fits_118, xX11_fits_121, xX11_fits_124, xX11_fits_127, xX11_fits_128, xX11_fits_129, xX11_fits_130, xX11_fits_131, xX11_fits_132, xX11_fits_133, xX11_fits_136, xX11_fits_139, xX11_fits_140, kd_0, fi_0_8, kd_88, fi_0_11, kd_107, fi_0_14, kd_120, ln_120, fi_0_15, kd_121, ln_121, fi_0_16, kd_122, ln_122, te_k0 h.te, te_f0_13 h.te, te_k15 h.te, te_k1 h.te, te_k5 h.te, te_k15 h.te, ↓reduceIte, gd_t, hK_p, hN_p, hF_p, hI_p, hJ_p, hR_p, stI_p, stJ_p, stR_p, stA_p, va_rf_s, va_rf_n, clr_i, clr_l, clr_r, clr_n, clr_o, w8_0, w8_1i, w8_1r, w8_2ii, w8_2ri, w8_2ir, w8_2rr, w8_3, beq_self_eq_true, Bool.and_self, Bool.and_true, Bool.true_and, decide_true, Option.toList_some, Option.toList_none, List.cons_append, List.nil_append, Option.bind_some, if_true, if_false, Nat.reduceLeDiff, Nat.reduceLT, Nat.reduceBEq, Bool.or_false, Bool.false_or, Bool.or_true, Bool.true_or, nI_leI, nI_ltI, nI_eq, nI_clamp, inb_n, up_s, up_n, bx_uu, nI_1, ix6, nI_0n, pk_us, pk_un, ge_0n, hR3, hs, c0, itf]
  | succ q ih =>
    intro m b Q J R' l4 hmq kq rq
    have hR3 : R' 0 3 = some t := by rw [rq 0 (by decide)]; exact h.r3
    have o : ∀ a, a < 60 → Q a = I a := fun a ha => kq.lo ha
    have hs : Q (t + 15) 1 = nI nm := by rw [o _ (by omega)]; exact h.txt.2.2.1.1
    have c0 : ¬ nm < m := by omega
    have eh := hgs_c (d := d + 3) (J := J) (R := R') h.te hs hm4 (m := m) (by omega)
    generalize hX : va_up (va_up Q 120 (cpF (hgB Q t nm m) (Q 120) 6)) 121 (cpF (hgP Q t nm m) (Q 121) 6) = X at *
    have eB : ∀ i, hgB Q t nm m i = hgB I t nm m i := fun i => by
      unfold hgB
      simp (disch := omega) only [o]
    have eP : ∀ i, hgP Q t nm m i = hgP I t nm m i := fun i => by
      unfold hgP
      simp (disch := omega) only [o]
    have xb : eqR n (X 120) (hgB I t nm m) := fun c hc => by rw [← hX, up_n (by decide), up_s, cpF_at (by omega), eB]
    have xp : eqR n (X 121) (hgP I t nm m) := fun c hc => by rw [← hX, up_s, cpF_at (by omega), eP]
    have kx : tk I X := kq.tr (fun a ha => by rw [← hX, up_n (by unfold kpA at ha; omega), up_n (by unfold kpA at ha; omega)])
    have hn : X (t + 5) 1 = nI n := by rw [kx.lo (by omega)]; exact h.nc
    have eb := beg_spec (d := d) (m := 88) (t := t) (b := 120) (p := 121) (n := n) (I := X) (J := J) (R := R') hm h.te kd_120 ln_120 kd_121 ln_121 (by omega) (by omega) hn hn6
    have s1 := cBeg2 (R := R') (m := 88) (b := 120) (p := 121) hm h.te hn hn6 (okL_tk h kx) (by rw [kx.lo (by omega)]; exact phO_txt h) xb xp
    rw [P0_tk h.te kx] at s1
    have r1 : rk R (va_up R' 88 (va_up (R' 88) 0 (some t))) := fun a ha => by rw [up_n (by omega)]; exact rq a ha
    generalize va_up R' 88 (va_up (R' 88) 0 (some t)) = R1 at *
    obtain ⟨X1, J1, e1, g1, o1⟩ := fit_l (d := d) (m := m) (b := b) h hE e 0 _ J (by omega) s1 (fun τ hτ => absurd hτ (by omega))
    rw [nI_0] at e1
    have k1 : tk I X1 := kx.tr (fun a ha => by
      rw [o1 a (by unfold kpA at ha; omega) (by unfold kpA at ha; omega), begM_o (by unfold kpA at ha; omega)])
    have ea := agr_c (d := d + 3) (I := X1) (J := J1) (R := R1)
    have q1 : ∀ a, 108 ≤ a → a ≤ 111 → X1 a = I a := fun a h1 h2 => k1 a (Or.inl (by unfold kpA; omega))
    have eV : tgV (srF (fun i (_ : Unit) => agC (X1 111) (X1 108) (X1 109) (X1 110) (X1 122) i) (fun _ s => s) 40 0 ()).1 = fiV I t lL lG n nm m := by
      unfold fiV
      refine tgV_eq ?_
      rw [q1 108 (by omega) (by omega), q1 109 (by omega) (by omega), q1 110 (by omega) (by omega), q1 111 (by omega) (by omega)]
      have : ∀ j, j < 40 → agC (I 111) (I 108) (I 109) (I 110) (X1 122) j = agC (I 111) (I 108) (I 109) (I 110) (fun τ => (rnG (fiP I t lL lG nm m) n (τ + 1)).2.2.2.2) j := by
        intro j hj
        unfold agC
        by_cases z0 : I 111 j = 0
        · simp [z0]
        by_cases z1 : I 108 j = 2
        · simp [z1]
        obtain ⟨s, s1, s2⟩ := hact j hj z0 z1
        rw [s2, nI_clamp (by omega)]
        have := g1 s s1
        rw [this]
        rfl
      constructor
      · rintro ⟨j, j1, j2⟩; exact ⟨j, j1, by rw [← this j j1]; exact j2⟩
      · rintro ⟨j, j1, j2⟩; exact ⟨j, j1, by rw [this j j1]; exact j2⟩
    rw [eV] at ea
    have hS : itf (fiS I t lL lG n nm) (q + 1) m b = itf (fiS I t lL lG n nm) q (m + 1) (fiS I t lL lG n nm m b) := rfl
    rw [hS]
    unfold fiS
    by_cases z : fiV I t lL lG n nm m = 0
    · rw [if_pos z]
      obtain ⟨I3, J3, R3, e4, k3, r3⟩ := ih (m + 1) b X1 J1 R1 (some (.int (nI e))) (by omega) k1 r1
      refine ⟨I3, J3, R3, ?_, k3, r3⟩
      unfold fiS at e4
      rw [xX11_fits_19]
      simp (disch := omega) only [xX11_fits_20, xX11_fits_21, xX11_fits_24, xX11_fits_27, xX11_fits_30, xX11_fits_33, xX11_fits_34, xX11_fits_37, xX11_fits_38, xX11_fits_39, xX11_fits_42, xX11_fits_43, xX11_fits_46, xX11_fits_49, xX11_fits_50, xX11_fits_53, xX11_fits_54, xX11_fits_57, xX11_fits_58, xX11_fits_61, xX11_fits_62, xX11_fits_65, xX11_fits_68, xX11_fits_69, kd_0, fi_0_8, kd_88, fi_0_11, kd_107, fi_0_14, kd_120, ln_120, fi_0_15, kd_121, ln_121, fi_0_16, kd_122, ln_122, te_k0 h.te, te_f0_13 h.te, te_k15 h.te, te_k1 h.te, te_k5 h.te, te_k15 h.te, te_k0 h.te, kd_88, kd_120, kd_121, ↓reduceIte, gd_t, hK_p, hN_p, hF_p, hI_p, hJ_p, hR_p, stI_p, stJ_p, stR_p, stA_p, va_rf_s, va_rf_n, clr_i, clr_l, clr_r, clr_n, clr_o, w8_0, w8_1i, w8_1r, w8_2ii, w8_2ri, w8_2ir, w8_2rr, w8_3, beq_self_eq_true, Bool.and_self, Bool.and_true, Bool.true_and, decide_true, Option.toList_some, Option.toList_none, List.cons_append, List.nil_append, Option.bind_some, if_true, if_false, Nat.reduceLeDiff, Nat.reduceLT, Nat.reduceBEq, Bool.or_false, Bool.false_or, Bool.or_true, Bool.true_or, nI_leI, nI_ltI, nI_eq, nI_clamp, inb_n, up_s, up_n, bx_uu, nI_1, ix6, nI_0n, pk_us, pk_un, ge_0n, hR3, hs, c0, w8_4, eh, eb]
      rw [e1]
      simp (disch := omega) only [xX11_fits_113, xX11_fits_114, xX11_fits_117, xX11_fits_118, xX11_fits_121, xX11_fits_124, xX11_fits_127, xX11_fits_128, xX11_fits_129, xX11_fits_130, xX11_fits_131, xX11_fits_132, xX11_fits_133, xX11_fits_136, kd_0, fi_0_8, kd_88, fi_0_11, kd_107, fi_0_14, kd_120, ln_120, fi_0_15, kd_121, ln_121, fi_0_16, kd_122, ln_122, kd_107, kd_122, ↓reduceIte, gd_t, hK_p, hN_p, hF_p, hI_p, hJ_p, hR_p, stI_p, stJ_p, stR_p, stA_p, va_rf_s, va_rf_n, clr_i, clr_l, clr_r, clr_n, clr_o, w8_0, w8_1i, w8_1r, w8_2ii, w8_2ri, w8_2ir, w8_2rr, w8_3, beq_self_eq_true, Bool.and_self, Bool.and_true, Bool.true_and, decide_true, Option.toList_some, Option.toList_none, List.cons_append, List.nil_append, Option.bind_some, if_true, if_false, Nat.reduceLeDiff, Nat.reduceLT, Nat.reduceBEq, Bool.or_false, Bool.false_or, Bool.or_true, Bool.true_or, nI_leI, nI_ltI, nI_eq, nI_clamp, inb_n, up_s, up_n, bx_uu, nI_1, ix6, nI_0n, pk_us, pk_un, ge_0n, ea, z, e4]
    · rw [if_neg z]
      obtain ⟨I3, J3, R3, e4, k3, r3⟩ := ih (m + 1) (b ||| (1 : Int32) <<< (nI m &&& 31)) X1 J1 R1 (some (.int (nI e))) (by omega) k1 r1
      refine ⟨I3, J3, R3, ?_, k3, r3⟩
      unfold fiS at e4
      rw [xX11_fits_19]
      simp (disch := omega) only [xX11_fits_20, xX11_fits_21, xX11_fits_24, xX11_fits_27, xX11_fits_30, xX11_fits_33, xX11_fits_34, xX11_fits_37, xX11_fits_38, xX11_fits_39, xX11_fits_42, xX11_fits_43, xX11_fits_46, xX11_fits_49, xX11_fits_50, xX11_fits_53, xX11_fits_54, xX11_fits_57, xX11_fits_58, xX11_fits_61, xX11_fits_62, xX11_fits_65, xX11_fits_68, xX11_fits_69, kd_0, fi_0_8, kd_88, fi_0_11, kd_107, fi_0_14, kd_120, ln_120, fi_0_15, kd_121, ln_121, fi_0_16, kd_122, ln_122, te_k0 h.te, te_f0_13 h.te, te_k15 h.te, te_k1 h.te, te_k5 h.te, te_k15 h.te, te_k0 h.te, kd_88, kd_120, kd_121, ↓reduceIte, gd_t, hK_p, hN_p, hF_p, hI_p, hJ_p, hR_p, stI_p, stJ_p, stR_p, stA_p, va_rf_s, va_rf_n, clr_i, clr_l, clr_r, clr_n, clr_o, w8_0, w8_1i, w8_1r, w8_2ii, w8_2ri, w8_2ir, w8_2rr, w8_3, beq_self_eq_true, Bool.and_self, Bool.and_true, Bool.true_and, decide_true, Option.toList_some, Option.toList_none, List.cons_append, List.nil_append, Option.bind_some, if_true, if_false, Nat.reduceLeDiff, Nat.reduceLT, Nat.reduceBEq, Bool.or_false, Bool.false_or, Bool.or_true, Bool.true_or, nI_leI, nI_ltI, nI_eq, nI_clamp, inb_n, up_s, up_n, bx_uu, nI_1, ix6, nI_0n, pk_us, pk_un, ge_0n, hR3, hs, c0, w8_4, eh, eb]
      rw [e1]
      simp (disch := omega) only [xX11_fits_113, xX11_fits_114, xX11_fits_117, xX11_fits_118, xX11_fits_121, xX11_fits_124, xX11_fits_127, xX11_fits_128, xX11_fits_129, xX11_fits_130, xX11_fits_131, xX11_fits_132, xX11_fits_133, xX11_fits_136, kd_0, fi_0_8, kd_88, fi_0_11, kd_107, fi_0_14, kd_120, ln_120, fi_0_15, kd_121, ln_121, fi_0_16, kd_122, ln_122, kd_107, kd_122, ↓reduceIte, gd_t, hK_p, hN_p, hF_p, hI_p, hJ_p, hR_p, stI_p, stJ_p, stR_p, stA_p, va_rf_s, va_rf_n, clr_i, clr_l, clr_r, clr_n, clr_o, w8_0, w8_1i, w8_1r, w8_2ii, w8_2ri, w8_2ir, w8_2rr, w8_3, beq_self_eq_true, Bool.and_self, Bool.and_true, Bool.true_and, decide_true, Option.toList_some, Option.toList_none, List.cons_append, List.nil_append, Option.bind_some, if_true, if_false, Nat.reduceLeDiff, Nat.reduceLT, Nat.reduceBEq, Bool.or_false, Bool.false_or, Bool.or_true, Bool.true_or, nI_leI, nI_ltI, nI_eq, nI_clamp, inb_n, up_s, up_n, bx_uu, nI_1, ix6, nI_0n, pk_us, pk_un, ge_0n, ea, z, e4]
end FIT

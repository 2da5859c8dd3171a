-- LEAST, 8: the pair
section LEP
variable {I I2 X Q : Mem} {J : MemL} {R R1 : MemR} {t t' n nb nm fL lL fG lG st : Nat}
theorem leR_o {N k : Nat} {bits : Int32} (ht : isTe t) (o : ∀ a, t ≤ a → a < t + 27 → I2 a = I a) (o2 : I2 62 = I 62) (o3 : I2 63 = I 63) : leR I2 t lL lG n nb N k bits = leR I t lL lG n nb N k bits := by
  have e1 : losC I2 t lL 0 = losC I t lL 0 := by
    funext nm
    unfold losC
    simp (disch := omega) only [o]
  have e2 : goC I2 t lG = goC I t lG := by
    funext nm sp
    unfold goC
    simp (disch := omega) only [o]
  have eP : ∀ B Pl, P0 I2 t lL lG B Pl = P0 I t lL lG B Pl := by
    intro B Pl
    unfold P0 PG
    rw [e1, e2]
    simp (disch := omega) only [o]
    rfl
  have eO : ∀ c, ownP I2 t lL lG c = ownP I t lL lG c := by
    intro c
    unfold ownP P1 PG
    rw [e1, e2, o2, o3]
    simp (disch := omega) only [o]
    rfl
  have eW : owF I2 t lL lG n N = owF I t lL lG n N := by
    funext c
    unfold owF
    rw [eO]
  have eK : kK I2 t lL lG n N k bits = kK I t lL lG n N k bits := by
    funext B Pl
    unfold kK
    rw [eP, eW]
  have eM : mvd I2 = mvd I := by
    funext c to
    unfold mvd
    rw [o2, o3]
  have e1' : ok1 I2 t lL lG n N k bits = ok1 I t lL lG n N k bits := by
    funext c to
    unfold ok1
    rw [eK, eM, o2, o3]
  have e2' : ok2 I2 t lL lG n N k bits = ok2 I t lL lG n N k bits := by
    funext a to b to2
    unfold ok2
    rw [eK, eM, o2, o3]
  have e3' : ok2C I2 t lL lG n N k bits = ok2C I t lL lG n N k bits := by
    funext a to b to2
    unfold ok2C
    rw [e2', eM]
  unfold leR lonF ltwF
  rw [eK, o2, o3, e1', e3']
theorem cLst_fr (hc : cLst I t lL lG n nb) (ht : isTe t) (o : ∀ a, t ≤ a → a < t + 27 → I2 a = I a) (o2 : I2 62 = I 62) (o3 : I2 63 = I 63) (o7 : I2 112 = I 112) (o9 : I2 116 = I 116) : cLst I2 t lL lG n nb := by
  unfold cLst lsM at hc ⊢
  rw [o7, o9]
  simp only [leR_o ht o o2 o3]
  exact hc
/-- a call that may keep a moving -/
def leaP (Mc Mm : Mth) (as : List Value) (I : Mem) (J : MemL) (R : MemR) (t t' n nb nm fL lL fG lG st : Nat) : Prop := ∃ v I1 J1 R1 I2 J2, C 11 Mc (.ref 0 :: as) (hp I J R) = some (some (.int v), hp I1 J1 R1) ∧ C 11 Mm (.ref 123 :: as) (hp I1 J1 R1) = some (some (.int v), hp I2 J2 R1) ∧ cAll I2 R1 t t' n nb nm fL lL fG lG st ∧ cLst I2 t lL lG n nb ∧ (∀ a, t ≤ a → a < t + 27 → I2 a = I a) ∧ I2 62 = I 62 ∧ I2 63 = I 63 ∧ I2 117 = I 117 ∧ I2 119 = I 119
theorem askP.lea {Mc Mm : Mth} {as : List Value} (h : cAll I R t t' n nb nm fL lL fG lG st) (hc : cLst I t lL lG n nb) (a : askP Mc Mm as I J R) : leaP Mc Mm as I J R t t' n nb nm fL lL fG lG st := by
  obtain ⟨v, I1, J1, R1, I2, J2, h1, h2, h3, r0, r1, r2⟩ := a
  have ht := te_hi h.te
  have o : ∀ a, t ≤ a → a < t + 27 → I2 a = I a := fun a h1 h2 => h3.1 a (by unfold kpA; omega)
  exact ⟨v, I1, J1, R1, I2, J2, h1, h2, cAll_kp h h3 r0 r1 r2, cLst_fr hc h.te o (h3.1 62 (by unfold kpA; omega)) (h3.1 63 (by unfold kpA; omega)) (h3.1 112 (by unfold kpA; omega)) (h3.1 116 (by unfold kpA; omega)), o, h3.1 62 (by unfold kpA; omega), h3.1 63 (by unfold kpA; omega), h3.1 117 (by unfold kpA; omega), h3.1 119 (by unfold kpA; omega)⟩
theorem own2_m {d c k : Nat} (h : cAll I R t t' n nb nm fL lL fG lG st) (kq : kp I Q) (hc : c < n) (hk : k < 2 ^ 31) : ∃ I1 J1, C (d + 7) MX12_ownOf [.ref 123, .int (nI c), .int (nI k)] (hp Q J R1) = some (some (.int ((rnG (ownP I t lL lG c) n k).2.2.1 c)), hp I1 J1 R1) ∧ kp I I1 ∧ I1 163 = Q 163 := by
  have hn6 := h.n6
  have hc6 : c < 6 := by omega
  obtain ⟨q61, q157, q158⟩ := pla_q h kq
  have a6 : (6 : Int32) + nI c = nI (6 + c) := nI_add 6 c
  have kx : kp I (va_up (plaM Q) 123 (upd (plaM Q 123) 65 (1 <<< (nI c &&& 31)))) := (kq.tr kp_pla).tr (kp_1 (by omega))
  obtain ⟨s1, k1, e13⟩ := lay_q (wall := I t 12) (ll := 0) (we := I (t + 9)) (stf := I (t + 4)) (sp := I (t + 10)) (ac := acO (I (t + 14)) c) h kx (q_lo (by rw [up_s, pk_un (by decide), pla_61.2.1])) (q_we h (by rw [up_s, pk_un (by decide), pla_61.2.2.1])) (q_w9 h) (fun c hc => by rw [up_n (by decide)]; exact q157 c hc) (fun i hi j hj => by
    rw [up_n (by decide), up_s, pk_us, isB1 c hc6 i (by omega), q158 i hi]
    rfl) (by rw [up_s, pk_un (by decide)]; exact q61.symm) (q_st h (by rw [up_s, pk_un (by decide), pla_61.2.2.2.1]))
  obtain ⟨I', J', e, s, o⟩ := mSt_runs (d := d) (J := J) (R := R1) hk s1
  have e1 := pla_spec (d := d + 5) (I := Q) (J := J) (R := R1)
  have e2 := brn_spec (d := d + 4) (n := n) (J := J) (R := R1) e13 h.n6
  have g1 : I' 155 (6 + c) = (rnG (ownP I t lL lG c) n k).2.2.1 c := s.2.1.2.2.1 c hc
  refine ⟨I', J', ?_, k1.tr o.kp, ?_⟩
  · rw [eX12_ownOf]
    simp (disch := omega) only [xX12_ownOf_0, xX12_ownOf_1, xX12_ownOf_4, xX12_ownOf_5, xX12_ownOf_6, xX12_ownOf_7, xX12_ownOf_8, xX12_ownOf_11, xX12_ownOf_12, xX12_ownOf_15, xX12_ownOf_16, xX12_ownOf_17, xX12_ownOf_20, xX12_ownOf_21, xX12_ownOf_24, xX12_ownOf_26, xX12_ownOf_27, xX12_ownOf_28, xX12_ownOf_29, kd_123, fi_123_59, kd_155, ln_155, kd_123, ↓reduceIte, gd_t, hK_p, hN_p, hF_p, hI_p, hJ_p, hR_p, stI_p, stJ_p, stR_p, stA_p, va_rf_s, va_rf_n, clr_i, clr_l, clr_r, clr_n, clr_o, w8_0, w8_1i, w8_1r, w8_2ii, w8_2ri, w8_2ir, w8_2rr, w8_3, beq_self_eq_true, Bool.and_self, Bool.and_true, Bool.true_and, decide_true, Option.toList_some, Option.toList_none, List.cons_append, List.nil_append, Option.bind_some, if_true, if_false, Nat.reduceLeDiff, Nat.reduceLT, Nat.reduceBEq, Bool.or_false, Bool.false_or, Bool.or_true, Bool.true_or, nI_leI, nI_ltI, nI_eq, nI_clamp, inb_n, up_s, up_n, bx_uu, nI_1, ix6, nI_0n, pk_us, pk_un, ge_0n, e1, e2, e, a6, g1]
  · rw [o.1 163 (by decide) (by decide) (by decide) (by decide) (by decide) (by decide), bgq_o (by omega), up_n (by decide), pla_o (by decide) (by decide) (by decide)]
theorem ows_m {d N k : Nat} {bits wh : Int32} (h : cAll I R t t' n nb nm fL lL fG lG st) (hN : N ≤ 60) : ∀ (q c : Nat) (X : Mem) (J : MemL), c + q = n → kp I X → (∀ i, i < c → isB bits (nI i) → X 163 i = owF I t lL lG n N i) → ∃ X1 J1, E (C (d + 7)) MX12_least 54 [some (.ref 123), some (.int bits), some (.int (nI N)), some (.int (nI k)), some (.int wh), some (.int (nI c))] [] (hp X J R1) = E (C (d + 7)) MX12_least 96 [some (.ref 123), some (.int bits), some (.int (nI N)), some (.int (nI k)), some (.int wh), some (.int (nI n))] [] (hp X1 J1 R1) ∧ kp I X1 ∧ ∀ i, i < n → isB bits (nI i) → X1 163 i = owF I t lL lG n N i := by
  have hn6 := h.n6
  have n1 : ¬ (1 : Int32) = 0 := by decide
  have k163 : ∀ (Y : Mem) (f : Nat → Int32), kp Y (va_up Y 163 f) := fun Y f => ⟨fun a ha => up_n (by unfold kpA at ha; omega), fun k _ => by rw [up_n (by decide)], fun a k h1 h2 _ => by rw [up_n (by omega)]⟩
  intro q
  induction q with
  | zero =>
    intro c X J hq kx ho
    obtain rfl : c = n := by omega
    have y13 : X 123 13 = nI c := by rw [kx.2.1 13 (by unfold kpK; omega)]; exact h.nd
    have c0 : c ≤ c := Nat.le_refl c
    refine ⟨X, J, ?_, kx, ho⟩
    rw [xX12_least_54]
    simp (disch := omega) only [xX12_least_56, xX12_least_57, xX12_least_60, xX12_least_63, xX12_least_64, xX12_least_67, xX12_least_69, xX12_least_70, xX12_least_72, xX12_least_75, xX12_least_78, xX12_least_79, xX12_least_81, xX12_least_82, xX12_least_85, xX12_least_88, xX12_least_89, xX12_least_90, xX12_least_93, kd_123, fi_123_75, kd_163, ln_163, fi_123_76, kd_164, ln_164, ↓reduceIte, gd_t, hK_p, hN_p, hF_p, hI_p, hJ_p, hR_p, stI_p, stJ_p, stR_p, stA_p, va_rf_s, va_rf_n, clr_i, clr_l, clr_r, clr_n, clr_o, w8_0, w8_1i, w8_1r, w8_2ii, w8_2ri, w8_2ir, w8_2rr, w8_3, beq_self_eq_true, Bool.and_self, Bool.and_true, Bool.true_and, decide_true, Option.toList_some, Option.toList_none, List.cons_append, List.nil_append, Option.bind_some, if_true, if_false, Nat.reduceLeDiff, Nat.reduceLT, Nat.reduceBEq, Bool.or_false, Bool.false_or, Bool.or_true, Bool.true_or, nI_leI, nI_ltI, nI_eq, nI_clamp, inb_n, up_s, up_n, bx_uu, nI_1, ix6, nI_0n, pk_us, pk_un, ge_0n, y13, c0]
  | succ q ih =>
    intro c X J hq kx ho
    have y13 : X 123 13 = nI n := by rw [kx.2.1 13 (by unfold kpK; omega)]; exact h.nd
    have c0 : ¬ n ≤ c := by omega
    by_cases z : isB bits (nI c)
    · have zi : bi (isB bits (nI c)) = 1 := if_pos z
      obtain ⟨X1, J1, e1, k1, r1⟩ := own2_m (d := d) (J := J) (R1 := R1) (k := N) h kx (c := c) (by omega) (by omega)
      have hw : (rnG (ownP I t lL lG c) n N).2.2.1 c = owF I t lL lG n N c := rfl
      rw [hw] at e1
      obtain ⟨X2, J2, e2, k2, w2⟩ := ih (c + 1) (va_up X1 163 (upd (X1 163) c (owF I t lL lG n N c))) J1 (by omega) (k1.tr (k163 _ _)) (fun i hi hb => by
        rw [up_s]
        by_cases w : i = c
        · rw [w, pk_us]
        · rw [pk_un w, r1]
          exact ho i (by omega) hb)
      refine ⟨X2, J2, ?_, k2, w2⟩
      rw [← e2, xX12_least_54]
      simp (disch := omega) only [xX12_least_56, xX12_least_57, xX12_least_60, xX12_least_63, xX12_least_64, xX12_least_67, xX12_least_69, xX12_least_70, xX12_least_72, xX12_least_75, xX12_least_78, xX12_least_79, xX12_least_81, xX12_least_82, xX12_least_85, xX12_least_88, xX12_least_89, xX12_least_90, xX12_least_93, kd_123, fi_123_75, kd_163, ln_163, fi_123_76, kd_164, ln_164, kd_123, ↓reduceIte, gd_t, hK_p, hN_p, hF_p, hI_p, hJ_p, hR_p, stI_p, stJ_p, stR_p, stA_p, va_rf_s, va_rf_n, clr_i, clr_l, clr_r, clr_n, clr_o, w8_0, w8_1i, w8_1r, w8_2ii, w8_2ri, w8_2ir, w8_2rr, w8_3, beq_self_eq_true, Bool.and_self, Bool.and_true, Bool.true_and, decide_true, Option.toList_some, Option.toList_none, List.cons_append, List.nil_append, Option.bind_some, if_true, if_false, Nat.reduceLeDiff, Nat.reduceLT, Nat.reduceBEq, Bool.or_false, Bool.false_or, Bool.or_true, Bool.true_or, nI_leI, nI_ltI, nI_eq, nI_clamp, inb_n, up_s, up_n, bx_uu, nI_1, ix6, nI_0n, pk_us, pk_un, ge_0n, w8_4, y13, c0, isO_spec, zi, n1, e1]
    · have zi : bi (isB bits (nI c)) = 0 := if_neg z
      obtain ⟨X2, J2, e2, k2, w2⟩ := ih (c + 1) (va_up X 163 (upd (X 163) c 0)) J (by omega) (kx.tr (k163 _ _)) (fun i hi hb => by
        rw [up_s]
        by_cases w : i = c
        · rw [w] at hb; exact absurd hb z
        · rw [pk_un w]
          exact ho i (by omega) hb)
      refine ⟨X2, J2, ?_, k2, w2⟩
      rw [← e2, xX12_least_54]
      simp (disch := omega) only [xX12_least_56, xX12_least_57, xX12_least_60, xX12_least_63, xX12_least_64, xX12_least_67, xX12_least_69, xX12_least_70, xX12_least_72, xX12_least_75, xX12_least_78, xX12_least_79, xX12_least_81, xX12_least_82, xX12_least_85, xX12_least_88, xX12_least_89, xX12_least_90, xX12_least_93, kd_123, fi_123_75, kd_163, ln_163, fi_123_76, kd_164, ln_164, kd_123, ↓reduceIte, gd_t, hK_p, hN_p, hF_p, hI_p, hJ_p, hR_p, stI_p, stJ_p, stR_p, stA_p, va_rf_s, va_rf_n, clr_i, clr_l, clr_r, clr_n, clr_o, w8_0, w8_1i, w8_1r, w8_2ii, w8_2ri, w8_2ir, w8_2rr, w8_3, beq_self_eq_true, Bool.and_self, Bool.and_true, Bool.true_and, decide_true, Option.toList_some, Option.toList_none, List.cons_append, List.nil_append, Option.bind_some, if_true, if_false, Nat.reduceLeDiff, Nat.reduceLT, Nat.reduceBEq, Bool.or_false, Bool.false_or, Bool.or_true, Bool.true_or, nI_leI, nI_ltI, nI_eq, nI_clamp, inb_n, up_s, up_n, bx_uu, nI_1, ix6, nI_0n, pk_us, pk_un, ge_0n, w8_4, y13, c0, isO_spec, zi]
theorem lea_m {d N k w : Nat} {bits : Int32} (h : cAll I R t t' n nb nm fL lL fG lG st) (hN : N ≤ 60) (hw : w ≤ 6) (kx : kp I X) : ∃ X1 J1, E (C (d + 9)) MX12_least 54 [some (.ref 123), some (.int bits), some (.int (nI N)), some (.int (nI k)), some (.int (nI w)), some (.int 0)] [] (hp X J R1) = some (some (.int (match leR I t lL lG n nb N k bits with | none => -2 | some f => f w)), hp X1 J1 R1) ∧ kp I X1 := by
  have hn6 := h.n6
  have n1 : ¬ (1 : Int32) = 0 := by decide
  obtain ⟨X1, J1, e1, k1, w1⟩ := ows_m (d := d + 2) (k := k) (wh := nI w) (bits := bits) (R1 := R1) h hN n 0 X J (by omega) kx (fun i hi => absurd hi (by omega))
  rw [nI_0] at e1
  have hl := for_0 (P := fun i (r : Nat → Int32) => E (C (d + 9)) MX12_least 99 [some (.ref 123), some (.int bits), some (.int (nI N)), some (.int (nI k)), some (.int (nI w)), some (.int (nI i))] [] (hp (va_up X1 164 r) J1 R1)) (fin := fun r => E (C (d + 9)) MX12_least 120 [some (.ref 123), some (.int bits), some (.int (nI N)), some (.int (nI k)), some (.int (nI w)), some (.int (nI 7))] [] (hp (va_up X1 164 r) J1 R1)) (f := fun i r => upd r i (-1)) (n := 7) (s := X1 164) (by
    intro i r hi
    have c0 : ¬ (7 : Int32) ≤ nI i := fun w => absurd ((nI_leI (a := 7) (by omega) (by omega)).mp w) (by omega)
    rw [xX12_least_99]
    simp (disch := omega) only [xX12_least_101, xX12_least_103, xX12_least_106, xX12_least_107, xX12_least_110, xX12_least_112, xX12_least_113, xX12_least_114, xX12_least_117, kd_123, fi_123_75, kd_163, ln_163, fi_123_76, kd_164, ln_164, ↓reduceIte, gd_t, hK_p, hN_p, hF_p, hI_p, hJ_p, hR_p, stI_p, stJ_p, stR_p, stA_p, va_rf_s, va_rf_n, clr_i, clr_l, clr_r, clr_n, clr_o, w8_0, w8_1i, w8_1r, w8_2ii, w8_2ri, w8_2ir, w8_2rr, w8_3, beq_self_eq_true, Bool.and_self, Bool.and_true, Bool.true_and, decide_true, Option.toList_some, Option.toList_none, List.cons_append, List.nil_append, Option.bind_some, if_true, if_false, Nat.reduceLeDiff, Nat.reduceLT, Nat.reduceBEq, Bool.or_false, Bool.false_or, Bool.or_true, Bool.true_or, nI_leI, nI_ltI, nI_eq, nI_clamp, inb_n, up_s, up_n, bx_uu, nI_1, ix6, nI_0n, pk_us, pk_un, ge_0n, c0]) (by
    intro r
    have c0 : (7 : Int32) ≤ nI 7 := by decide
    rw [xX12_least_99]
    simp (disch := omega) only [xX12_least_101, xX12_least_103, xX12_least_106, xX12_least_107, xX12_least_110, xX12_least_112, xX12_least_113, xX12_least_114, xX12_least_117, kd_123, fi_123_75, kd_163, ln_163, fi_123_76, kd_164, ln_164, ↓reduceIte, gd_t, hK_p, hN_p, hF_p, hI_p, hJ_p, hR_p, stI_p, stJ_p, stR_p, stA_p, va_rf_s, va_rf_n, clr_i, clr_l, clr_r, clr_n, clr_o, w8_0, w8_1i, w8_1r, w8_2ii, w8_2ri, w8_2ir, w8_2rr, w8_3, beq_self_eq_true, Bool.and_self, Bool.and_true, Bool.true_and, decide_true, Option.toList_some, Option.toList_none, List.cons_append, List.nil_append, Option.bind_some, if_true, if_false, Nat.reduceLeDiff, Nat.reduceLT, Nat.reduceBEq, Bool.or_false, Bool.false_or, Bool.or_true, Bool.true_or, nI_leI, nI_ltI, nI_eq, nI_clamp, inb_n, up_s, up_n, bx_uu, nI_1, ix6, nI_0n, pk_us, pk_un, ge_0n, c0])
  rw [itf_cp (v := fun _ => -1), nI_0, up_self] at hl
  generalize hX2 : va_up X1 164 (upd (cpF (fun _ => -1) (X1 164) 7) 0 0) = X2
  have x164 : X2 164 = upd (cpF (fun _ => -1) (X1 164) 7) 0 0 := by rw [← hX2, up_s]
  have k2 : kp I X2 := k1.tr (by rw [← hX2]; exact ⟨fun a ha => up_n (by unfold kpA at ha; omega), fun k _ => by rw [up_n (by decide)], fun a k h1 h2 _ => by rw [up_n (by omega)]⟩)
  have ep := pla_spec (d := d + 8) (I := X2) (J := J1) (R := R1)
  have m3 : mL I t lL lG n N bits (plaM X2) := ⟨plQ_pla h k2, by rw [pla_o (by decide) (by decide) (by decide), ← hX2, up_n (by decide)]; exact w1⟩
  obtain ⟨X4, e4, m4, f4, r4, v4⟩ := brn_L (d := d + 7) (J := J1) (R1 := R1) h m3
  obtain ⟨X5, J5, e5, m5, f5⟩ := kps_m (d := d + 2) (k := k) (J := J1) (R1 := R1) h m4 hN (fun c hc => (r4 c hc).1) (fun c hc => (r4 c hc).2) (hg_now h).1 (hg_now h).2
  have g5 : X5 164 = X2 164 := f5.trans (f4.trans (pla_o (by decide) (by decide) (by decide)))
  have i0 : inb (nI w) 7 = true := inb_n (by omega) (by omega)
  have iw : (nI w).toNatClampNeg = w := nI_clamp (by omega)
  have base : ∀ j, j < 7 → X2 164 j = if j = 0 then 0 else -1 := fun j hj => by
    rw [x164]
    by_cases z : j = 0
    · rw [if_pos z, z, pk_us]
    · rw [if_neg z, pk_un z, cpF_at hj]
  have head : E (C (d + 9)) MX12_least 54 [some (.ref 123), some (.int bits), some (.int (nI N)), some (.int (nI k)), some (.int (nI w)), some (.int 0)] [] (hp X J R1) = E (C (d + 9)) MX12_least 142 [some (.ref 123), some (.int bits), some (.int (nI N)), some (.int (nI k)), some (.int (nI w)), some (.int (nI 7))] [.int (kK I t lL lG n N k bits (I 62) (I 63))] (hp X5 J5 R1) := by
    rw [e1]
    simp only [xX12_least_96, xX12_least_97, ↓reduceIte, gd_t, hK_p, hN_p, hF_p, hI_p, hJ_p, hR_p, stI_p, stJ_p, stR_p, stA_p, va_rf_s, va_rf_n, clr_i, clr_l, clr_r, clr_n, clr_o, w8_0, w8_1i, w8_1r, w8_2ii, w8_2ri, w8_2ir, w8_2rr, w8_3, beq_self_eq_true, Bool.and_self, Bool.and_true, Bool.true_and, decide_true, Option.toList_some, Option.toList_none, List.cons_append, List.nil_append, Option.bind_some, if_true, if_false, Nat.reduceLeDiff, Nat.reduceLT, Nat.reduceBEq, Bool.or_false, Bool.false_or, Bool.or_true, Bool.true_or]
    rw [hl]
    simp (disch := omega) only [xX12_least_120, xX12_least_121, xX12_least_124, xX12_least_125, xX12_least_126, xX12_least_127, xX12_least_128, xX12_least_131, xX12_least_132, xX12_least_135, xX12_least_136, xX12_least_137, xX12_least_138, xX12_least_139, kd_123, fi_123_75, kd_163, ln_163, fi_123_76, kd_164, ln_164, kd_123, ↓reduceIte, gd_t, hK_p, hN_p, hF_p, hI_p, hJ_p, hR_p, stI_p, stJ_p, stR_p, stA_p, va_rf_s, va_rf_n, clr_i, clr_l, clr_r, clr_n, clr_o, w8_0, w8_1i, w8_1r, w8_2ii, w8_2ri, w8_2ir, w8_2rr, w8_3, beq_self_eq_true, Bool.and_self, Bool.and_true, Bool.true_and, decide_true, Option.toList_some, Option.toList_none, List.cons_append, List.nil_append, Option.bind_some, if_true, if_false, Nat.reduceLeDiff, Nat.reduceLT, Nat.reduceBEq, Bool.or_false, Bool.false_or, Bool.or_true, Bool.true_or, nI_leI, nI_ltI, nI_eq, nI_clamp, inb_n, up_s, up_n, bx_uu, nI_1, ix6, nI_0n, pk_us, pk_un, ge_0n, il_0, show (0 : Int32).toNatClampNeg = 0 from rfl, up_s, bx_uu, hX2, w8_4, ep, e4, e5]
  rw [head]
  unfold leR
  by_cases zk : kK I t lL lG n N k bits (I 62) (I 63) = 0
  · rw [if_neg (fun q => q zk)]
    obtain ⟨X6, J6, m6, e6⟩ := on1_o (d := d + 1) (k := k) (R1 := R1) h hN n 0 X5 J5 none (by omega) m5
    rw [nI_0] at e6
    have hone : lonF I t lL lG n nb N k bits = sT (fun c => sT (fun to => if ok1 I t lL lG n N k bits c to = true then some (c, to) else none) (nb * 10) 0) n 0 := rfl
    rw [← hone] at e6
    have ho6 : ∀ v, E (C (d + 1 + 7)) MX12_oneKeeps 3 [some (.ref 123), some (.int bits), some (.int (nI N)), some (.int (nI k)), some (.int 0), none] [] (hp X5 J5 R1) = v → C (d + 9) MX12_oneKeeps [.ref 123, .int bits, .int (nI N), .int (nI k)] (hp X5 J5 R1) = v := by
      intro v hv
      rw [← hv, eX12_oneKeeps]
      simp only [xX12_oneKeeps_0, xX12_oneKeeps_1, ↓reduceIte, gd_t, hK_p, hN_p, hF_p, hI_p, hJ_p, hR_p, stI_p, stJ_p, stR_p, stA_p, va_rf_s, va_rf_n, clr_i, clr_l, clr_r, clr_n, clr_o, w8_0, w8_1i, w8_1r, w8_2ii, w8_2ri, w8_2ir, w8_2rr, w8_3, beq_self_eq_true, Bool.and_self, Bool.and_true, Bool.true_and, decide_true, Option.toList_some, Option.toList_none, List.cons_append, List.nil_append, Option.bind_some, if_true, if_false, Nat.reduceLeDiff, Nat.reduceLT, Nat.reduceBEq, Bool.or_false, Bool.false_or, Bool.or_true, Bool.true_or]
    cases ho : lonF I t lL lG n nb N k bits with
    | some r =>
      rw [ho] at e6
      dsimp only at e6 ⊢
      obtain ⟨e6, g6⟩ := e6
      have e6' := ho6 _ e6
      refine ⟨X6, J6, ?_, m6.1.1⟩
      have hv : X6 164 w = if w = 0 then 1 else if w = 1 then nI r.1 else if w = 2 then nI (r.2 / 10) else if w = 3 then nI (r.2 % 10) else -1 := by
        rw [g6, g5]
        rcases (show w = 0 ∨ w = 1 ∨ w = 2 ∨ w = 3 ∨ (4 ≤ w ∧ w < 7) by omega) with rfl | rfl | rfl | rfl | ⟨q1, q2⟩
        · simp (disch := omega) only [pk_us, pk_un, if_true]
        · simp (disch := omega) only [pk_us, pk_un]; rfl
        · simp (disch := omega) only [pk_us, pk_un]; rfl
        · simp (disch := omega) only [pk_us, pk_un]; rfl
        · simp (disch := omega) only [pk_un]
          rw [base w q2, if_neg (by omega), if_neg (by omega), if_neg (by omega), if_neg (by omega), if_neg (by omega)]
      simp (disch := omega) only [xX12_least_142, xX12_least_145, xX12_least_146, xX12_least_147, xX12_least_148, xX12_least_149, xX12_least_152, xX12_least_155, xX12_least_156, xX12_least_157, xX12_least_158, xX12_least_159, xX12_least_162, xX12_least_165, xX12_least_167, xX12_least_168, xX12_least_169, xX12_least_172, xX12_least_174, xX12_least_175, kd_123, fi_123_75, kd_163, ln_163, fi_123_76, kd_164, ln_164, kd_123, ↓reduceIte, gd_t, hK_p, hN_p, hF_p, hI_p, hJ_p, hR_p, stI_p, stJ_p, stR_p, stA_p, va_rf_s, va_rf_n, clr_i, clr_l, clr_r, clr_n, clr_o, w8_0, w8_1i, w8_1r, w8_2ii, w8_2ri, w8_2ir, w8_2rr, w8_3, beq_self_eq_true, Bool.and_self, Bool.and_true, Bool.true_and, decide_true, Option.toList_some, Option.toList_none, List.cons_append, List.nil_append, Option.bind_some, if_true, if_false, Nat.reduceLeDiff, Nat.reduceLT, Nat.reduceBEq, Bool.or_false, Bool.false_or, Bool.or_true, Bool.true_or, w8_4, zk, e6', n1, i0, iw, hv, not_true_eq_false, not_false_eq_true]
    | none =>
      rw [ho] at e6
      dsimp only at e6 ⊢
      obtain ⟨e6, g6⟩ := e6
      have e6' := ho6 _ e6
      obtain ⟨X7, J7, m7, e7⟩ := twk_a (d := d) (k := k) (R1 := R1) h hN n 0 X6 J6 none none (by omega) m6
      rw [nI_0] at e7
      have htwo : ltwF I t lL lG n nb N k bits = sT (fun a => sT (fun to => sT (fun b => sT (ok2C I t lL lG n N k bits a to b) (nb * 10) 0) (n - (a + 1)) (a + 1)) (nb * 10) 0) n 0 := rfl
      rw [← htwo] at e7
      have ho7 : ∀ v, E (C (d + 8)) MX12_twoKeep 3 [some (.ref 123), some (.int bits), some (.int (nI N)), some (.int (nI k)), some (.int 0), none, none] [] (hp X6 J6 R1) = v → C (d + 9) MX12_twoKeep [.ref 123, .int bits, .int (nI N), .int (nI k)] (hp X6 J6 R1) = v := by
        intro v hv
        rw [← hv, eX12_twoKeep]
        simp only [xX12_twoKeep_0, xX12_twoKeep_1, ↓reduceIte, gd_t, hK_p, hN_p, hF_p, hI_p, hJ_p, hR_p, stI_p, stJ_p, stR_p, stA_p, va_rf_s, va_rf_n, clr_i, clr_l, clr_r, clr_n, clr_o, w8_0, w8_1i, w8_1r, w8_2ii, w8_2ri, w8_2ir, w8_2rr, w8_3, beq_self_eq_true, Bool.and_self, Bool.and_true, Bool.true_and, decide_true, Option.toList_some, Option.toList_none, List.cons_append, List.nil_append, Option.bind_some, if_true, if_false, Nat.reduceLeDiff, Nat.reduceLT, Nat.reduceBEq, Bool.or_false, Bool.false_or, Bool.or_true, Bool.true_or]
      cases hq : ltwF I t lL lG n nb N k bits with
      | some r =>
        rw [hq] at e7
        dsimp only at e7 ⊢
        obtain ⟨e7, g7⟩ := e7
        have e7' := ho7 _ e7
        refine ⟨X7, J7, ?_, m7.1.1⟩
        have hv : X7 164 w = if w = 0 then 2 else if w = 1 then nI r.1 else if w = 2 then nI (r.2.1 / 10) else if w = 3 then nI (r.2.1 % 10) else if w = 4 then nI r.2.2.1 else if w = 5 then nI (r.2.2.2 / 10) else nI (r.2.2.2 % 10) := by
          rw [g7]
          unfold fn2
          rcases (show w = 0 ∨ w = 1 ∨ w = 2 ∨ w = 3 ∨ w = 4 ∨ w = 5 ∨ w = 6 by omega) with rfl | rfl | rfl | rfl | rfl | rfl | rfl <;> simp (disch := omega) only [pk_us, pk_un] <;> rfl
        simp (disch := omega) only [xX12_least_142, xX12_least_145, xX12_least_146, xX12_least_147, xX12_least_148, xX12_least_149, xX12_least_152, xX12_least_155, xX12_least_156, xX12_least_157, xX12_least_158, xX12_least_159, xX12_least_162, xX12_least_165, xX12_least_167, xX12_least_168, xX12_least_169, xX12_least_172, xX12_least_174, xX12_least_175, kd_123, fi_123_75, kd_163, ln_163, fi_123_76, kd_164, ln_164, kd_123, ↓reduceIte, gd_t, hK_p, hN_p, hF_p, hI_p, hJ_p, hR_p, stI_p, stJ_p, stR_p, stA_p, va_rf_s, va_rf_n, clr_i, clr_l, clr_r, clr_n, clr_o, w8_0, w8_1i, w8_1r, w8_2ii, w8_2ri, w8_2ir, w8_2rr, w8_3, beq_self_eq_true, Bool.and_self, Bool.and_true, Bool.true_and, decide_true, Option.toList_some, Option.toList_none, List.cons_append, List.nil_append, Option.bind_some, if_true, if_false, Nat.reduceLeDiff, Nat.reduceLT, Nat.reduceBEq, Bool.or_false, Bool.false_or, Bool.or_true, Bool.true_or, w8_4, zk, e6', e7', n1, i0, iw, hv, not_true_eq_false, not_false_eq_true]
      | none =>
        rw [hq] at e7
        dsimp only at e7 ⊢
        obtain ⟨e7, g7⟩ := e7
        have e7' := ho7 _ e7
        refine ⟨X7, J7, ?_, m7.1.1⟩
        simp (disch := omega) only [xX12_least_142, xX12_least_145, xX12_least_146, xX12_least_147, xX12_least_148, xX12_least_149, xX12_least_152, xX12_least_155, xX12_least_156, xX12_least_157, xX12_least_158, xX12_least_159, xX12_least_162, xX12_least_165, xX12_least_167, xX12_least_168, xX12_least_169, xX12_least_172, xX12_least_174, xX12_least_175, kd_123, fi_123_75, kd_163, ln_163, fi_123_76, kd_164, ln_164, kd_123, ↓reduceIte, gd_t, hK_p, hN_p, hF_p, hI_p, hJ_p, hR_p, stI_p, stJ_p, stR_p, stA_p, va_rf_s, va_rf_n, clr_i, clr_l, clr_r, clr_n, clr_o, w8_0, w8_1i, w8_1r, w8_2ii, w8_2ri, w8_2ir, w8_2rr, w8_3, beq_self_eq_true, Bool.and_self, Bool.and_true, Bool.true_and, decide_true, Option.toList_some, Option.toList_none, List.cons_append, List.nil_append, Option.bind_some, if_true, if_false, Nat.reduceLeDiff, Nat.reduceLT, Nat.reduceBEq, Bool.or_false, Bool.false_or, Bool.or_true, Bool.true_or, w8_4, zk, e6', e7', not_true_eq_false]
  · rw [if_pos zk]
    refine ⟨X5, J5, ?_, m5.1.1⟩
    have hv : X5 164 w = if w = 0 then 0 else -1 := by rw [g5]; exact base w (by omega)
    simp (disch := omega) only [xX12_least_142, xX12_least_145, xX12_least_146, xX12_least_147, xX12_least_148, xX12_least_149, xX12_least_152, xX12_least_155, xX12_least_156, xX12_least_157, xX12_least_158, xX12_least_159, xX12_least_162, xX12_least_165, xX12_least_167, xX12_least_168, xX12_least_169, xX12_least_172, xX12_least_174, xX12_least_175, kd_123, fi_123_75, kd_163, ln_163, fi_123_76, kd_164, ln_164, kd_123, ↓reduceIte, gd_t, hK_p, hN_p, hF_p, hI_p, hJ_p, hR_p, stI_p, stJ_p, stR_p, stA_p, va_rf_s, va_rf_n, clr_i, clr_l, clr_r, clr_n, clr_o, w8_0, w8_1i, w8_1r, w8_2ii, w8_2ri, w8_2ir, w8_2rr, w8_3, beq_self_eq_true, Bool.and_self, Bool.and_true, Bool.true_and, decide_true, Option.toList_some, Option.toList_none, List.cons_append, List.nil_append, Option.bind_some, if_true, if_false, Nat.reduceLeDiff, Nat.reduceLT, Nat.reduceBEq, Bool.or_false, Bool.false_or, Bool.or_true, Bool.true_or, zk, i0, iw, hv, not_false_eq_true]
end LEP

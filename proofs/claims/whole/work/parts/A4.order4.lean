-- ORDER, 4: a line is tried, both
section TRZ
variable {I X Q : Mem} {J : MemL} {R R' R1 : MemR} {t t' n nb nm fL lL fG lG st : Nat}
theorem try_c {d N g w : Nat} {b : Option (Nat × List Nat)} {l : List Nat} (h : cAll I R t t' n nb nm fL lL fG lG st) (hN : N ≤ 300) (hg : g ≤ 99) (hl : l.length = n) (hlt : belL 6 l) (o : ordC I X n N g w b l) (rq : rk R R') : ∃ X1 J1 R1, C (d + 5) MX6_tryLine [.ref 117, .ref 60] (hp X J R') = some (none, hp X1 J1 R1) ∧ ordC I X1 n N g w (upB (fsL I t lL lG n N g w l) b l) l ∧ rk R R1 := by
  have hn6 := h.n6
  have ht2 := te_hi h.te
  have hm : isMo 88 := Or.inr (Or.inr rfl)
  obtain ⟨o1, o5, o6, o7, o4, oL, oB⟩ := o
  have ox : ∀ a, a < 60 → X a = I a := fun a ha => o1 a (Or.inl ⟨by unfold kpA; omega, by omega, by omega⟩)
  have x60 : X 60 = I 60 := o1 60 (Or.inl ⟨by unfold kpA; omega, by omega, by omega⟩)
  have x62 : X 62 = I 62 := o1 62 (Or.inl ⟨by unfold kpA; omega, by omega, by omega⟩)
  have x63 : X 63 = I 63 := o1 63 (Or.inl ⟨by unfold kpA; omega, by omega, by omega⟩)
  have hR60 : R' 60 0 = some t := by rw [rq 60 (by decide)]; exact h.now.1
  have hnc : X (t + 5) 1 = nI n := by rw [ox _ (by omega)]; exact h.nc
  have h60 : X 60 1 = nI n := by rw [x60]; exact h.now.2.1
  have hok : okL X t lL lG := by
    have := cLws_okL h.lws
    unfold okL at this ⊢
    simp (disch := omega) only [ox]
    exact this
  have eb := beg_spec (d := d) (m := 88) (t := t) (b := 62) (p := 63) (n := n) (I := X) (J := J) (R := R') hm h.te kd_62 ln_62 kd_63 ln_63 (by omega) (by omega) hnc hn6
  have s1 := cBeg2 (R := R') (m := 88) (b := 62) (p := 63) (B := I 62) (Pl := I 63) hm h.te hnc hn6 hok (by rw [ox _ (by omega)]; exact phO_txt h) (by rw [x62]; exact eqR.rf) (by rw [x63]; exact eqR.rf)
  rw [P0_o h.te ox] at s1
  have r1 : rk R (va_up R' 88 (va_up (R' 88) 0 (some t))) := fun a ha => by rw [up_n (by omega)]; exact rq a ha
  have q6 : ∀ c, c < n → begM X 88 t 62 63 n (88 + 6) c = I (t + 14) c := fun c hc => by rw [begM_6, cpF_at (by omega), ox _ (by omega)]
  have oq : ∀ a, a < 88 ∨ 102 ≤ a → begM X 88 t 62 63 n a = X a := fun a ha => begM_o (by omega)
  generalize hRe : va_up R' 88 (va_up (R' 88) 0 (some t)) = R1 at *
  generalize hQe : begM X 88 t 62 63 n = Q1 at *
  have hR1 : R1 60 0 = some t := by rw [r1 60 (by decide)]; exact h.now.1
  -- the starts
  have u118 : Q1 118 = X 118 := oq 118 (by omega)
  have u117 : Q1 117 = X 117 := oq 117 (by omega)
  have u60 : Q1 60 1 = nI n := by rw [oq 60 (by omega)]; exact h60
  have ig : ∀ i, nI i * nI g = nI (i * g) := fun i => pk_mul i g
  generalize hBd : (if b.isNone = true then N else match b with | none => 0 | some p => p.1) = B
  have hB : B ≤ 300 := by
    cases b with
    | none => simp at hBd; omega
    | some p => simp at hBd; have := oB.2.1; omega
  have hl1 := for_0 (P := fun i (r : Nat → Int32) => E (C (d + 4)) MX6_tryLine 42 [some (.ref 117), some (.ref 60), some (.int (nI B)), some (.int (nI i)), none] [] (hp (va_up Q1 94 r) J R1)) (fin := fun r => E (C (d + 4)) MX6_tryLine 76 [some (.ref 117), some (.ref 60), some (.int (nI B)), some (.int (nI n)), none] [] (hp (va_up Q1 94 r) J R1)) (f := fun i r => upd r (l.getD i 0) (nI (i * g))) (n := n) (s := Q1 94) (by
    intro i r hi
    have c0 : ¬ n ≤ i := by omega
    have v1 : X 118 i = nI (l.getD i 0) := oL i (by omega)
    have v2 := hlt i (by omega)
    rw [xX6_tryLine_42]
    simp (disch := omega) only [xX6_tryLine_43, xX6_tryLine_44, xX6_tryLine_47, xX6_tryLine_50, xX6_tryLine_51, xX6_tryLine_54, xX6_tryLine_57, xX6_tryLine_58, xX6_tryLine_61, xX6_tryLine_62, xX6_tryLine_63, xX6_tryLine_64, xX6_tryLine_65, xX6_tryLine_68, xX6_tryLine_69, xX6_tryLine_70, xX6_tryLine_73, kd_117, fi_117_0, kd_88, fi_117_1, kd_118, ln_118, fi_117_2, kd_119, ln_119, kd_60, fi_60_6, kd_62, ln_62, fi_60_7, kd_63, ln_63, fi_60_10, kd_66, ln_66, fi_88_6, kd_90, ln_90, fi_88_7, kd_91, ln_91, fi_88_10, kd_94, ln_94, ↓reduceIte, gd_t, hK_p, hN_p, hF_p, hI_p, hJ_p, hR_p, stI_p, stJ_p, stR_p, stA_p, va_rf_s, va_rf_n, clr_i, clr_l, clr_r, clr_n, clr_o, w8_0, w8_1i, w8_1r, w8_2ii, w8_2ri, w8_2ir, w8_2rr, w8_3, beq_self_eq_true, Bool.and_self, Bool.and_true, Bool.true_and, decide_true, Option.toList_some, Option.toList_none, List.cons_append, List.nil_append, Option.bind_some, if_true, if_false, Nat.reduceLeDiff, Nat.reduceLT, Nat.reduceBEq, Bool.or_false, Bool.false_or, Bool.or_true, Bool.true_or, nI_leI, nI_ltI, nI_eq, nI_clamp, inb_n, up_s, up_n, bx_uu, nI_1, ix6, nI_0n, pk_us, pk_un, ge_0n, u60, u118, u117, v1, o6, ig, c0]) (by
    intro r
    have c0 : n ≤ n := Nat.le_refl n
    rw [xX6_tryLine_42]
    simp (disch := omega) only [xX6_tryLine_43, xX6_tryLine_44, xX6_tryLine_47, xX6_tryLine_50, xX6_tryLine_51, xX6_tryLine_54, xX6_tryLine_57, xX6_tryLine_58, xX6_tryLine_61, xX6_tryLine_62, xX6_tryLine_63, xX6_tryLine_64, xX6_tryLine_65, xX6_tryLine_68, xX6_tryLine_69, xX6_tryLine_70, xX6_tryLine_73, kd_117, fi_117_0, kd_88, fi_117_1, kd_118, ln_118, fi_117_2, kd_119, ln_119, kd_60, fi_60_6, kd_62, ln_62, fi_60_7, kd_63, ln_63, fi_60_10, kd_66, ln_66, fi_88_6, kd_90, ln_90, fi_88_7, kd_91, ln_91, fi_88_10, kd_94, ln_94, ↓reduceIte, gd_t, hK_p, hN_p, hF_p, hI_p, hJ_p, hR_p, stI_p, stJ_p, stR_p, stA_p, va_rf_s, va_rf_n, clr_i, clr_l, clr_r, clr_n, clr_o, w8_0, w8_1i, w8_1r, w8_2ii, w8_2ri, w8_2ir, w8_2rr, w8_3, beq_self_eq_true, Bool.and_self, Bool.and_true, Bool.true_and, decide_true, Option.toList_some, Option.toList_none, List.cons_append, List.nil_append, Option.bind_some, if_true, if_false, Nat.reduceLeDiff, Nat.reduceLT, Nat.reduceBEq, Bool.or_false, Bool.false_or, Bool.or_true, Bool.true_or, nI_leI, nI_ltI, nI_eq, nI_clamp, inb_n, up_s, up_n, bx_uu, nI_1, ix6, nI_0n, pk_us, pk_un, ge_0n, u60, c0])
  rw [nI_0, up_self] at hl1
  have s2 : cSt (va_up Q1 94 (itf (fun i r => upd r (l.getD i 0) (nI (i * g))) n 0 (Q1 94))) R1 88 t lL lG n (odP I t lL lG n g l) 0 := by
    refine cSt_567 hm h.te s1 (fun a _ h6 _ => up_n h6) ?_ ?_ ?_ (phO_txt h)
    · rw [up_n (by decide)]; exact s1.1.2.2.2.2.2.2.1
    · intro i hi j hj
      rw [up_s]
      have := staL_eq (l := l) (g := g) (n := n) (m := n) (r := Q1 94) (r' := I (t + 14)) q6 i hi
      unfold staL at this
      rw [this]
      rfl
    · rw [up_n (by decide)]; exact s1.2.2.1.1
  generalize hYe : va_up Q1 94 (itf (fun i r => upd r (l.getD i 0) (nI (i * g))) n 0 (Q1 94)) = Y at *
  have yo : ∀ a, a < 88 ∨ 102 ≤ a → Y a = X a := fun a ha => by rw [← hYe, up_n (by omega), oq a ha]
  obtain ⟨X1, J1, e1, ox1, ux⟩ := try_l (d := d) (w := w) (B := B) (R1 := R1) h.te hn6 hN hB N 0 Y J none (by omega) (fun x hx => by cases hx) s2 (by rw [yo 117 (by omega)]; exact o5) (by rw [yo 117 (by omega)]; exact o7)
  rw [nI_0] at e1
  have hfs : fsN (fun j => tgR (odP I t lL lG n g l) n (nI w) (j + 1)) N 0 none = fsL I t lL lG n N g w l := rfl
  rw [hfs] at ux
  refine ⟨X1, J1, R1, ?_, ?_, r1⟩
  · rw [eX6_tryLine]
    cases b with
    | none =>
      simp at hBd
      subst hBd
      have o3 : X 117 3 = -2 := oB
      simp (disch := omega) only [xX6_tryLine_0, xX6_tryLine_1, xX6_tryLine_4, xX6_tryLine_6, xX6_tryLine_9, xX6_tryLine_10, xX6_tryLine_13, xX6_tryLine_16, xX6_tryLine_17, xX6_tryLine_20, xX6_tryLine_21, xX6_tryLine_22, xX6_tryLine_25, xX6_tryLine_26, xX6_tryLine_29, xX6_tryLine_30, xX6_tryLine_33, xX6_tryLine_34, xX6_tryLine_37, xX6_tryLine_40, xX6_tryLine_41, kd_117, fi_117_0, kd_88, fi_117_1, kd_118, ln_118, fi_117_2, kd_119, ln_119, kd_60, fi_60_6, kd_62, ln_62, fi_60_7, kd_63, ln_63, fi_60_10, kd_66, ln_66, kd_88, kd_62, kd_63, ↓reduceIte, gd_t, hK_p, hN_p, hF_p, hI_p, hJ_p, hR_p, stI_p, stJ_p, stR_p, stA_p, va_rf_s, va_rf_n, clr_i, clr_l, clr_r, clr_n, clr_o, w8_0, w8_1i, w8_1r, w8_2ii, w8_2ri, w8_2ir, w8_2rr, w8_3, beq_self_eq_true, Bool.and_self, Bool.and_true, Bool.true_and, decide_true, Option.toList_some, Option.toList_none, List.cons_append, List.nil_append, Option.bind_some, if_true, if_false, Nat.reduceLeDiff, Nat.reduceLT, Nat.reduceBEq, Bool.or_false, Bool.false_or, Bool.or_true, Bool.true_or, o3, o5, hR60, w8_4, eb, not_true_eq_false]
      rw [hl1]
      simp (disch := omega) only [xX6_tryLine_76, xX6_tryLine_78, xX6_tryLine_79, xX6_tryLine_80, ↓reduceIte, gd_t, hK_p, hN_p, hF_p, hI_p, hJ_p, hR_p, stI_p, stJ_p, stR_p, stA_p, va_rf_s, va_rf_n, clr_i, clr_l, clr_r, clr_n, clr_o, w8_0, w8_1i, w8_1r, w8_2ii, w8_2ri, w8_2ir, w8_2rr, w8_3, beq_self_eq_true, Bool.and_self, Bool.and_true, Bool.true_and, decide_true, Option.toList_some, Option.toList_none, List.cons_append, List.nil_append, Option.bind_some, if_true, if_false, Nat.reduceLeDiff, Nat.reduceLT, Nat.reduceBEq, Bool.or_false, Bool.false_or, Bool.or_true, Bool.true_or]
      exact e1
    | some p =>
      simp at hBd
      subst hBd
      have o3 : X 117 3 = nI p.1 := oB.1
      have e2 := nI_n2 (j := p.1) (by omega)
      simp (disch := omega) only [xX6_tryLine_0, xX6_tryLine_1, xX6_tryLine_4, xX6_tryLine_6, xX6_tryLine_9, xX6_tryLine_10, xX6_tryLine_13, xX6_tryLine_16, xX6_tryLine_17, xX6_tryLine_20, xX6_tryLine_21, xX6_tryLine_22, xX6_tryLine_25, xX6_tryLine_26, xX6_tryLine_29, xX6_tryLine_30, xX6_tryLine_33, xX6_tryLine_34, xX6_tryLine_37, xX6_tryLine_40, xX6_tryLine_41, kd_117, fi_117_0, kd_88, fi_117_1, kd_118, ln_118, fi_117_2, kd_119, ln_119, kd_60, fi_60_6, kd_62, ln_62, fi_60_7, kd_63, ln_63, fi_60_10, kd_66, ln_66, kd_88, kd_62, kd_63, ↓reduceIte, gd_t, hK_p, hN_p, hF_p, hI_p, hJ_p, hR_p, stI_p, stJ_p, stR_p, stA_p, va_rf_s, va_rf_n, clr_i, clr_l, clr_r, clr_n, clr_o, w8_0, w8_1i, w8_1r, w8_2ii, w8_2ri, w8_2ir, w8_2rr, w8_3, beq_self_eq_true, Bool.and_self, Bool.and_true, Bool.true_and, decide_true, Option.toList_some, Option.toList_none, List.cons_append, List.nil_append, Option.bind_some, if_true, if_false, Nat.reduceLeDiff, Nat.reduceLT, Nat.reduceBEq, Bool.or_false, Bool.false_or, Bool.or_true, Bool.true_or, o3, e2, hR60, w8_4, eb, not_false_eq_true]
      rw [hl1]
      simp (disch := omega) only [xX6_tryLine_76, xX6_tryLine_78, xX6_tryLine_79, xX6_tryLine_80, ↓reduceIte, gd_t, hK_p, hN_p, hF_p, hI_p, hJ_p, hR_p, stI_p, stJ_p, stR_p, stA_p, va_rf_s, va_rf_n, clr_i, clr_l, clr_r, clr_n, clr_o, w8_0, w8_1i, w8_1r, w8_2ii, w8_2ri, w8_2ir, w8_2rr, w8_3, beq_self_eq_true, Bool.and_self, Bool.and_true, Bool.true_and, decide_true, Option.toList_some, Option.toList_none, List.cons_append, List.nil_append, Option.bind_some, if_true, if_false, Nat.reduceLeDiff, Nat.reduceLT, Nat.reduceBEq, Bool.or_false, Bool.false_or, Bool.or_true, Bool.true_or]
      exact e1
  · have k1 : tkO I X1 := fun a ha => by
      rw [ox1 a (by unfold kpA at ha; omega) (by omega) (by omega), yo a (by unfold kpA at ha; omega)]
      exact o1 a ha
    have r118 : X1 118 = X 118 := by rw [ox1 118 (by omega) (by omega) (by omega), yo 118 (by omega)]
    have keep : X1 117 = Y 117 ∧ X1 119 = Y 119 → ordC I X1 n N g w b l := by
      rintro ⟨a1, a2⟩
      rw [yo 117 (by omega)] at a1
      rw [yo 119 (by omega)] at a2
      unfold ordC
      rw [a1, a2, r118]
      exact ⟨k1, o5, o6, o7, o4, oL, oB⟩
    have chg : ∀ f, f < N → X1 117 = upd (Y 117) 3 (nI f) ∧ X1 119 = cpF (Y 118) (Y 119) 6 → ordC I X1 n N g w (some (f, l)) l := by
      rintro f hf ⟨a1, a2⟩
      rw [yo 117 (by omega)] at a1
      rw [yo 119 (by omega), yo 118 (by omega)] at a2
      unfold ordC
      rw [a1, a2, r118]
      refine ⟨k1, by rw [pk_un (by decide)]; exact o5, by rw [pk_un (by decide)]; exact o6, by rw [pk_un (by decide)]; exact o7, by rw [pk_un (by decide)]; exact o4, oL, ?_⟩
      dsimp only
      refine ⟨by rw [pk_us], hf, hl, fun i hi => ?_⟩
      rw [cpF_at (by omega)]
      exact oL i hi
    unfold upB
    have hlt2 : ∀ f, fsL I t lL lG n N g w l = some f → f < N := fun f hf => by
      have := fsN_lt N 0 none f (fun x hx => by cases hx) hf
      omega
    generalize fsL I t lL lG n N g w l = F at *
    cases F with
    | none => exact keep (ux.2 (Or.inl rfl))
    | some f =>
      have hfN := hlt2 f rfl
      cases b with
      | none =>
        simp at hBd
        subst hBd
        exact chg f hfN (ux.1 f rfl hfN)
      | some p =>
        simp at hBd
        subst hBd
        dsimp only
        by_cases z : f < p.1
        · rw [if_pos z]
          exact chg f hfN (ux.1 f rfl z)
        · rw [if_neg z]
          exact keep (ux.2 (Or.inr ⟨f, rfl, z⟩))
-- the model
theorem frs_m {d N w : Nat} {P : PR} (hph : phO n P.ph) (hN : N ≤ 300) : ∀ (q j : Nat) (X : Mem) (J : MemL) (fs : Option Nat), j + q = N → (∀ x, fs = some x → x < j) → mSt X n fL lL fG lG P j → ∃ X1 J1, E (C (d + 5)) MX12_fromStep 5 [some (.ref 123), some (.int (nI N)), some (.int (nI w)), some (.int (an fs (-1))), some (.int (nI j))] [] (hp X J R1) = some (some (.int (an (fsN (fun j => tgR P n (nI w) (j + 1)) q j fs) (-1))), hp X1 J1 R1) ∧ rsM X X1 := by
  have n1 : ¬ (1 : Int32) = 0 := by decide
  intro q
  induction q with
  | zero =>
    intro j X J fs hj hfs s
    obtain rfl : j = N := by omega
    have c0 : j ≤ j := Nat.le_refl j
    refine ⟨X, J, ?_, rsM.rf⟩
    unfold fsN
    rw [xX12_fromStep_5]
    simp (disch := omega) only [xX12_fromStep_7, xX12_fromStep_8, xX12_fromStep_11, xX12_fromStep_12, xX12_fromStep_14, xX12_fromStep_16, xX12_fromStep_19, xX12_fromStep_20, xX12_fromStep_21, xX12_fromStep_24, xX12_fromStep_27, xX12_fromStep_28, xX12_fromStep_29, xX12_fromStep_32, xX12_fromStep_33, xX12_fromStep_36, xX12_fromStep_38, xX12_fromStep_39, xX12_fromStep_42, xX12_fromStep_45, xX12_fromStep_46, kd_123, ↓reduceIte, gd_t, hK_p, hN_p, hF_p, hI_p, hJ_p, hR_p, stI_p, stJ_p, stR_p, stA_p, va_rf_s, va_rf_n, clr_i, clr_l, clr_r, clr_n, clr_o, w8_0, w8_1i, w8_1r, w8_2ii, w8_2ri, w8_2ir, w8_2rr, w8_3, beq_self_eq_true, Bool.and_self, Bool.and_true, Bool.true_and, decide_true, Option.toList_some, Option.toList_none, List.cons_append, List.nil_append, Option.bind_some, if_true, if_false, Nat.reduceLeDiff, Nat.reduceLT, Nat.reduceBEq, Bool.or_false, Bool.false_or, Bool.or_true, Bool.true_or, nI_leI, nI_ltI, nI_eq, nI_clamp, inb_n, up_s, up_n, bx_uu, nI_1, ix6, nI_0n, pk_us, pk_un, ge_0n, c0]
  | succ q ih =>
    intro j X J fs hj hfs s
    have c0 : ¬ N ≤ j := by omega
    obtain ⟨X1, J1, e1, s1, o1⟩ := mSt_step (d := d) (J := J) (R := R1) (by omega) s
    have e2 := mSt_tog (d := d + 2) (J := J1) (R := R1) (w := nI w) hph s1
    unfold fsN
    by_cases z : tgR P n (nI w) (j + 1) = 0
    · rw [if_pos z]
      obtain ⟨X2, J2, e3, o2⟩ := ih (j + 1) X1 J1 none (by omega) (fun x hx => by cases hx) s1
      refine ⟨X2, J2, ?_, o1.tr o2⟩
      rw [← e3, xX12_fromStep_5]
      simp (disch := omega) only [xX12_fromStep_7, xX12_fromStep_8, xX12_fromStep_11, xX12_fromStep_12, xX12_fromStep_14, xX12_fromStep_16, xX12_fromStep_19, xX12_fromStep_20, xX12_fromStep_21, xX12_fromStep_24, xX12_fromStep_27, xX12_fromStep_28, xX12_fromStep_29, xX12_fromStep_32, xX12_fromStep_33, xX12_fromStep_36, xX12_fromStep_38, xX12_fromStep_39, xX12_fromStep_42, kd_123, kd_123, ↓reduceIte, gd_t, hK_p, hN_p, hF_p, hI_p, hJ_p, hR_p, stI_p, stJ_p, stR_p, stA_p, va_rf_s, va_rf_n, clr_i, clr_l, clr_r, clr_n, clr_o, w8_0, w8_1i, w8_1r, w8_2ii, w8_2ri, w8_2ir, w8_2rr, w8_3, beq_self_eq_true, Bool.and_self, Bool.and_true, Bool.true_and, decide_true, Option.toList_some, Option.toList_none, List.cons_append, List.nil_append, Option.bind_some, if_true, if_false, Nat.reduceLeDiff, Nat.reduceLT, Nat.reduceBEq, Bool.or_false, Bool.false_or, Bool.or_true, Bool.true_or, nI_leI, nI_ltI, nI_eq, nI_clamp, inb_n, up_s, up_n, bx_uu, nI_1, ix6, nI_0n, pk_us, pk_un, ge_0n, c0, e1, e2, z, an, not_true_eq_false]
    · rw [if_neg z]
      cases fs with
      | none =>
        obtain ⟨X2, J2, e3, o2⟩ := ih (j + 1) X1 J1 (some j) (by omega) (fun x hx => by cases hx; omega) s1
        refine ⟨X2, J2, ?_, o1.tr o2⟩
        have m1 : ¬ (0 : Int32) ≤ -1 := by decide
        rw [← e3, xX12_fromStep_5]
        simp (disch := omega) only [xX12_fromStep_7, xX12_fromStep_8, xX12_fromStep_11, xX12_fromStep_12, xX12_fromStep_14, xX12_fromStep_16, xX12_fromStep_19, xX12_fromStep_20, xX12_fromStep_21, xX12_fromStep_24, xX12_fromStep_27, xX12_fromStep_28, xX12_fromStep_29, xX12_fromStep_32, xX12_fromStep_33, xX12_fromStep_36, xX12_fromStep_38, xX12_fromStep_39, xX12_fromStep_42, kd_123, kd_123, ↓reduceIte, gd_t, hK_p, hN_p, hF_p, hI_p, hJ_p, hR_p, stI_p, stJ_p, stR_p, stA_p, va_rf_s, va_rf_n, clr_i, clr_l, clr_r, clr_n, clr_o, w8_0, w8_1i, w8_1r, w8_2ii, w8_2ri, w8_2ir, w8_2rr, w8_3, beq_self_eq_true, Bool.and_self, Bool.and_true, Bool.true_and, decide_true, Option.toList_some, Option.toList_none, List.cons_append, List.nil_append, Option.bind_some, if_true, if_false, Nat.reduceLeDiff, Nat.reduceLT, Nat.reduceBEq, Bool.or_false, Bool.false_or, Bool.or_true, Bool.true_or, nI_leI, nI_ltI, nI_eq, nI_clamp, inb_n, up_s, up_n, bx_uu, nI_1, ix6, nI_0n, pk_us, pk_un, ge_0n, c0, e1, e2, z, an, m1, not_false_eq_true]
      | some x =>
        have hx := hfs x rfl
        obtain ⟨X2, J2, e3, o2⟩ := ih (j + 1) X1 J1 (some x) (by omega) (fun y hy => by cases hy; omega) s1
        refine ⟨X2, J2, ?_, o1.tr o2⟩
        have m1 : (0 : Int32) ≤ nI x := nI_pos' (by omega)
        rw [← e3, xX12_fromStep_5]
        simp (disch := omega) only [xX12_fromStep_7, xX12_fromStep_8, xX12_fromStep_11, xX12_fromStep_12, xX12_fromStep_14, xX12_fromStep_16, xX12_fromStep_19, xX12_fromStep_20, xX12_fromStep_21, xX12_fromStep_24, xX12_fromStep_27, xX12_fromStep_28, xX12_fromStep_29, xX12_fromStep_32, xX12_fromStep_33, xX12_fromStep_36, xX12_fromStep_38, xX12_fromStep_39, xX12_fromStep_42, kd_123, kd_123, ↓reduceIte, gd_t, hK_p, hN_p, hF_p, hI_p, hJ_p, hR_p, stI_p, stJ_p, stR_p, stA_p, va_rf_s, va_rf_n, clr_i, clr_l, clr_r, clr_n, clr_o, w8_0, w8_1i, w8_1r, w8_2ii, w8_2ri, w8_2ir, w8_2rr, w8_3, beq_self_eq_true, Bool.and_self, Bool.and_true, Bool.true_and, decide_true, Option.toList_some, Option.toList_none, List.cons_append, List.nil_append, Option.bind_some, if_true, if_false, Nat.reduceLeDiff, Nat.reduceLT, Nat.reduceBEq, Bool.or_false, Bool.false_or, Bool.or_true, Bool.true_or, c0, nI_leI, nI_1, e1, e2, z, an, m1, not_false_eq_true]
/-- what the model knows of the search -/
def ordM (I X : Mem) (n N : Nat) (b : Option (Nat × List Nat)) (l : List Nat) (v : Int32) : Prop := kp I X ∧ rowL (X 165) l ∧ match b with
  | none => v = -1
  | some (s, bl) => v = nI s ∧ s < N ∧ bl.length = n ∧ rowL (X 166) bl
end TRZ

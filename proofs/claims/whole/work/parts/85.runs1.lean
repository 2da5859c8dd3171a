-- RUNS, 1: a run by its parameters; both sides do it
/-- the parameters of a run -/
def PR : Type := ((Nat → Int64) → Int32) × ((Nat → Int64) → Int32 → Int32) × (Nat → Int32) × (Nat → Int32) × (Nat → Int32) × (Nat → Int32) × (Nat → Nat → Int32) × (Nat → Nat → Bool) × (Nat → Int32) × (Nat → Int32)
def PR.lo (P : PR) : (Nat → Int64) → Int32 := P.1
def PR.go (P : PR) : (Nat → Int64) → Int32 → Int32 := P.2.1
def PR.dr (P : PR) : Nat → Int32 := P.2.2.1
def PR.sp (P : PR) : Nat → Int32 := P.2.2.2.1
def PR.we (P : PR) : Nat → Int32 := P.2.2.2.2.1
def PR.pl (P : PR) : Nat → Int32 := P.2.2.2.2.2.1
def PR.bo (P : PR) : Nat → Nat → Int32 := P.2.2.2.2.2.2.1
def PR.ac (P : PR) : Nat → Nat → Bool := P.2.2.2.2.2.2.2.1
def PR.ph (P : PR) : Nat → Int32 := P.2.2.2.2.2.2.2.2.1
def PR.sw (P : PR) : Nat → Int32 := P.2.2.2.2.2.2.2.2.2
def rnS (P : PR) (n j : Nat) (s : S5) : S5 := stepG P.lo P.go P.dr P.sp P.we P.pl P.bo (P.ac j) (nI j) n s
def rnG (P : PR) (n : Nat) : Nat → S5
  | 0 => (P.ph, P.sw, fun _ => 0, fun _ => 0, 0)
  | k + 1 => rnS P n k (rnG P n k)
def eqW (n : Nat) (s s' : S5) : Prop := eqR n s.1 s'.1 ∧ eqR n s.2.1 s'.2.1 ∧ eqR n s.2.2.1 s'.2.2.1 ∧ eqR n s.2.2.2.1 s'.2.2.2.1
theorem rnG_ph {P : PR} {n : Nat} (h : phO n P.ph) : ∀ k, phO n (rnG P n k).1
  | 0 => h
  | k + 1 => stepG_ph (rnG_ph h k)
/-- what a motion's steps are made of -/
def cPr (I : Mem) (R : MemR) (m t lL lG n : Nat) (P : PR) : Prop :=
  R m 0 = some t ∧ I m 1 = nI n ∧ okL I t lL lG ∧ eqLo (losC I t lL (I m 4)) P.lo ∧ eqGo (goC I t lG) P.go ∧ eqR n (I (t + 12)) P.dr ∧ eqR n (I (m + 5)) P.sp ∧ eqR n (I (m + 4)) P.we ∧ eqR n (I (m + 3)) P.pl ∧
  (∀ c q, c < n → q < n → c ≠ q → I (m + 11) (c * 6 + q) = P.bo c q) ∧ (∀ i, i < n → ∀ j : Nat, j < 2 ^ 31 → decide (I (m + 6) i = nI j) = P.ac j i) ∧ phO n P.ph
/-- a motion behind k steps of a run -/
def cSt (I : Mem) (R : MemR) (m t lL lG n : Nat) (P : PR) (k : Nat) : Prop := cPr I R m t lL lG n P ∧ I m 2 = nI k ∧ eqW n (sMo I m) (rnG P n k) ∧ (0 < k → I m 18 = (rnG P n k).2.2.2.2)
theorem cSt_adv {d m t lL lG n k : Nat} {P : PR} {I : Mem} {J : MemL} {R : MemR} (hm : isMo m) (ht : isTe t) (hn6 : n ≤ 6) (hk : k < 2 ^ 31) (h : cSt I R m t lL lG n P k) :
    ∃ I' J', C (d + 4) MX4_advance [.ref m] (hp I J R) = some (none, hp I' J' R) ∧ cSt I' R m t lL lG n P (k + 1) ∧ ∀ a, a < m ∨ m + 14 ≤ a → I' a = I a := by
  have hm2 := mo_lo hm
  have ht2 := te_hi ht
  obtain ⟨⟨p1, p2, p3, p4, p5, p6, p7, p8, p9, p10, p11, p12⟩, h2, h3, h4⟩ := h
  obtain ⟨J', e⟩ := adv_spec (d := d) (J := J) hm ht p1 p2 hn6 p3
  have hph : phO n (I (m + 7)) := phO_eq h3.1.sm (rnG_ph p12 k)
  have hst := adv_st (t := t) (lenL := lL) (lenG := lG) hph
  have hnew : eqS n (advS I m t n lL lG) (rnG P n (k + 1)) := by
    refine hst.tr ?_
    rw [h2]
    exact stepG_cong p4 p5 p6 p7 p8 p9 p10 (fun i hi => p11 i hi k hk) h3
  have e1 : losC (advM I m t n lL lG) t lL (I m 4) = losC I t lL (I m 4) := by
    funext nm
    unfold losC
    simp (disch := omega) only [advM_o]
  have e2 : goC (advM I m t n lL lG) t lG = goC I t lG := by
    funext nm sp
    unfold goC
    simp (disch := omega) only [advM_o]
  refine ⟨advM I m t n lL lG, J', e, ⟨⟨p1, ?_, advM_ok hm ht p3, ?_, ?_, ?_, ?_, ?_, ?_, ?_, ?_, p12⟩, ?_, ?_, fun _ => ?_⟩, fun a ha => advM_o (by omega) (by omega) (by omega) (by omega) (by omega) (by omega)⟩
  · rw [advM_f (by decide) (by decide)]; exact p2
  · rw [advM_f (by decide) (by decide), e1]; exact p4
  · rw [e2]; exact p5
  · simp (disch := omega) only [advM_o]; exact p6
  · simp (disch := omega) only [advM_o]; exact p7
  · simp (disch := omega) only [advM_o]; exact p8
  · simp (disch := omega) only [advM_o]; exact p9
  · simp (disch := omega) only [advM_o]; exact p10
  · simp (disch := omega) only [advM_o]; exact p11
  · rw [advM_2, h2, nI_1]
  · rw [advM_s]
    exact ⟨hnew.1, hnew.2.1, hnew.2.2.1, hnew.2.2.2.1⟩
  · have : (sMo (advM I m t n lL lG) m).2.2.2.2 = advM I m t n lL lG m 18 := rfl
    rw [← this, advM_s]
    exact hnew.2.2.2.2
theorem cSt_go {d m t lL lG n k : Nat} {P : PR} {I : Mem} {J : MemL} {R : MemR} (hm : isMo m) (ht : isTe t) (hn6 : n ≤ 6) (hk : k < 2 ^ 31) (h : cSt I R m t lL lG n P 0) :
    ∃ I' J', C (d + 5) MX4_go [.ref m, .int (nI k)] (hp I J R) = some (none, hp I' J' R) ∧ cSt I' R m t lL lG n P k ∧ ∀ a, a < m ∨ m + 14 ≤ a → I' a = I a := by
  have hgo : ∀ (q i : Nat) (I0 : Mem) (J0 : MemL), i + q = k → cSt I0 R m t lL lG n P i → ∃ I' J', E (C (d + 4)) MX4_go 2 [some (.ref m), some (.int (nI k)), some (.int (nI i))] [] (hp I0 J0 R) = some (none, hp I' J' R) ∧ cSt I' R m t lL lG n P k ∧ ∀ a, a < m ∨ m + 14 ≤ a → I' a = I0 a := by
    intro q
    induction q with
    | zero =>
      intro i I0 J0 hi h0
      obtain rfl : i = k := by omega
      have c0 : i ≤ i := Nat.le_refl i
      refine ⟨I0, J0, ?_, h0, fun _ _ => rfl⟩
      rw [xX4_go_2]
      simp (disch := omega) only [xX4_go_3, xX4_go_4, xX4_go_7, xX4_go_8, xX4_go_11, xX4_go_14, xX4_go_17, ↓reduceIte, gd_t, hK_p, hN_p, hF_p, hI_p, hJ_p, hR_p, stI_p, stJ_p, stR_p, stA_p, va_rf_s, va_rf_n, clr_i, clr_l, clr_r, clr_n, clr_o, w8_0, w8_1i, w8_1r, w8_2ii, w8_2ri, w8_2ir, w8_2rr, w8_3, beq_self_eq_true, Bool.and_self, Bool.and_true, Bool.true_and, decide_true, Option.toList_some, Option.toList_none, List.cons_append, List.nil_append, Option.bind_some, if_true, if_false, Nat.reduceLeDiff, Nat.reduceLT, Nat.reduceBEq, Bool.or_false, Bool.false_or, Bool.or_true, Bool.true_or, nI_leI, nI_ltI, nI_eq, nI_clamp, inb_n, up_s, up_n, bx_uu, nI_1, ix6, nI_0n, pk_us, pk_un, ge_0n, c0]
    | succ q ih =>
      intro i I0 J0 hi h0
      obtain ⟨I1, J1, e1, h1, o1⟩ := cSt_adv (d := d) (J := J0) hm ht hn6 (by omega) h0
      obtain ⟨I2, J2, e2, h2, o2⟩ := ih (i + 1) I1 J1 (by omega) h1
      have c0 : ¬ k ≤ i := by omega
      refine ⟨I2, J2, ?_, h2, fun a ha => (o2 a ha).trans (o1 a ha)⟩
      rw [xX4_go_2]
      simp (disch := omega) only [xX4_go_3, xX4_go_4, xX4_go_7, xX4_go_8, xX4_go_11, xX4_go_14, mo_k0 hm, ↓reduceIte, gd_t, hK_p, hN_p, hF_p, hI_p, hJ_p, hR_p, stI_p, stJ_p, stR_p, stA_p, va_rf_s, va_rf_n, clr_i, clr_l, clr_r, clr_n, clr_o, w8_0, w8_1i, w8_1r, w8_2ii, w8_2ri, w8_2ir, w8_2rr, w8_3, beq_self_eq_true, Bool.and_self, Bool.and_true, Bool.true_and, decide_true, Option.toList_some, Option.toList_none, List.cons_append, List.nil_append, Option.bind_some, if_true, if_false, Nat.reduceLeDiff, Nat.reduceLT, Nat.reduceBEq, Bool.or_false, Bool.false_or, Bool.or_true, Bool.true_or, nI_leI, nI_ltI, nI_eq, nI_clamp, inb_n, up_s, up_n, bx_uu, nI_1, ix6, nI_0n, pk_us, pk_un, ge_0n, c0, e1, e2]
  obtain ⟨I', J', e, h1, o⟩ := hgo k 0 I J (by omega) h
  refine ⟨I', J', ?_, h1, o⟩
  rw [nI_0] at e
  rw [eX4_go]
  simp only [xX4_go_0, xX4_go_1, clr_i]
  exact e
/-- what the model's steps of a run are made of -/
def mPr (I : Mem) (n fL lL fG lG : Nat) (P : PR) : Prop :=
  okR I 6 n fL lL fG lG ∧ eqLo (losM I fL lL) P.lo ∧ eqGo (goMd I fG lG) P.go ∧ eqR n (I 135) P.dr ∧ eqR n (I 157) P.sp ∧ eqR n (wghM I) P.we ∧ eqR n (shR 6 (I 152)) P.pl ∧
  (∀ c q, c < n → q < n → c ≠ q → wghM I q * reaM I (6 + c) (6 + q) = P.bo c q) ∧ ∀ i, i < n → ∀ j : Nat, j < 2 ^ 31 → (decide (I 158 i = nI j) && decide (isB (I 123 65) (nI i))) = P.ac j i
def mSt (I : Mem) (n fL lL fG lG : Nat) (P : PR) (k : Nat) : Prop := mPr I n fL lL fG lG P ∧ eqW n (sMd I 6) (rnG P n k) ∧ (0 < k → I 123 69 = (rnG P n k).2.2.2.2)
/-- what steps of a run leave as it was -/
def rsM (I I' : Mem) : Prop := (∀ a, a ≠ 123 → a ≠ 153 → a ≠ 154 → a ≠ 155 → a ≠ 156 → a ≠ 159 → I' a = I a) ∧ (∀ k, k ≠ 54 → k ≠ 69 → I' 123 k = I 123 k) ∧ ∀ a k, 153 ≤ a → a ≤ 156 → k < 6 → I' a k = I a k
theorem rsM.rf {I : Mem} : rsM I I := ⟨fun _ _ _ _ _ _ _ => rfl, fun _ _ _ => rfl, fun _ _ _ _ _ => rfl⟩
theorem rsM.tr {I I' I'' : Mem} (h : rsM I I') (g : rsM I' I'') : rsM I I'' := ⟨fun a h0 h1 h2 h3 h4 h5 => (g.1 a h0 h1 h2 h3 h4 h5).trans (h.1 a h0 h1 h2 h3 h4 h5), fun k h1 h2 => (g.2.1 k h1 h2).trans (h.2.1 k h1 h2), fun a k h1 h2 h3 => (g.2.2 a k h1 h2 h3).trans (h.2.2 a k h1 h2 h3)⟩
theorem rsM.kp {I I' : Mem} (h : rsM I I') : kp I I' := by
  refine ⟨fun a q => ?_, fun k q => ?_, fun a k h1 h2 h3 => ?_⟩
  · unfold kpA at q
    exact h.1 a (by omega) (by omega) (by omega) (by omega) (by omega) (by omega)
  · unfold kpK at q
    exact h.2.1 k (by omega) (by omega)
  · by_cases e : 153 ≤ a
    · exact h.2.2 a k e h2 h3
    · rw [h.1 a (by omega) (by omega) (by omega) (by omega) (by omega) (by omega)]
theorem stp_rs {I : Mem} {n fL lL fG lG : Nat} {t e : Int32} : rsM I (stpM I 6 n t fL lL fG lG e) := ⟨fun a h0 h1 h2 h3 h4 h5 => stpM_o h0 h1 h2 h3 h4 h5, fun k h1 h2 => stpM_f h1 h2, fun a k h1 h2 h3 => stpM_p (by omega) (Or.inl h3)⟩
theorem mPr_rs {I I' : Mem} {n fL lL fG lG : Nat} {P : PR} (h : mPr I n fL lL fG lG P) (g : rsM I I') : mPr I' n fL lL fG lG P := by
  obtain ⟨⟨q1, q2, q3, q4, q5⟩, h2, h3, h4, h5, h6, h7, h8, h9⟩ := h
  obtain ⟨g1, g2, g3⟩ := g
  have e1 : losM I' fL lL = losM I fL lL := by
    funext nm
    unfold losM
    rw [g2 62 (by decide) (by decide)]
    simp (disch := omega) only [g1]
  have e2 : goMd I' fG lG = goMd I fG lG := by
    funext nm sp
    unfold goMd
    simp (disch := omega) only [g1]
  have e3 : wghM I' = wghM I := by
    funext c
    unfold wghM
    rw [g2 63 (by decide) (by decide)]
    simp (disch := omega) only [g1]
  have e4 : ∀ a b, reaM I' a b = reaM I a b := by
    intro a b
    unfold reaM stfM
    rw [g2 61 (by decide) (by decide), g2 64 (by decide) (by decide)]
    simp (disch := omega) only [g1]
  refine ⟨⟨(g2 _ (by decide) (by decide)).trans q1, q2, ?_, ?_, by rw [e3]; exact q5⟩, by rw [e1]; exact h2, by rw [e2]; exact h3, ?_, ?_, by rw [e3]; exact h6, ?_, by rw [e3]; simp only [e4]; exact h8, ?_⟩
  · unfold okM okM1 at q3 ⊢
    simp (disch := omega) only [g1]
    exact q3
  · simp (disch := omega) only [g1]; exact q4
  · simp (disch := omega) only [g1]; exact h4
  · simp (disch := omega) only [g1]; exact h5
  · simp (disch := omega) only [g1]; exact h7
  · rw [g2 65 (by decide) (by decide)]
    simp (disch := omega) only [g1]; exact h9
theorem mSt_step {d n fL lL fG lG k : Nat} {P : PR} {I : Mem} {J : MemL} {R : MemR} (hk : k < 2 ^ 31) (h : mSt I n fL lL fG lG P k) :
    ∃ I' J', C (d + 5) MX12_step [.ref 123, .int 6, .int (nI k)] (hp I J R) = some (none, hp I' J' R) ∧ mSt I' n fL lL fG lG P (k + 1) ∧ rsM I I' := by
  obtain ⟨hp, h3, h4⟩ := h
  have hp' := hp
  obtain ⟨⟨q1, q2, q3, q4, q5⟩, p2, p3, p4', p5, p6, p7, p8, p9⟩ := hp
  obtain ⟨e', J', e⟩ := stp_spec (d := d) (at1 := 6) (t := nI k) (J := J) (R := R) (by omega) q1 q2 q3 q4 q5
  have e6 : nI 6 = 6 := rfl
  rw [e6] at e
  have h1 := eqS_lo q2 (stpM_s (I := I) (at1 := 6) (n := n) (fL := fL) (lL := lL) (fG := fG) (lG := lG) (t := nI k) (e := e'))
  have h2 := mdV_st (I := I) (at1 := 6) (fL := fL) (lL := lL) (fG := fG) (lG := lG) (t := nI k) q2
  have hnew : eqS n (sMd (stpM I 6 n (nI k) fL lL fG lG e') 6) (rnG P n (k + 1)) := by
    refine h1.tr (h2.tr ?_)
    exact stepG_cong p2 p3 p4' p5 p6 p7 p8 (fun i hi => p9 i hi k hk) h3
  exact ⟨_, J', e, ⟨mPr_rs hp' stp_rs, ⟨hnew.1, hnew.2.1, hnew.2.2.1, hnew.2.2.2.1⟩, fun _ => hnew.2.2.2.2⟩, stp_rs⟩
theorem mSt_runs {d n fL lL fG lG k : Nat} {P : PR} {I : Mem} {J : MemL} {R : MemR} (hk : k < 2 ^ 31) (h : mSt I n fL lL fG lG P 0) :
    ∃ I' J', C (d + 6) MX12_runs [.ref 123, .int (nI k)] (hp I J R) = some (none, hp I' J' R) ∧ mSt I' n fL lL fG lG P k ∧ rsM I I' := by
  have hgo : ∀ (q i : Nat) (I0 : Mem) (J0 : MemL), i + q = k → mSt I0 n fL lL fG lG P i → ∃ I' J', E (C (d + 5)) MX12_runs 2 [some (.ref 123), some (.int (nI k)), some (.int (nI i))] [] (hp I0 J0 R) = some (none, hp I' J' R) ∧ mSt I' n fL lL fG lG P k ∧ rsM I0 I' := by
    intro q
    induction q with
    | zero =>
      intro i I0 J0 hi h0
      obtain rfl : i = k := by omega
      have c0 : i ≤ i := Nat.le_refl i
      refine ⟨I0, J0, ?_, h0, rsM.rf⟩
      rw [xX12_runs_2]
      simp (disch := omega) only [xX12_runs_3, xX12_runs_4, xX12_runs_7, xX12_runs_8, xX12_runs_10, xX12_runs_11, xX12_runs_14, xX12_runs_17, xX12_runs_20, kd_123, ↓reduceIte, gd_t, hK_p, hN_p, hF_p, hI_p, hJ_p, hR_p, stI_p, stJ_p, stR_p, stA_p, va_rf_s, va_rf_n, clr_i, clr_l, clr_r, clr_n, clr_o, w8_0, w8_1i, w8_1r, w8_2ii, w8_2ri, w8_2ir, w8_2rr, w8_3, beq_self_eq_true, Bool.and_self, Bool.and_true, Bool.true_and, decide_true, Option.toList_some, Option.toList_none, List.cons_append, List.nil_append, Option.bind_some, if_true, if_false, Nat.reduceLeDiff, Nat.reduceLT, Nat.reduceBEq, Bool.or_false, Bool.false_or, Bool.or_true, Bool.true_or, nI_leI, nI_ltI, nI_eq, nI_clamp, inb_n, up_s, up_n, bx_uu, nI_1, ix6, nI_0n, pk_us, pk_un, ge_0n, c0]
    | succ q ih =>
      intro i I0 J0 hi h0
      obtain ⟨I1, J1, e1, h1, o1⟩ := mSt_step (d := d) (J := J0) (R := R) (by omega) h0
      obtain ⟨I2, J2, e2, h2, o2⟩ := ih (i + 1) I1 J1 (by omega) h1
      have c0 : ¬ k ≤ i := by omega
      refine ⟨I2, J2, ?_, h2, o1.tr o2⟩
      rw [xX12_runs_2]
      simp (disch := omega) only [xX12_runs_3, xX12_runs_4, xX12_runs_7, xX12_runs_8, xX12_runs_10, xX12_runs_11, xX12_runs_14, xX12_runs_17, xX12_runs_20, kd_123, kd_123, ↓reduceIte, gd_t, hK_p, hN_p, hF_p, hI_p, hJ_p, hR_p, stI_p, stJ_p, stR_p, stA_p, va_rf_s, va_rf_n, clr_i, clr_l, clr_r, clr_n, clr_o, w8_0, w8_1i, w8_1r, w8_2ii, w8_2ri, w8_2ir, w8_2rr, w8_3, beq_self_eq_true, Bool.and_self, Bool.and_true, Bool.true_and, decide_true, Option.toList_some, Option.toList_none, List.cons_append, List.nil_append, Option.bind_some, if_true, if_false, Nat.reduceLeDiff, Nat.reduceLT, Nat.reduceBEq, Bool.or_false, Bool.false_or, Bool.or_true, Bool.true_or, nI_leI, nI_ltI, nI_eq, nI_clamp, inb_n, up_s, up_n, bx_uu, nI_1, ix6, nI_0n, pk_us, pk_un, ge_0n, c0, e1, e2]
  obtain ⟨I', J', e, h1, o⟩ := hgo k 0 I J (by omega) h
  refine ⟨I', J', ?_, h1, o⟩
  rw [nI_0] at e
  rw [eX12_runs]
  simp only [xX12_runs_0, xX12_runs_1, clr_i]
  exact e

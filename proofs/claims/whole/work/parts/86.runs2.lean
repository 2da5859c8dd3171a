-- RUNS, 2: how a run begins, class and model
def acT (st : Nat → Int32) : Nat → Nat → Bool := fun j i => decide (st i = nI j)
def PG (I : Mem) (t lL lG : Nat) (b p : Nat → Int32) (wall ll : Int32) (we stf sp : Nat → Int32) (ac : Nat → Nat → Bool) (ph : Nat → Int32) : PR := (losC I t lL ll, goC I t lG, I (t + 12), sp, we, p, bonF we (I (t + 3)) stf p b wall, ac, ph, I (t + 13))
def P0 (I : Mem) (t lL lG : Nat) (b p : Nat → Int32) : PR := PG I t lL lG b p (I t 12) 0 (I (t + 9)) (I (t + 4)) (I (t + 10)) (acT (I (t + 14))) (I (t + 11))
theorem reaF_cong {give stiff stiff' place place' beam beam' : Nat → Int32} {wall : Int32} {a b : Nat} (hs : ∀ x, x < 3 → stiff x = stiff' x) (pa : place a = place' a) (pb : place b = place' b) (ba : beam a = beam' a) (bb : beam b = beam' b) : reaF give stiff place beam wall a b = reaF give stiff' place' beam' wall a b := by
  unfold reaF
  rw [pa, pb, ba, bb]
  by_cases h0 : beam' a < 0
  · simp only [h0, if_true]
  · by_cases h3 : beam' a < 3
    · obtain ⟨x, hx, e⟩ := nI_of h0
      have hx3 : x < 3 := by
        rw [e] at h3
        exact (nI_ltI (b := 3) hx (by omega)).mp h3
      have : (beam' a).toNatClampNeg = x := by rw [e]; exact nI_clamp hx
      simp only [this, hs x hx3]
    · simp only [h0, h3, if_false]
theorem bonF_cong {we we' give stiff stiff' place place' beam beam' : Nat → Int32} {wall : Int32} {a b : Nat} (hw : we b = we' b) (hs : ∀ x, x < 3 → stiff x = stiff' x) (pa : place a = place' a) (pb : place b = place' b) (ba : beam a = beam' a) (bb : beam b = beam' b) : bonF we give stiff place beam wall a b = bonF we' give stiff' place' beam' wall a b := by
  unfold bonF
  rw [hw, reaF_cong hs pa pb ba bb]
section BEG
variable {I : Mem} {m t b p n : Nat}
theorem begM_f (k : Nat) (hk : k = 1 ∨ k = 2 ∨ k = 3 ∨ k = 4) : begM I m t b p n m k = if k = 1 then I (t + 5) 1 else if k = 2 then 0 else if k = 3 then I t 12 else 0 := by
  unfold begM begA begO
  rcases hk with rfl | rfl | rfl | rfl <;> simp (disch := omega) only [up_n, up_s, pk_un, pk_us] <;> rfl
theorem begM_1 : begM I m t b p n (m + 1) = cpF (I (t + 4)) (I (m + 1)) 3 := by
  unfold begM begA
  simp (disch := omega) only [up_n, up_s]
theorem begM_2 : begM I m t b p n (m + 2) = cpF (I b) (I (m + 2)) 6 := by
  unfold begM begA
  simp (disch := omega) only [up_n, up_s]
theorem begM_3 : begM I m t b p n (m + 3) = cpF (I p) (I (m + 3)) 6 := by
  unfold begM begA
  simp (disch := omega) only [up_n, up_s]
theorem begM_4 : begM I m t b p n (m + 4) = cpF (I (t + 9)) (I (m + 4)) 6 := by
  unfold begM begA
  simp (disch := omega) only [up_n, up_s]
theorem begM_5 : begM I m t b p n (m + 5) = cpF (I (t + 10)) (I (m + 5)) 6 := by
  unfold begM begA
  simp (disch := omega) only [up_n, up_s]
theorem begM_6 : begM I m t b p n (m + 6) = cpF (I (t + 14)) (I (m + 6)) 6 := by
  unfold begM begA
  simp (disch := omega) only [up_n, up_s]
theorem begM_7 : begM I m t b p n (m + 7) = cpF (I (t + 11)) (I (m + 7)) 6 := by
  unfold begM begA
  simp (disch := omega) only [up_n, up_s]
theorem begM_8 : begM I m t b p n (m + 8) = cpF (I (t + 13)) (I (m + 8)) 6 := by
  unfold begM begA
  simp (disch := omega) only [up_n, up_s]
theorem begM_9 : begM I m t b p n (m + 9) = zerF (I (m + 9)) 6 := by
  unfold begM begA
  simp (disch := omega) only [up_n, up_s]
theorem begM_10 : begM I m t b p n (m + 10) = zerF (I (m + 10)) 6 := by
  unfold begM begA
  simp (disch := omega) only [up_n, up_s]
theorem begM_11 : begM I m t b p n (m + 11) = mesF n (bonF (cpF (I (t + 9)) (I (m + 4)) 6) (I (t + 3)) (cpF (I (t + 4)) (I (m + 1)) 3) (cpF (I p) (I (m + 3)) 6) (cpF (I b) (I (m + 2)) 6) (I t 12)) (I (m + 11)) := by
  unfold begM
  rw [up_s]
end BEG
theorem zer_at {r : Nat → Int32} {n k : Nat} (h : k < n) : zerF r n k = 0 := if_pos h
/-- a motion that is about to begin a run -/
theorem cBegG {I Ic : Mem} {R : MemR} {m t lL lG n : Nat} {b p : Nat → Int32} {wall ll : Int32} {we stf sp : Nat → Int32} {ac : Nat → Nat → Bool} {ph : Nat → Int32} (hm : isMo m) (ht : isTe t) (hok : okL I t lL lG) (hR : R m 0 = some t) (o : ∀ a, a < 60 → Ic a = I a) (f1 : Ic m 1 = nI n) (f2 : Ic m 2 = 0) (f4 : Ic m 4 = ll) (r5 : eqR n (Ic (m + 5)) sp) (r4 : eqR n (Ic (m + 4)) we) (r3 : eqR n (Ic (m + 3)) p) (r11 : ∀ c q, c < n → q < n → c ≠ q → Ic (m + 11) (c * 6 + q) = bonF we (I (t + 3)) stf p b wall c q) (r6 : ∀ i, i < n → ∀ j : Nat, j < 2 ^ 31 → decide (Ic (m + 6) i = nI j) = ac j i) (r7 : eqR n (Ic (m + 7)) ph) (r8 : eqR n (Ic (m + 8)) (I (t + 13))) (r9 : ∀ c, c < n → Ic (m + 9) c = 0) (r10 : ∀ c, c < n → Ic (m + 10) c = 0) (hph : phO n ph) :
    cSt Ic R m t lL lG n (PG I t lL lG b p wall ll we stf sp ac ph) 0 := by
  have ht2 := te_hi ht
  have e1 : losC Ic t lL ll = losC I t lL ll := by
    funext nm
    unfold losC
    simp (disch := omega) only [o]
  have e2 : goC Ic t lG = goC I t lG := by
    funext nm sp
    unfold goC
    simp (disch := omega) only [o]
  refine ⟨⟨hR, f1, ?_, ?_, ?_, ?_, r5, r4, r3, r11, r6, hph⟩, f2, ⟨r7, r8, r9, r10⟩, fun q => absurd q (by omega)⟩
  · unfold okL at hok ⊢
    simp (disch := omega) only [o]
    exact hok
  · rw [f4, e1]; exact eqLo.rf
  · rw [e2]; exact eqGo.rf
  · rw [o _ (by omega)]; exact eqR.rf
theorem cBeg {I : Mem} {R : MemR} {m t b p lL lG n : Nat} (hm : isMo m) (ht : isTe t) (hn : I (t + 5) 1 = nI n) (hn6 : n ≤ 6) (hok : okL I t lL lG) (hph : phO n (I (t + 11))) : cSt (begM I m t b p n) (va_up R m (va_up (R m) 0 (some t))) m t lL lG n (P0 I t lL lG (I b) (I p)) 0 := by
  have hm2 := mo_lo hm
  refine cBegG hm ht hok (by rw [up_s, up_s]) (fun a ha => begM_o (by omega)) ((begM_f 1 (by omega)).trans hn) (begM_f 2 (by omega)) (begM_f 4 (by omega)) (fun c hc => ?_) (fun c hc => ?_) (fun c hc => ?_) (fun c q hc hq _ => ?_) (fun i hi j hj => ?_) (fun c hc => ?_) (fun c hc => ?_) (fun c hc => ?_) (fun c hc => ?_) hph
  · rw [begM_5, cpF_at (by omega)]
  · rw [begM_4, cpF_at (by omega)]
  · rw [begM_3, cpF_at (by omega)]
  · rw [begM_11, mesF_at hn6 c q hc hq]
    exact bonF_cong (cpF_at (by omega)) (fun x hx => cpF_at hx) (cpF_at (by omega)) (cpF_at (by omega)) (cpF_at (by omega)) (cpF_at (by omega))
  · rw [begM_6, cpF_at (by omega)]
    rfl
  · rw [begM_7, cpF_at (by omega)]
  · rw [begM_8, cpF_at (by omega)]
  · rw [begM_9, zer_at (by omega)]
  · rw [begM_10, zer_at (by omega)]
theorem btr_c {d t n : Nat} {I : Mem} {J : MemL} {R : MemR} (ht : isTe t) (hR : R 0 3 = some t) (hn : I (t + 5) 1 = nI n) (hn6 : n ≤ 6) : C (d + 5) MX11_beginTrial [.ref 0] (hp I J R) = some (none, hp (begM I 88 t 62 63 n) J (va_up R 88 (va_up (R 88) 0 (some t)))) := by
  have hb := beg_spec (d := d) (m := 88) (t := t) (b := 62) (p := 63) (n := n) (I := I) (J := J) (R := R) (Or.inr (Or.inr rfl)) ht kd_62 ln_62 kd_63 ln_63 (by omega) (by omega) hn hn6
  rw [eX11_beginTrial]
  simp (disch := omega) only [xX11_beginTrial_0, xX11_beginTrial_1, xX11_beginTrial_4, xX11_beginTrial_5, xX11_beginTrial_8, xX11_beginTrial_9, xX11_beginTrial_12, xX11_beginTrial_15, xX11_beginTrial_16, xX11_beginTrial_19, xX11_beginTrial_22, xX11_beginTrial_25, kd_0, fi_0_5, kd_60, fi_0_8, kd_88, fi_60_6, kd_62, ln_62, fi_60_7, kd_63, ln_63, kd_88, ↓reduceIte, gd_t, hK_p, hN_p, hF_p, hI_p, hJ_p, hR_p, stI_p, stJ_p, stR_p, stA_p, va_rf_s, va_rf_n, clr_i, clr_l, clr_r, clr_n, clr_o, w8_0, w8_1i, w8_1r, w8_2ii, w8_2ri, w8_2ir, w8_2rr, w8_3, beq_self_eq_true, Bool.and_self, Bool.and_true, Bool.true_and, decide_true, Option.toList_some, Option.toList_none, List.cons_append, List.nil_append, Option.bind_some, if_true, if_false, Nat.reduceLeDiff, Nat.reduceLT, Nat.reduceBEq, Bool.or_false, Bool.false_or, Bool.or_true, Bool.true_or, nI_leI, nI_ltI, nI_eq, nI_clamp, inb_n, up_s, up_n, bx_uu, nI_1, ix6, nI_0n, pk_us, pk_un, ge_0n, hR, hb]
-- the model
theorem rea_eq2 {Im : Mem} {give stiff place beam : Nat → Int32} {wall : Int32} {at1 a b : Nat} (hw : wall = Im 123 61) (ha : beam a = Im 151 (at1 + a)) (hb : beam b = Im 151 (at1 + b)) (pa : place a = Im 152 (at1 + a)) (pb : place b = Im 152 (at1 + b)) (hx : ∃ x, x < 3 ∧ beam a = nI x ∧ give x = Im 127 x ∧ stiff x = if nI x = Im 123 64 then (if 2 * Im 128 x ≤ 99 then 2 * Im 128 x else 99) else Im 128 x) (hpa : ∃ p, p ≤ 30 ∧ place a = nI p) (hpb : ∃ p, p ≤ 30 ∧ place b = nI p) :
    reaF give stiff place beam wall a b = reaM Im (at1 + a) (at1 + b) := by
  obtain ⟨x, hx3, ex, eg, es⟩ := hx
  obtain ⟨p, hp, ep⟩ := hpa
  obtain ⟨q, hq, eq⟩ := hpb
  unfold reaF reaM stfM
  rw [← ha, ← hb, ← pa, ← pb, ← hw]
  by_cases z : beam a = beam b
  · have h3 : nI x < (3 : Int32) := nI_lt (b := 3) hx3 (by omega)
    have h0 : ¬ nI x < 0 := nI_pos (by omega)
    have hcl : (nI x).toNatClampNeg = x := nI_clamp (by omega)
    have hds := dis_siz (p := p) (q := q) (by omega) (by omega)
    rw [if_pos z, if_pos z]
    simp only [ex, h3, h0, hcl, eg, es, ep, eq, hds, if_true, if_false]
    exact cut0
  · rw [if_neg z, if_neg z]
theorem w1000 {x : Int32} (h : inN x 1 9) : ¬ 1000 * x = 0 := by
  obtain ⟨p, h1, h2, rfl⟩ := h
  rw [show (1000 : Int32) = nI 1000 from rfl, pk_mul]
  exact fun q => absurd ((nI_eq (b := 0) (by omega) (by omega)).mp q) (by omega)
theorem mBegG {I Im : Mem} {t n nb nm fL lL fG lG : Nat} {b p : Nat → Int32} {wall ll : Int32} {we stf sp : Nat → Int32} {ac : Nat → Nat → Bool} {ph : Nat → Int32} (htx : cTxt I t n nb nm) (hlw : cLws I t fL lL fG lG) (rows : ∀ a, 126 ≤ a → a ≤ 146 → Im a = I a) (f13 : Im 123 13 = I 123 13) (hlo : ll = 0 ↔ ¬ Im 123 62 = 0) (hwe : ∀ c, c < n → wghM Im c = we c) (hw9 : ∀ c, c < n → inN (we c) 1 9) (hsp : ∀ c, c < n → Im 157 c = sp c) (hac : ∀ i, i < n → ∀ j : Nat, j < 2 ^ 31 → (decide (Im 158 i = nI j) && decide (isB (Im 123 65) (nI i))) = ac j i)
    (hhg : ∀ c, c < n → Im 151 (6 + c) = b c ∧ (∃ x, x < nb ∧ b c = nI x) ∧ Im 152 (6 + c) = p c ∧ inN (p c) 0 30) (hwl : wall = Im 123 61) (hst : ∀ x, x < nb → stf x = if nI x = Im 123 64 then (if 2 * I 128 x ≤ 99 then 2 * I 128 x else 99) else I 128 x) (s1 : ∀ c, c < n → Im 153 (6 + c) = ph c) (s2 : ∀ c, c < n → Im 154 (6 + c) = I 136 c) (s3 : ∀ c, c < n → Im 155 (6 + c) = 0) (s4 : ∀ c, c < n → Im 156 (6 + c) = 0) :
    mSt Im n fL (fL + lL) fG (fG + lG) (PG I t lL lG b p wall ll we stf sp ac ph) 0 := by
  obtain ⟨⟨b1, b2, b3⟩, ⟨n1, n2, n3⟩, ⟨m1, m2, m3⟩, x1, x2, x3, x4, ⟨x5, x5'⟩, x6⟩ := htx
  have hokm := cLws_okM hlw
  have hrows : Im 141 = I 141 ∧ Im 144 = I 144 ∧ Im 145 = I 145 ∧ Im 146 = I 146 := ⟨rows _ (by omega) (by omega), rows _ (by omega) (by omega), rows _ (by omega) (by omega), rows _ (by omega) (by omega)⟩
  refine ⟨⟨⟨f13.trans n2, n3, ?_, fun c hc => ?_, fun c hc => ?_⟩, ?_, ?_, ?_, hsp, hwe, fun c hc => (hhg c hc).2.2.1, fun c q hc hq hcq => ?_, hac⟩, ⟨s1, fun c hc => ?_, s3, s4⟩, fun q => absurd q (by omega)⟩
  · unfold okM okM1 at hokm ⊢
    simp (disch := omega) only [rows]
    exact hokm
  · obtain ⟨h1, ⟨x, h2, h3⟩, -⟩ := hhg c hc
    exact ⟨x, by omega, by rw [h1]; exact h3⟩
  · rw [hwe c hc]
    exact w1000 (hw9 c hc)
  · have := cLws_lo (Ic := I) (ll := ll) hlw (fun _ _ _ => rfl) hrows hlo
    exact fun y0 y1 y2 y3 y4 y5 y6 => (this y0 y1 y2 y3 y4 y5 y6).symm
  · have := cLws_go (Ic := I) hlw (fun _ _ _ => rfl) hrows
    exact fun y0 y1 y2 y3 y4 y5 y6 y7 => (this y0 y1 y2 y3 y4 y5 y6 y7).symm
  · rw [rows _ (by omega) (by omega)]
    exact fun c hc => (x2 c hc).2.2.2.2.2.2.1.symm
  · obtain ⟨h1, ⟨x, h2, h3⟩, h4, ⟨pa, -, h5, h6⟩⟩ := hhg c hc
    obtain ⟨g1, -, g4, ⟨pb, -, g5, g6⟩⟩ := hhg q hq
    have hr := rea_eq2 (Im := Im) (give := I (t + 3)) (stiff := stf) (place := p) (beam := b) (wall := wall) (at1 := 6) (a := c) (b := q) hwl h1.symm g1.symm h4.symm g4.symm ⟨x, by omega, h3, by rw [rows _ (by omega) (by omega)]; exact (x1 x h2).2.1, by rw [rows 128 (by omega) (by omega)]; exact hst x h2⟩ ⟨pa, h5, h6⟩ ⟨pb, g5, g6⟩
    rw [← hr, hwe q hq]
    show we q * _ = bonF we (I (t + 3)) stf p b wall c q
    unfold bonF
    rw [if_neg hcq]
  · exact (s2 c hc).trans (x2 c hc).2.2.2.2.2.2.2.1.symm
section BGN
variable {Q : Mem} {n : Nat}
theorem bgq_o {a : Nat} (h : a < 151 ∨ 156 < a) : bgnM (hunM Q n) 6 n a = Q a := by
  unfold bgnM
  by_cases e : a = 123
  · subst e
    rw [mdM_0]
    unfold hunM
    simp (disch := omega) only [up_n]
  · rw [mdM_o e (by omega) (by omega) (by omega) (by omega)]
    unfold hunM
    simp (disch := omega) only [up_n]
theorem bgq_151 {c : Nat} (hc : c < n) (hn : n ≤ 6) : bgnM (hunM Q n) 6 n 151 (6 + c) = Q 151 c ∧ bgnM (hunM Q n) 6 n 152 (6 + c) = Q 152 c := by
  unfold bgnM
  rw [mdM_o (by decide) (by decide) (by decide) (by decide) (by decide), mdM_o (by decide) (by decide) (by decide) (by decide) (by decide)]
  unfold hunM
  rw [up_n (by decide), up_s, up_s, pt_at (by omega), pt_at (by omega), cpF_at hc, cpF_at hc]
  exact ⟨rfl, rfl⟩
theorem bgq_lo {a k : Nat} (h1 : 151 ≤ a) (h2 : a ≤ 156) (hk : k < 6) : bgnM (hunM Q n) 6 n a k = Q a k := by
  unfold bgnM hunM
  rcases (show a = 151 ∨ a = 152 ∨ a = 153 ∨ a = 154 ∨ a = 155 ∨ a = 156 by omega) with rfl | rfl | rfl | rfl | rfl | rfl
  · rw [mdM_o (by decide) (by decide) (by decide) (by decide) (by decide), up_n (by decide), up_s, pt_lo hk]
  · rw [mdM_o (by decide) (by decide) (by decide) (by decide) (by decide), up_s, pt_lo hk]
  · rw [mdM_1, pt_lo hk]; simp (disch := omega) only [up_n]
  · rw [mdM_2, pt_lo hk]; simp (disch := omega) only [up_n]
  · rw [mdM_3, pt_lo hk]; simp (disch := omega) only [up_n]
  · rw [mdM_4, pt_lo hk]; simp (disch := omega) only [up_n]
theorem bgq_s {c : Nat} (hc : c < n) (hn : n ≤ 6) : bgnM (hunM Q n) 6 n 153 (6 + c) = Q 134 c ∧ bgnM (hunM Q n) 6 n 154 (6 + c) = Q 136 c ∧ bgnM (hunM Q n) 6 n 155 (6 + c) = 0 ∧ bgnM (hunM Q n) 6 n 156 (6 + c) = 0 := by
  unfold bgnM
  rw [mdM_1, mdM_2, mdM_3, mdM_4, pt_at (by omega), pt_at (by omega), pt_at (by omega), pt_at (by omega), cpF_at hc, cpF_at hc, zer_at hc, zer_at hc]
  unfold hunM
  simp (disch := omega) only [up_n, and_self]
theorem kp_bgq : kp Q (bgnM (hunM Q n) 6 n) := by
  refine ⟨fun a h => ?_, fun k h => ?_, fun a k h1 h2 h3 => bgq_lo h1 h2 h3⟩
  · unfold kpA at h
    exact bgq_o (by omega)
  · rw [bgq_o (by omega)]
end BGN
/-- the model is about to begin a run: plainRun, something laid, beginsRun -/
theorem mBegQ {I Q : Mem} {R : MemR} {t t' n nb nm fL lL fG lG st : Nat} {wall ll : Int32} {we stf sp : Nat → Int32} {ac : Nat → Nat → Bool} (h : cAll I R t t' n nb nm fL lL fG lG st) (rows : ∀ a, 126 ≤ a → a ≤ 146 → Q a = I a) (q151 : ∀ k, k < 6 → Q 151 k = I 151 k) (q152 : ∀ k, k < 6 → Q 152 k = I 152 k) (f13 : Q 123 13 = I 123 13) (hlo : ll = 0 ↔ ¬ Q 123 62 = 0) (hwe : ∀ c, c < n → (if Q 123 63 = 0 then 1 else I 132 c) = we c) (hw9 : ∀ c, c < n → inN (we c) 1 9) (hsp : ∀ c, c < n → Q 157 c = sp c) (hac : ∀ i, i < n → ∀ j : Nat, j < 2 ^ 31 → (decide (Q 158 i = nI j) && decide (isB (Q 123 65) (nI i))) = ac j i) (hwl : wall = Q 123 61) (hst : ∀ x, x < nb → stf x = if nI x = Q 123 64 then (if 2 * I 128 x ≤ 99 then 2 * I 128 x else 99) else I 128 x) :
    mSt (bgnM (hunM Q n) 6 n) n fL (fL + lL) fG (fG + lG) (PG I t lL lG (I 62) (I 63) wall ll we stf sp ac (I (t + 11))) 0 := by
  have hn6 := h.n6
  obtain ⟨c1, c2, c3, c4, c5, c6, c7, c8, ⟨c9, c9'⟩, c10, c11, c12⟩ := h.now
  have e123 : bgnM (hunM Q n) 6 n 123 = Q 123 := bgq_o (by omega)
  refine mBegG h.txt h.lws (fun a h1 h2 => (bgq_o (by omega)).trans (rows a h1 h2)) (by rw [e123]; exact f13) (by rw [e123]; exact hlo) (fun c hc => ?_) hw9 (fun c hc => by rw [bgq_o (by omega)]; exact hsp c hc) (fun i hi j hj => by rw [bgq_o (a := 158) (by omega), e123]; exact hac i hi j hj) (fun c hc => ?_) (by rw [e123]; exact hwl) (by rw [e123]; exact hst) (fun c hc => ?_) (fun c hc => ?_) (fun c hc => (bgq_s hc hn6).2.2.1) (fun c hc => (bgq_s hc hn6).2.2.2)
  · unfold wghM
    rw [e123, bgq_o (a := 132) (by omega), rows 132 (by omega) (by omega)]
    exact hwe c hc
  · obtain ⟨a1, a2, a3, a4⟩ := c9 c hc
    rw [Nat.zero_add] at a1 a3
    rw [(bgq_151 hc hn6).1, (bgq_151 hc hn6).2, q151 c (by omega), q152 c (by omega)]
    exact ⟨a1.symm, a2, a3.symm, a4⟩
  · rw [(bgq_s hc hn6).1, rows _ (by omega) (by omega)]
    exact (h.txt.2.2.2.2.1 c hc).2.2.2.2.2.1.symm
  · rw [(bgq_s hc hn6).2.1, rows _ (by omega) (by omega)]
theorem isB63 : ∀ i, i < 6 → decide (isB 63 (nI i)) = true := by decide
/-- plainRun alone ahead of it -/
theorem mBegP {I Q : Mem} {R : MemR} {t t' n nb nm fL lL fG lG st : Nat} (h : cAll I R t t' n nb nm fL lL fG lG st) (o : ∀ a, 123 < a → Q a = I a) (f : ∀ k, k ≠ 2 → Q 123 k = I 123 k) : mSt (bgnM (hunM (plaM Q) n) 6 n) n fL (fL + lL) fG (fG + lG) (P0 I t lL lG (I 62) (I 63)) 0 := by
  have hn6 := h.n6
  have hb3 := h.txt.1.2.2
  refine mBegQ h (fun a h1 h2 => by rw [pla_o (by omega) (by omega) (by omega), o a (by omega)]) (fun k hk => by rw [pla_o (by omega) (by omega) (by omega), o _ (by omega)]) (fun k hk => by rw [pla_o (by omega) (by omega) (by omega), o _ (by omega)]) (by rw [pla_f (by omega), f _ (by omega)]) (by rw [pla_61.2.1]; exact ⟨fun _ => by decide, fun _ => rfl⟩) (fun c hc => ?_) (fun c hc => ?_) (fun c hc => ?_) (fun i hi j hj => ?_) ?_ (fun x hx => ?_)
  · rw [pla_61.2.2.1, if_neg (by decide)]
    exact (h.txt.2.2.2.2.1 c hc).2.2.2.1.symm
  · rw [(h.txt.2.2.2.2.1 c hc).2.2.2.1]
    exact (h.txt.2.2.2.2.2.1 c hc).2.2.1
  · unfold plaM
    rw [up_n (by decide), up_s, cpF_at (by omega), o _ (by omega)]
    exact (h.txt.2.2.2.2.1 c hc).2.2.2.2.1.symm
  · rw [pla_61.2.2.2.2, isB63 i (by omega), Bool.and_true]
    unfold plaM
    rw [up_s, cpF_at (by omega), o _ (by omega)]
    show _ = decide (I (t + 14) i = nI j)
    rw [(h.txt.2.2.2.2.1 i hi).2.2.2.2.2.2.2.2]
  · rw [pla_61.1, f _ (by omega)]
    exact h.txt.2.2.2.2.2.2.2.1.1
  · rw [pla_61.2.2.2.1, if_neg (fun q => ?_)]
    · exact (h.txt.2.2.2.1 x hx).2.2.1
    · have := nI_pos (n := x) (by omega)
      rw [q] at this
      exact this (by decide)

-- THE STEP: the model does it
theorem staM_at {n : Nat} {t th : Int32} {rs f : Nat → Int32} : eqR n (staM n t rs th f) (actF (fun i => decide (rs i = t) && decide (isB th (nI i))) f) := by
  have h := itf_inv (f := fun i f => if f i = 0 then (if rs i = t then (if isB th (nI i) then upd f i 1 else f) else f) else f) (n := n) (Q := fun i s => ∀ c, s c = if c < i then actF (fun i => decide (rs i = t) && decide (isB th (nI i))) f c else f c) (by
    intro i s hi hq c
    have hi0 : s i = f i := by rw [hq i, if_neg (by omega)]
    have hel : ∀ c, c ≠ i → (if c < i then actF (fun i => decide (rs i = t) && decide (isB th (nI i))) f c else f c) = if c < i + 1 then actF (fun i => decide (rs i = t) && decide (isB th (nI i))) f c else f c := by
      intro c hc
      by_cases h1 : c < i
      · rw [if_pos h1, if_pos (by omega)]
      · rw [if_neg h1, if_neg (by omega)]
    have hv : actF (fun i => decide (rs i = t) && decide (isB th (nI i))) f i = if s i = 0 then (if rs i = t then (if isB th (nI i) then 1 else s i) else s i) else s i := by
      unfold actF
      rw [← hi0]
      by_cases z : s i = 0
      · rw [if_pos z, if_pos z]
        by_cases y : rs i = t
        · rw [if_pos y]
          by_cases w : isB th (nI i)
          · rw [if_pos w, if_pos (by simp only [y, decide_true, Bool.true_and]; exact decide_eq_true w)]
          · rw [if_neg w, if_neg (by simp only [y, decide_true, Bool.true_and]; exact fun q => w (of_decide_eq_true q))]
        · rw [if_neg y, if_neg (by simp [y])]
      · rw [if_neg z, if_neg z]
    by_cases hc : c = i
    · subst hc
      rw [if_pos (show c < c + 1 by omega), hv]
      by_cases z : s c = 0
      · rw [if_pos z, if_pos z]
        by_cases y : rs c = t
        · rw [if_pos y, if_pos y]
          by_cases w : isB th (nI c)
          · rw [if_pos w, if_pos w, pk_us]
          · rw [if_neg w, if_neg w]
        · rw [if_neg y, if_neg y]
      · rw [if_neg z, if_neg z]
    · rw [← hel c hc, ← hq c]
      by_cases z : s i = 0
      · rw [if_pos z]
        by_cases y : rs i = t
        · rw [if_pos y]
          by_cases w : isB th (nI i)
          · rw [if_pos w, pk_un hc]
          · rw [if_neg w]
        · rw [if_neg y]
      · rw [if_neg z]) n 0 f (by omega) (fun c => by rw [if_neg (by omega)])
  intro c hc
  have := h c
  rw [if_pos hc] at this
  exact this
def sMd (I : Mem) (at1 : Nat) : S5 := (shR at1 (I 153), shR at1 (I 154), shR at1 (I 155), shR at1 (I 156), I 123 69)
def stD (I : Mem) (at1 fL lL fG lG n : Nat) (k : Int32) (s : S5) : S5 := stepG (losM I fL lL) (goMd I fG lG) (I 135) (I 157) (wghM I) (shR at1 (I 152)) (fun c q => wghM I q * reaM I (at1 + c) (at1 + q)) (fun i => decide (I 158 i = k) && decide (isB (I 123 65) (nI i))) k n s
theorem mdV_st {I : Mem} {at1 n fL lL fG lG : Nat} {t : Int32} (hn6 : n ≤ 6) : eqS n (mdV I at1 n t fL lL fG lG) (stD I at1 fL lL fG lG n t (sMd I at1)) := by
  unfold mdV stD stepG sMd
  dsimp only
  have hA : eqR n (mdA I at1 n t) (actF (fun i => decide (I 158 i = t) && decide (isB (I 123 65) (nI i))) (shR at1 (I 156))) := staM_at
  refine runS_cong eqLo.rf eqGo.rf eqR.rf eqR.rf eqR.rf eqR.rf ?_ ⟨eqR.rf, eqR.rf, eqR.rf, hA, rfl⟩
  refine eqR.tr ?_ (pulG_cong eqR.rf hA)
  intro c hc
  unfold mdP pulM pulG
  rw [if_pos hc]
  by_cases z : mdA I at1 n t c = 1
  · rw [if_pos z, if_pos z]
    refine smI_cong (fun k hk => ?_)
    unfold tugM tugG wghM reaM stfM shR
    simp (disch := omega) only [up_n, up_s, pt_at]
  · rw [if_neg z, if_neg z]
theorem stpM_s {I : Mem} {at1 n fL lL fG lG : Nat} {t e : Int32} : eqS 6 (sMd (stpM I at1 n t fL lL fG lG e) at1) (mdV I at1 n t fL lL fG lG) := by
  unfold sMd stpM mdS
  rw [mdM_0, mdM_1, mdM_2, mdM_3, mdM_4, pk_us]
  refine ⟨?_, ?_, ?_, ?_, rfl⟩ <;> intro c hc <;> exact pt_at hc
theorem stpM_o {I : Mem} {at1 n fL lL fG lG a : Nat} {t e : Int32} (h0 : a ≠ 123) (h1 : a ≠ 153) (h2 : a ≠ 154) (h3 : a ≠ 155) (h4 : a ≠ 156) (h5 : a ≠ 159) : stpM I at1 n t fL lL fG lG e a = I a := by
  unfold stpM mdS
  rw [mdM_o h0 h1 h2 h3 h4, up_n h5]
theorem stpM_f {I : Mem} {at1 n fL lL fG lG k : Nat} {t e : Int32} (h1 : k ≠ 54) (h2 : k ≠ 69) : stpM I at1 n t fL lL fG lG e 123 k = I 123 k := by
  unfold stpM mdS
  rw [mdM_0, pk_un h2, pk_un h1]
theorem stpM_p {I : Mem} {at1 n fL lL fG lG k : Nat} {t e : Int32} {a : Nat} (ha : a = 153 ∨ a = 154 ∨ a = 155 ∨ a = 156) (hk : k < at1 ∨ at1 + 6 ≤ k) : stpM I at1 n t fL lL fG lG e a k = I a k := by
  unfold stpM mdS
  rcases ha with rfl | rfl | rfl | rfl
  · rw [mdM_1, up_n (by decide)]; unfold pt; rw [if_neg (by omega)]
  · rw [mdM_2, up_n (by decide)]; unfold pt; rw [if_neg (by omega)]
  · rw [mdM_3, up_n (by decide)]; unfold pt; rw [if_neg (by omega)]
  · rw [mdM_4, up_n (by decide)]; unfold pt; rw [if_neg (by omega)]
theorem stD_stp {I : Mem} {at1 n fL lL fG lG : Nat} {t e : Int32} : stD (stpM I at1 n t fL lL fG lG e) at1 fL lL fG lG n = stD I at1 fL lL fG lG n := by
  funext k s
  have e1 : losM (stpM I at1 n t fL lL fG lG e) fL lL = losM I fL lL := by
    funext nm
    unfold losM
    rw [stpM_f (by decide) (by decide)]
    simp (disch := omega) only [stpM_o]
  have e2 : goMd (stpM I at1 n t fL lL fG lG e) fG lG = goMd I fG lG := by
    funext nm sp
    unfold goMd
    simp (disch := omega) only [stpM_o]
  have e3 : wghM (stpM I at1 n t fL lL fG lG e) = wghM I := by
    funext c
    unfold wghM
    rw [stpM_f (by decide) (by decide)]
    simp (disch := omega) only [stpM_o]
  have e4 : ∀ a b, reaM (stpM I at1 n t fL lL fG lG e) a b = reaM I a b := by
    intro a b
    unfold reaM stfM
    rw [stpM_f (by decide) (by decide), stpM_f (by decide) (by decide)]
    simp (disch := omega) only [stpM_o]
  unfold stD
  rw [e1, e2, e3, stpM_f (by decide) (by decide)]
  simp (disch := omega) only [stpM_o, e4]
/-- what a run of the model needs of the memory -/
def okR (I : Mem) (at1 n fL lL fG lG : Nat) : Prop := I 123 13 = nI n ∧ n ≤ 6 ∧ okM I fL lL fG lG ∧ (∀ c, c < n → ∃ x, x < 6 ∧ I 151 (at1 + c) = nI x) ∧ ∀ c, c < n → ¬ 1000 * wghM I c = 0
theorem okR_stp {I : Mem} {at1 n fL lL fG lG : Nat} {t e : Int32} (h : okR I at1 n fL lL fG lG) : okR (stpM I at1 n t fL lL fG lG e) at1 n fL lL fG lG := by
  obtain ⟨h1, h2, h3, h4, h5⟩ := h
  refine ⟨(stpM_f (by decide) (by decide)).trans h1, h2, ?_, ?_, ?_⟩
  · unfold okM okM1 at h3 ⊢
    simp (disch := omega) only [stpM_o]
    exact h3
  · simp (disch := omega) only [stpM_o]
    exact h4
  · intro c hc
    unfold wghM
    rw [stpM_f (by decide) (by decide)]
    simp (disch := omega) only [stpM_o]
    exact h5 c hc
/-- a memory behind k steps from t0 on, of the clocks from at1 on: the rest is as it was -/
def runRel (I I' : Mem) (at1 n fL lL fG lG : Nat) : Prop := (∀ a, a ≠ 123 → a ≠ 153 → a ≠ 154 → a ≠ 155 → a ≠ 156 → a ≠ 159 → I' a = I a) ∧ (∀ k, k ≠ 54 → k ≠ 69 → I' 123 k = I 123 k) ∧ (∀ a k, (a = 153 ∨ a = 154 ∨ a = 155 ∨ a = 156) → (k < at1 ∨ at1 + 6 ≤ k) → I' a k = I a k) ∧ stD I' at1 fL lL fG lG n = stD I at1 fL lL fG lG n ∧ okR I' at1 n fL lL fG lG
theorem runRel.rf {I : Mem} {at1 n fL lL fG lG : Nat} (h : okR I at1 n fL lL fG lG) : runRel I I at1 n fL lL fG lG := ⟨fun _ _ _ _ _ _ _ => rfl, fun _ _ _ => rfl, fun _ _ _ _ => rfl, rfl, h⟩
theorem runRel.stp {I I' : Mem} {at1 n fL lL fG lG : Nat} {t e : Int32} (h : runRel I I' at1 n fL lL fG lG) : runRel I (stpM I' at1 n t fL lL fG lG e) at1 n fL lL fG lG :=
  ⟨fun a h0 h1 h2 h3 h4 h5 => (stpM_o h0 h1 h2 h3 h4 h5).trans (h.1 a h0 h1 h2 h3 h4 h5), fun k h1 h2 => (stpM_f h1 h2).trans (h.2.1 k h1 h2), fun a k ha hk => (stpM_p ha hk).trans (h.2.2.1 a k ha hk), stD_stp.trans h.2.2.2.1, okR_stp h.2.2.2.2⟩
theorem eqS_lo {n : Nat} {s s' : S5} (hn : n ≤ 6) (h : eqS 6 s s') : eqS n s s' := ⟨fun c hc => h.1 c (by omega), fun c hc => h.2.1 c (by omega), fun c hc => h.2.2.1 c (by omega), fun c hc => h.2.2.2.1 c (by omega), h.2.2.2.2⟩
theorem stD_cong {I : Mem} {at1 n fL lL fG lG : Nat} {k : Int32} {s s' : S5} (h : eqS n s s') : eqS n (stD I at1 fL lL fG lG n k s) (stD I at1 fL lL fG lG n k s') := stepG_cong eqLo.rf eqGo.rf eqR.rf eqR.rf eqR.rf eqR.rf (fun _ _ _ _ _ => rfl) (fun _ _ => rfl) ⟨h.1, h.2.1, h.2.2.1, h.2.2.2.1⟩
theorem stp_st {I I' : Mem} {at1 n fL lL fG lG : Nat} {t e : Int32} {s : S5} (h : runRel I I' at1 n fL lL fG lG) (hs : eqS n (sMd I' at1) s) : eqS n (sMd (stpM I' at1 n t fL lL fG lG e) at1) (stD I at1 fL lL fG lG n t s) := by
  have hn6 := h.2.2.2.2.2.1
  have h1 := eqS_lo hn6 (stpM_s (I := I') (at1 := at1) (n := n) (fL := fL) (lL := lL) (fG := fG) (lG := lG) (t := t) (e := e))
  have h2 := mdV_st (I := I') (at1 := at1) (fL := fL) (lL := lL) (fG := fG) (lG := lG) (t := t) hn6
  rw [h.2.2.2.1] at h2
  exact h1.tr (h2.tr (stD_cong hs))
/-- runs(k): k steps of the clocks of a run -/
theorem rns_spec {d n fL lL fG lG k : Nat} {I : Mem} {J : MemL} {R : MemR} {s : S5} (hk : k < 2 ^ 31) (hr : okR I 6 n fL lL fG lG) (hs : eqS n (sMd I 6) s) :
    ∃ I' J', C (d + 6) MX12_runs [.ref 123, .int (nI k)] (hp I J R) = some (none, hp I' J' R) ∧ runRel I I' 6 n fL lL fG lG ∧ eqS n (sMd I' 6) (itf (fun j s => stD I 6 fL lL fG lG n (nI j) s) k 0 s) := by
  have hgo : ∀ (q i : Nat) (I' : Mem) (J : MemL) (s : S5), i + q = k → runRel I I' 6 n fL lL fG lG → eqS n (sMd I' 6) s → ∃ I2 J2, E (C (d + 5)) MX12_runs 2 [some (.ref 123), some (.int (nI k)), some (.int (nI i))] [] (hp I' J R) = some (none, hp I2 J2 R) ∧ runRel I I2 6 n fL lL fG lG ∧ eqS n (sMd I2 6) (itf (fun j s => stD I 6 fL lL fG lG n (nI j) s) q i s) := by
    intro q
    induction q with
    | zero =>
      intro i I' J s hi hr hs
      obtain rfl : i = k := by omega
      have c0 : i ≤ i := Nat.le_refl i
      refine ⟨I', J, ?_, hr, hs⟩
      rw [xX12_runs_2]
      simp (disch := omega) only [xX12_runs_3, xX12_runs_4, xX12_runs_7, xX12_runs_8, xX12_runs_10, xX12_runs_11, xX12_runs_14, xX12_runs_17, xX12_runs_20, kd_123, ↓reduceIte, gd_t, hK_p, hN_p, hF_p, hI_p, hJ_p, hR_p, stI_p, stJ_p, stR_p, stA_p, va_rf_s, va_rf_n, clr_i, clr_l, clr_r, clr_n, clr_o, w8_0, w8_1i, w8_1r, w8_2ii, w8_2ri, w8_2ir, w8_2rr, w8_3, beq_self_eq_true, Bool.and_self, Bool.and_true, Bool.true_and, decide_true, Option.toList_some, Option.toList_none, List.cons_append, List.nil_append, Option.bind_some, if_true, if_false, Nat.reduceLeDiff, Nat.reduceLT, Nat.reduceBEq, Bool.or_false, Bool.false_or, Bool.or_true, Bool.true_or, nI_leI, nI_ltI, nI_eq, nI_clamp, inb_n, up_s, up_n, bx_uu, nI_1, ix6, nI_0n, pk_us, pk_un, ge_0n, c0]
    | succ q ih =>
      intro i I' J s hi hr hs
      obtain ⟨r1, r2, r3, r4, r5⟩ := hr.2.2.2.2
      obtain ⟨e', J1, h⟩ := stp_spec (d := d) (at1 := 6) (t := nI i) (J := J) (R := R) (by omega) r1 r2 r3 r4 r5
      obtain ⟨I2, J2, h2, h3, h4⟩ := ih (i + 1) (stpM I' 6 n (nI i) fL lL fG lG e') J1 (stD I 6 fL lL fG lG n (nI i) s) (by omega) hr.stp (stp_st hr hs)
      refine ⟨I2, J2, ?_, h3, h4⟩
      have c0 : ¬ k ≤ i := by omega
      have e6 : nI 6 = 6 := rfl
      rw [e6] at h
      rw [xX12_runs_2]
      simp (disch := omega) only [xX12_runs_3, xX12_runs_4, xX12_runs_7, xX12_runs_8, xX12_runs_10, xX12_runs_11, xX12_runs_14, xX12_runs_17, xX12_runs_20, kd_123, kd_123, ↓reduceIte, gd_t, hK_p, hN_p, hF_p, hI_p, hJ_p, hR_p, stI_p, stJ_p, stR_p, stA_p, va_rf_s, va_rf_n, clr_i, clr_l, clr_r, clr_n, clr_o, w8_0, w8_1i, w8_1r, w8_2ii, w8_2ri, w8_2ir, w8_2rr, w8_3, beq_self_eq_true, Bool.and_self, Bool.and_true, Bool.true_and, decide_true, Option.toList_some, Option.toList_none, List.cons_append, List.nil_append, Option.bind_some, if_true, if_false, Nat.reduceLeDiff, Nat.reduceLT, Nat.reduceBEq, Bool.or_false, Bool.false_or, Bool.or_true, Bool.true_or, nI_leI, nI_ltI, nI_eq, nI_clamp, inb_n, up_s, up_n, bx_uu, nI_1, ix6, nI_0n, pk_us, pk_un, ge_0n, c0, h, h2]
  obtain ⟨I2, J2, h2, h3, h4⟩ := hgo k 0 I J s (by omega) (runRel.rf hr) hs
  refine ⟨I2, J2, ?_, h3, h4⟩
  rw [eX12_runs]
  rw [nI_0] at h2
  simp only [xX12_runs_0, xX12_runs_1, clr_i]
  exact h2

-- THE STEP: the class's motion does it
theorem staF_at {n : Nat} {t : Int32} {st sa : Nat → Int32} : eqR n (staF n t st sa) (actF (fun i => decide (st i = t)) sa) := by
  have h := itf_inv (f := fun i sa => if sa i = 0 then (if st i = t then upd sa i 1 else sa) else sa) (n := n) (Q := fun i s => ∀ c, s c = if c < i then actF (fun i => decide (st i = t)) sa c else sa c) (by
    intro i s hi hq c
    have hi0 : s i = sa i := by rw [hq i, if_neg (by omega)]
    have hel : ∀ c, c ≠ i → (if c < i then actF (fun i => decide (st i = t)) sa c else sa c) = if c < i + 1 then actF (fun i => decide (st i = t)) sa c else sa c := by
      intro c hc
      by_cases h1 : c < i
      · rw [if_pos h1, if_pos (by omega)]
      · rw [if_neg h1, if_neg (by omega)]
    by_cases z : s i = 0
    · rw [if_pos z]
      by_cases y : st i = t
      · rw [if_pos y]
        by_cases hc : c = i
        · subst hc
          rw [pk_us, if_pos (by omega)]
          unfold actF
          rw [← hi0, if_pos z, if_pos (by simpa using y)]
        · rw [pk_un hc, hq c, hel c hc]
      · rw [if_neg y]
        by_cases hc : c = i
        · subst hc
          rw [if_pos (by omega), hi0]
          unfold actF
          rw [← hi0, if_pos z, if_neg (by simpa using y)]
        · rw [hq c, hel c hc]
    · rw [if_neg z]
      by_cases hc : c = i
      · subst hc
        rw [if_pos (by omega), hi0]
        unfold actF
        rw [← hi0, if_neg z]
      · rw [hq c, hel c hc]) n 0 sa (by omega) (fun c => by rw [if_neg (by omega)])
  intro c hc
  have := h c
  rw [if_pos hc] at this
  exact this
theorem wei_pul {n : Nat} {sa ph bo r : Nat → Int32} (hph : phO n ph) : eqR n (weiF n sa ph bo r) (pulG (fun c k => bo (c * 6 + k)) ph sa n) := by
  intro c hc
  rw [wei_at hph c, if_pos hc]
  unfold pulG
  by_cases z : sa c = 1
  · rw [if_pos z]
    refine smI_cong (fun k _ => ?_)
    unfold tugF tugG
    simp only [z, if_true]
  · rw [if_neg z]
    refine smI_zero (fun k _ => ?_)
    unfold tugF
    simp only [z, if_false, ite_self]
theorem pulG_cong {n : Nat} {bo : Nat → Nat → Int32} {ph ph' sa sa' : Nat → Int32} (h1 : eqR n ph ph') (h2 : eqR n sa sa') : eqR n (pulG bo ph sa n) (pulG bo ph' sa' n) := by
  intro c hc
  unfold pulG
  rw [h2 c hc, smI_cong (g := tugG bo ph' sa' c) (fun k hk => ?_)]
  unfold tugG
  rw [h2 k hk, h1 k hk, h1 c hc]
/-- the state of a motion, and its parameters -/
def sMo (I : Mem) (m : Nat) : S5 := (I (m + 7), I (m + 8), I (m + 9), I (m + 10), I m 18)
def stC (I : Mem) (m t lenL lenG : Nat) (n : Nat) (k : Int32) (s : S5) : S5 := stepG (losC I t lenL (I m 4)) (goC I t lenG) (I (t + 12)) (I (m + 5)) (I (m + 4)) (I (m + 3)) (fun c q => I (m + 11) (c * 6 + q)) (fun i => decide (I (m + 6) i = k)) k n s
theorem adv_st {I : Mem} {m t n lenL lenG : Nat} (hph : phO n (I (m + 7))) : eqS n (advS I m t n lenL lenG) (stC I m t lenL lenG n (I m 2) (sMo I m)) := by
  unfold advS stC stepG sMo
  dsimp only
  refine runS_cong eqLo.rf eqGo.rf eqR.rf eqR.rf eqR.rf eqR.rf ?_ ⟨eqR.rf, eqR.rf, eqR.rf, staF_at, rfl⟩
  unfold advP
  exact (wei_pul hph).tr (pulG_cong eqR.rf staF_at)
theorem advM_s {I : Mem} {m t n lenL lenG : Nat} : sMo (advM I m t n lenL lenG) m = advS I m t n lenL lenG := by
  unfold sMo advM
  rw [moM_7, moM_8, moM_9, moM_10, moM_0, pk_un (by decide), pk_us]
theorem advM_2 {I : Mem} {m t n lenL lenG : Nat} : advM I m t n lenL lenG m 2 = I m 2 + 1 := by
  unfold advM
  rw [moM_0, pk_us]
theorem advM_f {I : Mem} {m t n lenL lenG k : Nat} (h2 : k ≠ 2) (h18 : k ≠ 18) : advM I m t n lenL lenG m k = I m k := by
  unfold advM
  rw [moM_0, pk_un h2, pk_un h18]
theorem stC_adv {I : Mem} {m t n lenL lenG : Nat} (hm : isMo m) (ht : isTe t) : stC (advM I m t n lenL lenG) m t lenL lenG n = stC I m t lenL lenG n := by
  have hm2 := mo_lo hm
  have ht2 := te_hi ht
  funext k s
  have e1 : losC (advM I m t n lenL lenG) t lenL (I m 4) = losC I t lenL (I m 4) := by
    funext nm
    unfold losC
    simp (disch := omega) only [advM_o]
  have e2 : goC (advM I m t n lenL lenG) t lenG = goC I t lenG := by
    funext nm sp
    unfold goC
    simp (disch := omega) only [advM_o]
  unfold stC
  rw [advM_f (by decide) (by decide), e1, e2]
  simp (disch := omega) only [advM_o]
theorem stC_ph {I : Mem} {m t n lenL lenG : Nat} {k : Int32} {s : S5} (h : phO n s.1) : phO n (stC I m t lenL lenG n k s).1 := stepG_ph h
theorem stC_cong {I : Mem} {m t n lenL lenG : Nat} {k : Int32} {s s' : S5} (h : eqS n s s') : eqS n (stC I m t lenL lenG n k s) (stC I m t lenL lenG n k s') := stepG_cong eqLo.rf eqGo.rf eqR.rf eqR.rf eqR.rf eqR.rf (fun _ _ _ _ _ => rfl) (fun _ _ => rfl) ⟨h.1, h.2.1, h.2.2.1, h.2.2.2.1⟩
theorem phO_eq {n : Nat} {f g : Nat → Int32} (h : eqR n f g) (hf : phO n f) : phO n g := fun c hc => by rw [← h c hc]; exact hf c hc
/-- k steps from step t0 on -/
theorem goM_st {I : Mem} {m t n lenL lenG : Nat} (hm : isMo m) (ht : isTe t) : ∀ (k t0 : Nat) (I' : Mem), stC I' m t lenL lenG n = stC I m t lenL lenG n → I' m 2 = nI t0 → phO n (I' (m + 7)) → ∀ s, eqS n (sMo I' m) s → ∀ j,
    eqS n (sMo (itf (fun _ I => advM I m t n lenL lenG) k j I') m) (itf (fun j s => stC I m t lenL lenG n (nI j) s) k t0 s) ∧ (itf (fun _ I => advM I m t n lenL lenG) k j I') m 2 = nI (t0 + k)
  | 0, t0, I', _, h2, _, s, hs, j => ⟨hs, h2⟩
  | k + 1, t0, I', h1, h2, h3, s, hs, j => by
    unfold itf
    have ha := adv_st (t := t) (n := n) (lenL := lenL) (lenG := lenG) h3
    rw [h1, h2] at ha
    have hs2 : eqS n (sMo (advM I' m t n lenL lenG) m) (stC I m t lenL lenG n (nI t0) s) := by
      rw [advM_s]
      exact ha.tr (stC_cong hs)
    have := goM_st (I := I) hm ht k (t0 + 1) (advM I' m t n lenL lenG) (by rw [stC_adv hm ht, h1]) (by rw [advM_2, h2, nI_1]) (by
      have h4 : phO n (advS I' m t n lenL lenG).1 := phO_eq ha.sm.1 (stC_ph (s := sMo I' m) h3)
      have h5 : (sMo (advM I' m t n lenL lenG) m).1 = advM I' m t n lenL lenG (m + 7) := rfl
      rw [← h5, advM_s]
      exact h4) _ hs2 (j + 1)
    rw [show t0 + 1 + k = t0 + (k + 1) by omega] at this
    exact this

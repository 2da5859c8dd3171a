-- STEPS: both go on
theorem row6_at {n : Nat} {v : Nat → Int32} {i : Nat} {r : Nat → Int32} (hn : n ≤ 6) : ∀ a b, b < 6 → itf (fun j r => upd r (i * 6 + j) (v j)) n 0 r (a * 6 + b) = if a = i ∧ b < n then v b else r (a * 6 + b) := by
  exact itf_inv (f := fun j (r : Nat → Int32) => upd r (i * 6 + j) (v j)) (n := n) (Q := fun j s => ∀ a b, b < 6 → s (a * 6 + b) = if a = i ∧ b < j then v b else r (a * 6 + b)) (by
    intro j s hj hq a b hb
    by_cases h1 : a * 6 + b = i * 6 + j
    · obtain ⟨rfl, rfl⟩ : a = i ∧ b = j := by omega
      rw [pk_us, if_pos ⟨rfl, by omega⟩]
    · rw [pk_un h1, hq a b hb]
      by_cases h2 : a = i ∧ b < j
      · rw [if_pos h2, if_pos ⟨h2.1, by omega⟩]
      · rw [if_neg h2, if_neg (fun q => h2 ⟨q.1, by
          rcases Nat.lt_or_ge b j with w | w
          · exact w
          · exfalso
            have : b = j := by omega
            exact h1 (by rw [q.1, this])⟩)]) n 0 r (by omega) (fun a b _ => by rw [if_neg (by omega)])
theorem or_bit : ∀ p, p < 64 → ∀ i, i < 6 → nI p ||| (1 : Int32) <<< (nI i &&& 31) = nI (p ||| 2 ^ i) ∧ p ||| 2 ^ i < 64 := by decide +kernel
theorem movT_sk {i : Nat} {x p : Int32} {s : S5} (hi : i < 6) (h : ∃ q, q < 64 ∧ s.2.2.2.2 = nI q) : ∃ q, q < 64 ∧ (movT x p i s).2.2.2.2 = nI q := by
  unfold movT
  by_cases z : x = 0
  · rw [if_pos z]; exact h
  · rw [if_neg z]
    by_cases w : p < 1000
    · rw [if_pos w]; exact h
    · rw [if_neg w]
      obtain ⟨q, h1, h2⟩ := h
      obtain ⟨e1, e2⟩ := or_bit q h1 i hi
      exact ⟨q ||| 2 ^ i, e2, by dsimp only; rw [h2, e1]⟩
theorem stepG_sk {n : Nat} {lose : (Nat → Int64) → Int32} {go : (Nat → Int64) → Int32 → Int32} {dr sp we pl : Nat → Int32} {bo : Nat → Nat → Int32} {act : Nat → Bool} {t : Int32} {s : S5} (hn : n ≤ 6) : ∃ q, q < 64 ∧ (stepG lose go dr sp we pl bo act t n s).2.2.2.2 = nI q := by
  unfold stepG runS
  exact itf_inv (Q := fun _ (s : S5) => ∃ q, q < 64 ∧ s.2.2.2.2 = nI q) (n := n) (fun i s hi q => by
    split
    · rw [movS_eq]; exact movT_sk (by omega) q
    · exact q) n 0 _ (by omega) ⟨0, by omega, rfl⟩
theorem i8_ok : ∀ q, q < 64 → (nI q).toInt8.toInt32 = nI q := by decide +kernel
theorem i16_ok : ∀ q, q < 1000 → (nI q).toInt16.toInt32 = nI q := by decide +kernel
/-- states from s on, k steps from step st on -/
def sq (G : Nat → S5 → S5) (st : Nat) (s : S5) : Nat → S5
  | 0 => s
  | k + 1 => G (st + k) (sq G st s k)
def hiR (r : Nat → Int32) (st n : Nat) (sq : Nat → S5) (τ c : Nat) : Int32 := if τ < st then r (τ * 6 + c) else (sq (τ - st + 1)).1 c
def hiS (r : Nat → Int32) (st : Nat) (sq : Nat → S5) (τ : Nat) : Int32 := if τ < st then r τ else (sq (τ - st + 1)).2.2.2.2
section STC
variable {I X : Mem} {J : MemL} {R : MemR} {t t' n nb nm fL lL fG lG st : Nat}
theorem stC_fr {m : Nat} (hm : isMo m) (ht : isTe t) (o : ∀ a, a < 60 → X a = I a) (o3 : X (m + 3) = I (m + 3)) (o4 : X (m + 4) = I (m + 4)) (o5 : X (m + 5) = I (m + 5)) (o6 : X (m + 6) = I (m + 6)) (o11 : X (m + 11) = I (m + 11)) (f4 : X m 4 = I m 4) : stC X m t lL lG n = stC I m t lL lG n := by
  have ht2 := te_hi ht
  funext k s
  have e1 : ∀ x, losC X t lL x = losC I t lL x := by
    intro x
    funext nm
    unfold losC
    simp (disch := omega) only [o]
  have e2 : goC X t lG = goC I t lG := by
    funext nm sp
    unfold goC
    simp (disch := omega) only [o]
  unfold stC
  rw [e1, e2, o3, o4, o5, o6, o11, f4, o (t + 12) (by omega)]
/-- the class behind i steps of a call -/
def cGo (I X : Mem) (t n st lL lG i : Nat) : Prop :=
  (∀ a, a ≠ 60 → a ≠ 67 → a ≠ 68 → a ≠ 69 → a ≠ 70 → a ≠ 72 → a ≠ 103 → a ≠ 104 → X a = I a) ∧ (∀ k, k ≠ 2 → k ≠ 18 → X 60 k = I 60 k) ∧ X 60 2 = nI (st + i) ∧ eqW n (sMo X 60) (sq (fun j s => stC I 60 t lL lG n (nI j) s) st (sMo I 60) i) ∧
  ∀ τ, τ < st + i → (∀ c, c < n → X 103 (τ * 6 + c) = hiR (I 103) st n (sq (fun j s => stC I 60 t lL lG n (nI j) s) st (sMo I 60)) τ c) ∧ X 104 τ = hiS (I 104) st (sq (fun j s => stC I 60 t lL lG n (nI j) s) st (sMo I 60)) τ
theorem sq_ph {i : Nat} (h : phO n (I 67)) : phO n (sq (fun j s => stC I 60 t lL lG n (nI j) s) st (sMo I 60) i).1 := by
  cases i with
  | zero => exact h
  | succ i =>
    have : ∀ k, phO n (sq (fun j s => stC I 60 t lL lG n (nI j) s) st (sMo I 60) k).1 := by
      intro k
      induction k with
      | zero => exact h
      | succ k ih => exact stC_ph ih
    exact this (i + 1)
/-- tell: the step that has just ended goes into the story -/
theorem tel_c {d j : Nat} {s : Int32} {X : Mem} (hn : X 60 1 = nI n) (hn6 : n ≤ 6) (h2 : X 60 2 = nI (j + 1)) (hj : j < 4000) (hs : X 60 18 = s) : C (d + 1) MX8_tell [.ref 102, .ref 60] (hp X J R) = some (none, hp (va_up (va_up X 104 (upd (X 104) j (s.toInt8.toInt32.toInt8.toInt32))) 103 (itf (fun c r => upd r (j * 6 + c) ((X 67 c).toInt16.toInt32.toInt16.toInt32)) n 0 (X 103))) J R) := by
  have c4 : nI j < (4000 : Int32) := nI_lt (b := 4000) hj (by omega)
  generalize hX : va_up X 104 (upd (X 104) j (s.toInt8.toInt32.toInt8.toInt32)) = Y
  have hl := for_0 (P := fun c (r : Nat → Int32) => E (C d) MX8_tell 32 [some (.ref 102), some (.ref 60), some (.int (nI j)), some (.int (nI c))] [] (hp (va_up Y 103 r) J R)) (fin := fun r => some (none, hp (va_up Y 103 r) J R)) (f := fun c r => upd r (j * 6 + c) ((X 67 c).toInt16.toInt32.toInt16.toInt32)) (n := n) (s := X 103) (by
    intro c r hc
    have c1 : ¬ n ≤ c := by omega
    have u1 : Y 60 1 = nI n := by rw [← hX, up_n (by omega)]; exact hn
    have u2 : Y 67 = X 67 := by rw [← hX, up_n (by omega)]
    rw [xX8_tell_32]
    simp (disch := omega) only [xX8_tell_33, xX8_tell_34, xX8_tell_37, xX8_tell_40, xX8_tell_41, xX8_tell_44, xX8_tell_45, xX8_tell_47, xX8_tell_48, xX8_tell_49, xX8_tell_50, xX8_tell_51, xX8_tell_54, xX8_tell_55, xX8_tell_56, xX8_tell_57, xX8_tell_58, xX8_tell_61, xX8_tell_64, kd_102, fi_102_0, kd_103, ln_103, fi_102_1, kd_104, ln_104, kd_60, fi_60_11, kd_67, ln_67, ↓reduceIte, gd_t, hK_p, hN_p, hF_p, hI_p, hJ_p, hR_p, stI_p, stJ_p, stR_p, stA_p, va_rf_s, va_rf_n, clr_i, clr_l, clr_r, clr_n, clr_o, w8_0, w8_1i, w8_1r, w8_2ii, w8_2ri, w8_2ir, w8_2rr, w8_3, beq_self_eq_true, Bool.and_self, Bool.and_true, Bool.true_and, decide_true, Option.toList_some, Option.toList_none, List.cons_append, List.nil_append, Option.bind_some, if_true, if_false, Nat.reduceLeDiff, Nat.reduceLT, Nat.reduceBEq, Bool.or_false, Bool.false_or, Bool.or_true, Bool.true_or, nI_leI, nI_ltI, nI_eq, nI_clamp, inb_n, up_s, up_n, bx_uu, nI_1, ix6, nI_0n, pk_us, pk_un, ge_0n, u1, u2, c1]) (by
    intro r
    have c1 : n ≤ n := Nat.le_refl n
    have u1 : Y 60 1 = nI n := by rw [← hX, up_n (by omega)]; exact hn
    rw [xX8_tell_32]
    simp (disch := omega) only [xX8_tell_33, xX8_tell_34, xX8_tell_37, xX8_tell_40, xX8_tell_41, xX8_tell_44, xX8_tell_45, xX8_tell_47, xX8_tell_48, xX8_tell_49, xX8_tell_50, xX8_tell_51, xX8_tell_54, xX8_tell_55, xX8_tell_56, xX8_tell_57, xX8_tell_58, xX8_tell_61, xX8_tell_64, kd_102, fi_102_0, kd_103, ln_103, fi_102_1, kd_104, ln_104, kd_60, fi_60_11, kd_67, ln_67, ↓reduceIte, gd_t, hK_p, hN_p, hF_p, hI_p, hJ_p, hR_p, stI_p, stJ_p, stR_p, stA_p, va_rf_s, va_rf_n, clr_i, clr_l, clr_r, clr_n, clr_o, w8_0, w8_1i, w8_1r, w8_2ii, w8_2ri, w8_2ir, w8_2rr, w8_3, beq_self_eq_true, Bool.and_self, Bool.and_true, Bool.true_and, decide_true, Option.toList_some, Option.toList_none, List.cons_append, List.nil_append, Option.bind_some, if_true, if_false, Nat.reduceLeDiff, Nat.reduceLT, Nat.reduceBEq, Bool.or_false, Bool.false_or, Bool.or_true, Bool.true_or, nI_leI, nI_ltI, nI_eq, nI_clamp, inb_n, up_s, up_n, bx_uu, nI_1, ix6, nI_0n, pk_us, pk_un, ge_0n, u1, c1])
  have e3 : va_up Y 103 (X 103) = Y := by
    have : X 103 = Y 103 := by rw [← hX, up_n (by decide)]
    rw [this, up_self]
  rw [nI_0, e3] at hl
  rw [eX8_tell]
  simp (disch := omega) only [xX8_tell_0, xX8_tell_1, xX8_tell_4, xX8_tell_5, xX8_tell_6, xX8_tell_7, xX8_tell_8, xX8_tell_11, xX8_tell_12, xX8_tell_15, xX8_tell_18, xX8_tell_19, xX8_tell_20, xX8_tell_23, xX8_tell_24, xX8_tell_25, xX8_tell_28, xX8_tell_29, xX8_tell_30, xX8_tell_31, kd_102, fi_102_0, kd_103, ln_103, fi_102_1, kd_104, ln_104, kd_60, fi_60_11, kd_67, ln_67, ↓reduceIte, gd_t, hK_p, hN_p, hF_p, hI_p, hJ_p, hR_p, stI_p, stJ_p, stR_p, stA_p, va_rf_s, va_rf_n, clr_i, clr_l, clr_r, clr_n, clr_o, w8_0, w8_1i, w8_1r, w8_2ii, w8_2ri, w8_2ir, w8_2rr, w8_3, beq_self_eq_true, Bool.and_self, Bool.and_true, Bool.true_and, decide_true, Option.toList_some, Option.toList_none, List.cons_append, List.nil_append, Option.bind_some, if_true, if_false, Nat.reduceLeDiff, Nat.reduceLT, Nat.reduceBEq, Bool.or_false, Bool.false_or, Bool.or_true, Bool.true_or, nI_leI, nI_ltI, nI_eq, nI_clamp, inb_n, up_s, up_n, bx_uu, nI_1, ix6, nI_0n, pk_us, pk_un, ge_0n, h2, nI_p1, c4, hs, hX, hl]
theorem cGo_step {d i : Nat} {X : Mem} (h : cAll I R t t' n nb nm fL lL fG lG st) (hi : st + i < 4000) (g : cGo I X t n st lL lG i) : ∃ X1 J1 X2, C (d + 4) MX4_advance [.ref 60] (hp X J R) = some (none, hp X1 J1 R) ∧ C (d + 4) MX8_tell [.ref 102, .ref 60] (hp X1 J1 R) = some (none, hp X2 J1 R) ∧ cGo I X2 t n st lL lG (i + 1) := by
  have hn6 := h.n6
  have ht2 := te_hi h.te
  have hm : isMo 60 := Or.inl rfl
  obtain ⟨g1, g2, g3, g4, g5⟩ := g
  have o : ∀ a, a < 60 → X a = I a := fun a ha => g1 a (by omega) (by omega) (by omega) (by omega) (by omega) (by omega) (by omega) (by omega)
  have hn : X 60 1 = nI n := by rw [g2 1 (by decide) (by decide)]; exact h.now.2.1
  have hok : okL X t lL lG := by
    have := cLws_okL h.lws
    unfold okL at this ⊢
    simp (disch := omega) only [o]
    exact this
  have hI7 : phO n (I 67) := fun c hc => (h.now.2.2.2.2.2.2.2.2.2.2.1 c hc).2.1
  have hsp := sq_ph (t := t) (lL := lL) (lG := lG) (st := st) (i := i) hI7
  generalize hG : sq (fun j s => stC I 60 t lL lG n (nI j) s) st (sMo I 60) = G at *
  have hph : phO n (X 67) := phO_eq g4.1.sm hsp
  obtain ⟨J1, e1⟩ := adv_spec (d := d) (m := 60) (J := J) hm h.te h.now.1 hn hn6 hok
  have hst := adv_st (m := 60) (t := t) (lenL := lL) (lenG := lG) hph
  have hC : stC X 60 t lL lG n = stC I 60 t lL lG n := stC_fr hm h.te o (g1 _ (by decide) (by decide) (by decide) (by decide) (by decide) (by decide) (by decide) (by decide)) (g1 _ (by decide) (by decide) (by decide) (by decide) (by decide) (by decide) (by decide) (by decide)) (g1 _ (by decide) (by decide) (by decide) (by decide) (by decide) (by decide) (by decide) (by decide)) (g1 _ (by decide) (by decide) (by decide) (by decide) (by decide) (by decide) (by decide) (by decide)) (g1 _ (by decide) (by decide) (by decide) (by decide) (by decide) (by decide) (by decide) (by decide)) (g2 4 (by decide) (by decide))
  have hnew : eqS n (sMo (advM X 60 t n lL lG) 60) (G (i + 1)) := by
    rw [advM_s]
    refine hst.tr ?_
    rw [hC, g3, ← hG]
    have : sq (fun j s => stC I 60 t lL lG n (nI j) s) st (sMo I 60) (i + 1) = stC I 60 t lL lG n (nI (st + i)) (G i) := by rw [← hG]; rfl
    rw [this]
    exact stepG_cong eqLo.rf eqGo.rf eqR.rf eqR.rf eqR.rf eqR.rf (fun _ _ _ _ _ => rfl) (fun _ _ => rfl) g4
  have o1 : ∀ a, a ≠ 60 → a ≠ 67 → a ≠ 68 → a ≠ 69 → a ≠ 70 → a ≠ 72 → advM X 60 t n lL lG a = X a := fun a h0 h1 h2 h3 h4 h5 => advM_o h0 h1 h2 h3 h4 h5
  have f1 : ∀ k, k ≠ 2 → k ≠ 18 → advM X 60 t n lL lG 60 k = X 60 k := fun k h1 h2 => advM_f h1 h2
  have e2 : advM X 60 t n lL lG 60 2 = nI (st + i + 1) := by rw [advM_2, g3, nI_1]
  have e18 : advM X 60 t n lL lG 60 18 = (G (i + 1)).2.2.2.2 := hnew.2.2.2.2
  have e7 : ∀ c, c < n → advM X 60 t n lL lG 67 c = (G (i + 1)).1 c := hnew.1
  have hsk : ∃ q, q < 64 ∧ (G (i + 1)).2.2.2.2 = nI q := by
    have : G (i + 1) = stC I 60 t lL lG n (nI (st + i)) (G i) := by rw [← hG]; rfl
    rw [this]
    exact stepG_sk hn6
  have hp7 : phO n (G (i + 1)).1 := by
    have := sq_ph (I := I) (t := t) (lL := lL) (lG := lG) (st := st) (i := i + 1) hI7
    rw [hG] at this
    exact this
  have et := tel_c (d := d + 3) (J := J1) (R := R) (s := (G (i + 1)).2.2.2.2) (by rw [f1 1 (by decide) (by decide)]; exact hn) hn6 e2 hi e18
  refine ⟨advM X 60 t n lL lG, J1, _, e1, et, ?_⟩
  generalize advM X 60 t n lL lG = Y at *
  refine ⟨fun a h0 h1 h2 h3 h4 h5 h6 h7 => ?_, fun k h1 h2 => ?_, ?_, ?_, fun τ hτ => ⟨fun c hc => ?_, ?_⟩⟩
  · rw [up_n h6, up_n h7, o1 a h0 h1 h2 h3 h4 h5, g1 a h0 h1 h2 h3 h4 h5 h6 h7]
  · rw [up_n (by decide), up_n (by decide), f1 k h1 h2, g2 k h1 h2]
  · rw [up_n (by decide), up_n (by decide)]; exact e2
  · rw [hG]
    have : sMo (va_up (va_up Y 104 (upd (Y 104) (st + i) ((G (i + 1)).2.2.2.2.toInt8.toInt32.toInt8.toInt32))) 103 (itf (fun c r => upd r ((st + i) * 6 + c) ((Y 67 c).toInt16.toInt32.toInt16.toInt32)) n 0 (Y 103))) 60 = sMo Y 60 := by
      unfold sMo
      simp (disch := omega) only [up_n]
    rw [this]
    exact ⟨hnew.1, hnew.2.1, hnew.2.2.1, hnew.2.2.2.1⟩
  · rw [hG, up_s, row6_at hn6 τ c (by omega)]
    by_cases z : τ = st + i
    · rw [if_pos ⟨z, hc⟩, e7 c hc]
      obtain ⟨p, p1, p2⟩ := hp7 c hc
      unfold hiR
      rw [if_neg (by omega), show τ - st + 1 = i + 1 by omega, p2, i16_ok p p1, i16_ok p p1]
    · rw [if_neg (by omega), o1 103 (by decide) (by decide) (by decide) (by decide) (by decide) (by decide)]
      exact (g5 τ (by omega)).1 c hc
  · rw [hG, up_n (by decide), up_s]
    by_cases z : τ = st + i
    · rw [z, pk_us]
      obtain ⟨p, p1, p2⟩ := hsk
      unfold hiS
      rw [if_neg (by omega), show st + i - st + 1 = i + 1 by omega, p2, i8_ok p p1, i8_ok p p1]
    · rw [pk_un z, o1 104 (by decide) (by decide) (by decide) (by decide) (by decide) (by decide)]
      exact (g5 τ (by omega)).2
theorem cGo_0 (h : cAll I R t t' n nb nm fL lL fG lG st) : cGo I I t n st lL lG 0 := by
  refine ⟨fun _ _ _ _ _ _ _ _ _ => rfl, fun _ _ _ => rfl, h.sc, ⟨eqR.rf, eqR.rf, eqR.rf, eqR.rf⟩, fun τ hτ => ⟨fun c hc => ?_, ?_⟩⟩
  · unfold hiR
    rw [if_pos (by omega)]
  · unfold hiS
    rw [if_pos (by omega)]
theorem cGo_all {d k : Nat} (h : cAll I R t t' n nb nm fL lL fG lG st) (hk : st + k ≤ 4000) : ∀ (q i : Nat) (X : Mem) (J : MemL), i + q = k → cGo I X t n st lL lG i → ∃ X1 J1, E (C (d + 4)) MX11_steps 30 [some (.ref 0), some (.int (nI k)), some (.int (nI i))] [] (hp X J R) = E (C (d + 4)) MX11_steps 59 [some (.ref 0), some (.int (nI k)), some (.int (nI k))] [] (hp X1 J1 R) ∧ cGo I X1 t n st lL lG k := by
  intro q
  induction q with
  | zero =>
    intro i X J hi g
    obtain rfl : i = k := by omega
    have c0 : i ≤ i := Nat.le_refl i
    refine ⟨X, J, ?_, g⟩
    rw [xX11_steps_30]
    simp (disch := omega) only [xX11_steps_31, xX11_steps_32, xX11_steps_35, xX11_steps_36, xX11_steps_39, xX11_steps_42, xX11_steps_43, xX11_steps_46, xX11_steps_47, xX11_steps_50, xX11_steps_53, xX11_steps_56, kd_0, fi_0_5, kd_60, fi_0_9, kd_102, fi_0_10, kd_105, ↓reduceIte, gd_t, hK_p, hN_p, hF_p, hI_p, hJ_p, hR_p, stI_p, stJ_p, stR_p, stA_p, va_rf_s, va_rf_n, clr_i, clr_l, clr_r, clr_n, clr_o, w8_0, w8_1i, w8_1r, w8_2ii, w8_2ri, w8_2ir, w8_2rr, w8_3, beq_self_eq_true, Bool.and_self, Bool.and_true, Bool.true_and, decide_true, Option.toList_some, Option.toList_none, List.cons_append, List.nil_append, Option.bind_some, if_true, if_false, Nat.reduceLeDiff, Nat.reduceLT, Nat.reduceBEq, Bool.or_false, Bool.false_or, Bool.or_true, Bool.true_or, nI_leI, nI_ltI, nI_eq, nI_clamp, inb_n, up_s, up_n, bx_uu, nI_1, ix6, nI_0n, pk_us, pk_un, ge_0n, c0]
  | succ q ih =>
    intro i X J hi g
    obtain ⟨X1, J1, X2, e1, e2, g2⟩ := cGo_step (d := d) (J := J) h (by omega) g
    obtain ⟨X3, J3, e3, g3⟩ := ih (i + 1) X2 J1 (by omega) g2
    have c0 : ¬ k ≤ i := by omega
    refine ⟨X3, J3, ?_, g3⟩
    rw [xX11_steps_30]
    simp (disch := omega) only [xX11_steps_31, xX11_steps_32, xX11_steps_35, xX11_steps_36, xX11_steps_39, xX11_steps_42, xX11_steps_43, xX11_steps_46, xX11_steps_47, xX11_steps_50, xX11_steps_53, xX11_steps_56, kd_0, fi_0_5, kd_60, fi_0_9, kd_102, fi_0_10, kd_105, kd_60, kd_102, ↓reduceIte, gd_t, hK_p, hN_p, hF_p, hI_p, hJ_p, hR_p, stI_p, stJ_p, stR_p, stA_p, va_rf_s, va_rf_n, clr_i, clr_l, clr_r, clr_n, clr_o, w8_0, w8_1i, w8_1r, w8_2ii, w8_2ri, w8_2ir, w8_2rr, w8_3, beq_self_eq_true, Bool.and_self, Bool.and_true, Bool.true_and, decide_true, Option.toList_some, Option.toList_none, List.cons_append, List.nil_append, Option.bind_some, if_true, if_false, Nat.reduceLeDiff, Nat.reduceLT, Nat.reduceBEq, Bool.or_false, Bool.false_or, Bool.or_true, Bool.true_or, nI_leI, nI_ltI, nI_eq, nI_clamp, inb_n, up_s, up_n, bx_uu, nI_1, ix6, nI_0n, pk_us, pk_un, ge_0n, c0, e1, e2, e3]
end STC

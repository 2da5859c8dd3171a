-- LEAST, 5: the model's parts
theorem srF_c {n c : Nat} {p : Nat → Bool} (hc : c < n) (h : p c = true) : (srF (fun i (_ : Unit) => p i) (fun _ s => s) n 0 ()).1 = some c ↔ ∀ j, j < c → p j = false := by
  have key : ∀ (k i : Nat), i ≤ c → c < i + k → ((srF (fun i (_ : Unit) => p i) (fun _ s => s) k i ()).1 = some c ↔ ∀ j, i ≤ j → j < c → p j = false) := by
    intro k
    induction k with
    | zero => intro i h1 h2; omega
    | succ k ih =>
      intro i h1 h2
      unfold srF
      by_cases z : p i = true
      · rw [if_pos z]
        constructor
        · intro q j h3 h4
          have : i = c := by simpa using q
          omega
        · intro q
          rcases Nat.lt_or_ge i c with w | w
          · rw [q i (Nat.le_refl i) w] at z
            exact absurd z (by decide)
          · have : i = c := by omega
            rw [this]
      · rw [if_neg z]
        have hic : i < c := by
          rcases Nat.lt_or_ge i c with w | w
          · exact w
          · have : i = c := by omega
            rw [this] at z
            exact absurd h z
        rw [ih (i + 1) (by omega) (by omega)]
        constructor
        · intro q j h3 h4
          by_cases w : j = i
          · rw [w]; simpa using z
          · exact q j (by omega) h4
        · intro q j h3 h4
          exact q j (by omega) h4
  rw [key n 0 (by omega) (by omega)]
  exact ⟨fun q j hj => q j (by omega) hj, fun q j _ hj => q j hj⟩
theorem rnG_cong2 {lo : (Nat → Int64) → Int32} {go : (Nat → Int64) → Int32 → Int32} {dr sp we pl pl' ph sw : Nat → Int32} {bo bo' : Nat → Nat → Int32} {ac : Nat → Nat → Bool} {n : Nat} (h : eqR n pl pl') (h2 : ∀ c q, c < n → q < n → bo c q = bo' c q) : ∀ k, eqW n (rnG ((lo, go, dr, sp, we, pl, bo, ac, ph, sw) : PR) n k) (rnG ((lo, go, dr, sp, we, pl', bo', ac, ph, sw) : PR) n k)
  | 0 => ⟨eqR.rf, eqR.rf, eqR.rf, eqR.rf⟩
  | k + 1 => by
    have ih := rnG_cong2 (lo := lo) (go := go) (dr := dr) (sp := sp) (we := we) (ph := ph) (sw := sw) (ac := ac) h h2 k
    have := stepG_cong (n := n) (lose := lo) (lose' := lo) (go := go) (go' := go) (dr := dr) (dr' := dr) (sp := sp) (sp' := sp) (we := we) (we' := we) (pl := pl) (pl' := pl') (bo := bo) (bo' := bo') (act := ac k) (act' := ac k) (t := nI k) eqLo.rf eqGo.rf eqR.rf eqR.rf eqR.rf h (fun c q hc hq _ => h2 c q hc hq) (fun _ _ => rfl) ih
    exact ⟨this.1, this.2.1, this.2.2.1, this.2.2.2.1⟩
section LEM
variable {I X : Mem} {J : MemL} {R R1 : MemR} {t t' n nb nm fL lL fG lG st : Nat}
theorem P0_cong {B Pl B' Pl' : Nat → Int32} (h : eqR n B B') (h2 : eqR n Pl Pl') (k : Nat) : eqW n (rnG (P0 I t lL lG B Pl) n k) (rnG (P0 I t lL lG B' Pl') n k) :=
  rnG_cong2 h2 (fun c q hc hq => bonF_cong rfl (fun _ _ => rfl) (h2 c hc) (h2 q hq) (h c hc) (h q hq)) k
theorem kpV_cong {N : Nat} {bits k : Int32} {own B Pl B' Pl' : Nat → Int32} (h : eqR n B B') (h2 : eqR n Pl Pl') : kpV (P0 I t lL lG B Pl) n N bits k own = kpV (P0 I t lL lG B' Pl') n N bits k own := by
  have e := P0_cong (I := I) (t := t) (lL := lL) (lG := lG) h h2 N
  unfold kpV
  rw [(srF_sim (c := fun c (_ : Unit) => decide (isB bits (nI c)) && decide (k < disF ((rnG (P0 I t lL lG B Pl) n N).2.2.1 c) (own c))) (c' := fun c (_ : Unit) => decide (isB bits (nI c)) && decide (k < disF ((rnG (P0 I t lL lG B' Pl') n N).2.2.1 c) (own c))) (f := fun _ s => s) (f' := fun _ s => s) (Rl := fun _ (_ _ : Unit) => True) (n := n) (fun j _ _ hj _ => by rw [e.2.2.1 j hj]) (fun _ _ _ _ _ _ => trivial) n 0 () () (by omega) trivial).1]
/-- the model in its search -/
def mL (I : Mem) (t lL lG n N : Nat) (bits : Int32) (X : Mem) : Prop := plQ I t n X ∧ ∀ c, c < n → isB bits (nI c) → X 163 c = owF I t lL lG n N c
theorem hux_self : huxM X n (shR 6 (X 151)) (shR 6 (X 152)) = X := by
  have e : ∀ f : Nat → Int32, cpF f f n = f := fun f => by
    funext k
    unfold cpF
    split <;> rfl
  unfold huxM
  rw [e, e, pt_sh, pt_sh, up_self]
  exact up_self _ _
theorem nI6c {c : Nat} : (6 : Int32) + nI c = nI (6 + c) := nI_add 6 c
theorem kps_m {d N k : Nat} {bits : Int32} {B Pl : Nat → Int32} (h : cAll I R t t' n nb nm fL lL fG lG st) (m : mL I t lL lG n N bits X) (hN : N ≤ 60) (eb : ∀ c, c < n → X 151 (6 + c) = B c) (ep : ∀ c, c < n → X 152 (6 + c) = Pl c) (hB : ∀ c, c < n → ∃ x, x < nb ∧ B c = nI x) (hP : ∀ c, c < n → inN (Pl c) 0 30) : ∃ X1 J1, C (d + 7) MX12_keeps [.ref 123, .int bits, .int (nI N), .int (nI k)] (hp X J R1) = some (some (.int (kK I t lL lG n N k bits B Pl)), hp X1 J1 R1) ∧ mL I t lL lG n N bits X1 ∧ X1 164 = X 164 := by
  have hn6 := h.n6
  obtain ⟨p, own⟩ := m
  have e13 : X 123 13 = nI n := by rw [p.1.2.1 13 (by unfold kpK; omega)]; exact h.nd
  have e1 := bgn_spec (d := d + 5) (at1 := 6) (n := n) (I := X) (J := J) (R := R1) (by omega) e13 hn6
  rw [nI_6] at e1
  obtain ⟨s1, k1⟩ := mBegX (f := shR 6 (X 151)) (g := shR 6 (X 152)) h p (fun c hc => by
    obtain ⟨x, x1, x2⟩ := hB c hc
    exact ⟨x, x1, (eb c hc).trans x2⟩) (fun c hc => by
    have := hP c hc
    rw [← ep c hc] at this
    exact this)
  have o163 : bgnM (huxM X n (shR 6 (X 151)) (shR 6 (X 152))) 6 n 163 = X 163 := bgx_o (by omega)
  have o164 : bgnM (huxM X n (shR 6 (X 151)) (shR 6 (X 152))) 6 n 164 = X 164 := bgx_o (by omega)
  rw [hux_self] at s1 k1 o163 o164
  obtain ⟨X1, J1, e2, s2, o2⟩ := mSt_runs (d := d) (J := J) (R := R1) (k := N) (by omega) s1
  have k2 := plQ_rs k1 o2
  have y163 : X1 163 = X 163 := by rw [o2.1 163 (by decide) (by decide) (by decide) (by decide) (by decide) (by decide), o163]
  have y164 : X1 164 = X 164 := by rw [o2.1 164 (by decide) (by decide) (by decide) (by decide) (by decide) (by decide), o164]
  have y13 : X1 123 13 = nI n := by rw [k2.1.2.1 13 (by unfold kpK; omega)]; exact h.nd
  have hs := for_s (P := fun c (_ : Unit) => E (C (d + 6)) MX12_keeps 14 [some (.ref 123), some (.int bits), some (.int (nI N)), some (.int (nI k)), some (.int (nI c))] [] (hp X1 J1 R1)) (F := fun o => some (some (.int (tgV o.1)), hp X1 J1 R1)) (c := fun c _ => decide (isB bits (nI c)) && decide (nI k < disF ((rnG (P0 I t lL lG (shR 6 (X 151)) (shR 6 (X 152))) n N).2.2.1 c) (owF I t lL lG n N c))) (f := fun _ s => s) (n := n) (by
    intro c s hc
    have c0 : ¬ n ≤ c := by omega
    have g1 : X1 155 (6 + c) = (rnG (P0 I t lL lG (shR 6 (X 151)) (shR 6 (X 152))) n N).2.2.1 c := s2.2.1.2.2.1 c hc
    rw [xX12_keeps_14]
    by_cases z1 : isB bits (nI c)
    · have zb : decide (isB bits (nI c)) = true := decide_eq_true z1
      have zi : bi (isB bits (nI c)) = 1 := if_pos z1
      have n1 : ¬ (1 : Int32) = 0 := by decide
      have g2 : X 163 c = owF I t lL lG n N c := own c hc z1
      obtain ⟨q, q1, q2⟩ := rnG_ct (P := P0 I t lL lG (shR 6 (X 151)) (shR 6 (X 152))) (n := n) (c := c) N
      obtain ⟨o, o1, o3⟩ := rnG_ct (P := ownP I t lL lG c) (n := n) (c := c) N
      have hd : sizF ((rnG (P0 I t lL lG (shR 6 (X 151)) (shR 6 (X 152))) n N).2.2.1 c - owF I t lL lG n N c) = disF ((rnG (P0 I t lL lG (shR 6 (X 151)) (shR 6 (X 152))) n N).2.2.1 c) (owF I t lL lG n N c) := by
        unfold owF
        rw [q2, o3, dis_siz (by omega) (by omega)]
      by_cases z2 : disF ((rnG (P0 I t lL lG (shR 6 (X 151)) (shR 6 (X 152))) n N).2.2.1 c) (owF I t lL lG n N c) ≤ nI k
      · have z2' : ¬ nI k < disF ((rnG (P0 I t lL lG (shR 6 (X 151)) (shR 6 (X 152))) n N).2.2.1 c) (owF I t lL lG n N c) := Int32.not_lt.mpr z2
        simp (disch := omega) only [xX12_keeps_16, xX12_keeps_17, xX12_keeps_20, xX12_keeps_23, xX12_keeps_24, xX12_keeps_26, xX12_keeps_29, xX12_keeps_32, xX12_keeps_33, xX12_keeps_36, xX12_keeps_38, xX12_keeps_40, xX12_keeps_41, xX12_keeps_42, xX12_keeps_43, xX12_keeps_46, xX12_keeps_48, xX12_keeps_49, xX12_keeps_50, xX12_keeps_53, xX12_keeps_54, xX12_keeps_57, xX12_keeps_58, xX12_keeps_59, xX12_keeps_62, kd_123, fi_123_59, kd_155, ln_155, fi_123_75, kd_163, ln_163, ↓reduceIte, gd_t, hK_p, hN_p, hF_p, hI_p, hJ_p, hR_p, stI_p, stJ_p, stR_p, stA_p, va_rf_s, va_rf_n, clr_i, clr_l, clr_r, clr_n, clr_o, w8_0, w8_1i, w8_1r, w8_2ii, w8_2ri, w8_2ir, w8_2rr, w8_3, beq_self_eq_true, Bool.and_self, Bool.and_true, Bool.true_and, decide_true, Option.toList_some, Option.toList_none, List.cons_append, List.nil_append, Option.bind_some, if_true, if_false, Nat.reduceLeDiff, Nat.reduceLT, Nat.reduceBEq, Bool.or_false, Bool.false_or, Bool.or_true, Bool.true_or, nI_leI, nI_ltI, nI_eq, nI_clamp, inb_n, up_s, up_n, bx_uu, nI_1, ix6, nI_0n, pk_us, pk_un, ge_0n, y13, isO_spec, zi, n1, nI6c, g1, y163, g2, siz_spec, hd, c0, zb, z2, z2', decide_false, Bool.and_false, Bool.false_eq_true]
      · have z2' : nI k < disF ((rnG (P0 I t lL lG (shR 6 (X 151)) (shR 6 (X 152))) n N).2.2.1 c) (owF I t lL lG n N c) := Int32.not_le.mp z2
        simp (disch := omega) only [xX12_keeps_16, xX12_keeps_17, xX12_keeps_20, xX12_keeps_23, xX12_keeps_24, xX12_keeps_26, xX12_keeps_29, xX12_keeps_32, xX12_keeps_33, xX12_keeps_36, xX12_keeps_38, xX12_keeps_40, xX12_keeps_41, xX12_keeps_42, xX12_keeps_43, xX12_keeps_46, xX12_keeps_48, xX12_keeps_49, xX12_keeps_50, xX12_keeps_53, xX12_keeps_54, xX12_keeps_57, xX12_keeps_58, xX12_keeps_59, xX12_keeps_62, kd_123, fi_123_59, kd_155, ln_155, fi_123_75, kd_163, ln_163, ↓reduceIte, gd_t, hK_p, hN_p, hF_p, hI_p, hJ_p, hR_p, stI_p, stJ_p, stR_p, stA_p, va_rf_s, va_rf_n, clr_i, clr_l, clr_r, clr_n, clr_o, w8_0, w8_1i, w8_1r, w8_2ii, w8_2ri, w8_2ir, w8_2rr, w8_3, beq_self_eq_true, Bool.and_self, Bool.and_true, Bool.true_and, decide_true, Option.toList_some, Option.toList_none, List.cons_append, List.nil_append, Option.bind_some, if_true, if_false, Nat.reduceLeDiff, Nat.reduceLT, Nat.reduceBEq, Bool.or_false, Bool.false_or, Bool.or_true, Bool.true_or, nI_leI, nI_ltI, nI_eq, nI_clamp, inb_n, up_s, up_n, bx_uu, nI_1, ix6, nI_0n, pk_us, pk_un, ge_0n, y13, isO_spec, zi, n1, nI6c, g1, y163, g2, siz_spec, hd, c0, zb, z2, z2', tgV, z01, Option.isSome_some]
    · have zb : decide (isB bits (nI c)) = false := decide_eq_false z1
      have zi : bi (isB bits (nI c)) = 0 := if_neg z1
      simp (disch := omega) only [xX12_keeps_16, xX12_keeps_17, xX12_keeps_20, xX12_keeps_23, xX12_keeps_24, xX12_keeps_26, xX12_keeps_29, xX12_keeps_32, xX12_keeps_33, xX12_keeps_36, xX12_keeps_38, xX12_keeps_40, xX12_keeps_41, xX12_keeps_42, xX12_keeps_43, xX12_keeps_46, xX12_keeps_48, xX12_keeps_49, xX12_keeps_50, xX12_keeps_53, xX12_keeps_54, xX12_keeps_57, xX12_keeps_58, xX12_keeps_59, xX12_keeps_62, kd_123, fi_123_59, kd_155, ln_155, fi_123_75, kd_163, ln_163, ↓reduceIte, gd_t, hK_p, hN_p, hF_p, hI_p, hJ_p, hR_p, stI_p, stJ_p, stR_p, stA_p, va_rf_s, va_rf_n, clr_i, clr_l, clr_r, clr_n, clr_o, w8_0, w8_1i, w8_1r, w8_2ii, w8_2ri, w8_2ir, w8_2rr, w8_3, beq_self_eq_true, Bool.and_self, Bool.and_true, Bool.true_and, decide_true, Option.toList_some, Option.toList_none, List.cons_append, List.nil_append, Option.bind_some, if_true, if_false, Nat.reduceLeDiff, Nat.reduceLT, Nat.reduceBEq, Bool.or_false, Bool.false_or, Bool.or_true, Bool.true_or, nI_leI, nI_ltI, nI_eq, nI_clamp, inb_n, up_s, up_n, bx_uu, nI_1, ix6, nI_0n, pk_us, pk_un, ge_0n, y13, isO_spec, zi, c0, zb, decide_false, Bool.false_and, Bool.false_eq_true]) (by
    intro s
    have c0 : n ≤ n := Nat.le_refl n
    rw [xX12_keeps_14]
    simp (disch := omega) only [xX12_keeps_16, xX12_keeps_17, xX12_keeps_20, xX12_keeps_23, xX12_keeps_24, xX12_keeps_26, xX12_keeps_29, xX12_keeps_32, xX12_keeps_33, xX12_keeps_36, xX12_keeps_38, xX12_keeps_40, xX12_keeps_41, xX12_keeps_42, xX12_keeps_43, xX12_keeps_46, xX12_keeps_48, xX12_keeps_49, xX12_keeps_50, xX12_keeps_53, xX12_keeps_54, xX12_keeps_57, xX12_keeps_58, xX12_keeps_59, xX12_keeps_62, xX12_keeps_65, xX12_keeps_66, kd_123, fi_123_59, kd_155, ln_155, fi_123_75, kd_163, ln_163, ↓reduceIte, gd_t, hK_p, hN_p, hF_p, hI_p, hJ_p, hR_p, stI_p, stJ_p, stR_p, stA_p, va_rf_s, va_rf_n, clr_i, clr_l, clr_r, clr_n, clr_o, w8_0, w8_1i, w8_1r, w8_2ii, w8_2ri, w8_2ir, w8_2rr, w8_3, beq_self_eq_true, Bool.and_self, Bool.and_true, Bool.true_and, decide_true, Option.toList_some, Option.toList_none, List.cons_append, List.nil_append, Option.bind_some, if_true, if_false, Nat.reduceLeDiff, Nat.reduceLT, Nat.reduceBEq, Bool.or_false, Bool.false_or, Bool.or_true, Bool.true_or, nI_leI, nI_ltI, nI_eq, nI_clamp, inb_n, up_s, up_n, bx_uu, nI_1, ix6, nI_0n, pk_us, pk_un, ge_0n, y13, c0, tgV, z11, Option.isSome_none, Bool.false_eq_true]) n 0 () (by omega)
  rw [nI_0] at hs
  have hkk : kK I t lL lG n N k bits B Pl = tgV (srF (fun c (_ : Unit) => decide (isB bits (nI c)) && decide (nI k < disF ((rnG (P0 I t lL lG (shR 6 (X 151)) (shR 6 (X 152))) n N).2.2.1 c) (owF I t lL lG n N c))) (fun _ s => s) n 0 ()).1 := by
    have := kpV_cong (I := I) (t := t) (lL := lL) (lG := lG) (n := n) (N := N) (bits := bits) (k := nI k) (own := owF I t lL lG n N) (B := B) (Pl := Pl) (B' := shR 6 (X 151)) (Pl' := shR 6 (X 152)) (fun c hc => (eb c hc).symm) (fun c hc => (ep c hc).symm)
    exact this
  refine ⟨X1, J1, ?_, ⟨k2, by rw [y163]; exact own⟩, y164⟩
  rw [hkk, eX12_keeps]
  simp (disch := omega) only [xX12_keeps_0, xX12_keeps_1, xX12_keeps_3, xX12_keeps_6, xX12_keeps_7, xX12_keeps_8, xX12_keeps_11, xX12_keeps_12, kd_123, fi_123_59, kd_155, ln_155, fi_123_75, kd_163, ln_163, kd_123, ↓reduceIte, gd_t, hK_p, hN_p, hF_p, hI_p, hJ_p, hR_p, stI_p, stJ_p, stR_p, stA_p, va_rf_s, va_rf_n, clr_i, clr_l, clr_r, clr_n, clr_o, w8_0, w8_1i, w8_1r, w8_2ii, w8_2ri, w8_2ir, w8_2rr, w8_3, beq_self_eq_true, Bool.and_self, Bool.and_true, Bool.true_and, decide_true, Option.toList_some, Option.toList_none, List.cons_append, List.nil_append, Option.bind_some, if_true, if_false, Nat.reduceLeDiff, Nat.reduceLT, Nat.reduceBEq, Bool.or_false, Bool.false_or, Bool.or_true, Bool.true_or, e1, e2]
  exact hs
theorem lys_m {d c to : Nat} (hc : c < 6) (ht : to < 1000) : C (d + 1) MX12_lays [.ref 123, .int (nI c), .int (nI to)] (hp X J R1) = some (none, hp (va_up (va_up X 151 (upd (X 151) (6 + c) (nI (to / 10)))) 152 (upd (X 152) (6 + c) (nI (to % 10)))) J R1) := by
  have t0 : (!(decide ((10 : Int32) = 0))) = true := by decide
  rw [eX12_lays]
  simp (disch := omega) only [xX12_lays_0, xX12_lays_1, xX12_lays_4, xX12_lays_6, xX12_lays_7, xX12_lays_8, xX12_lays_9, xX12_lays_11, xX12_lays_12, xX12_lays_13, xX12_lays_14, xX12_lays_17, xX12_lays_19, xX12_lays_20, xX12_lays_21, xX12_lays_22, xX12_lays_24, xX12_lays_25, xX12_lays_26, kd_123, fi_123_55, kd_151, ln_151, fi_123_56, kd_152, ln_152, ↓reduceIte, gd_t, hK_p, hN_p, hF_p, hI_p, hJ_p, hR_p, stI_p, stJ_p, stR_p, stA_p, va_rf_s, va_rf_n, clr_i, clr_l, clr_r, clr_n, clr_o, w8_0, w8_1i, w8_1r, w8_2ii, w8_2ri, w8_2ir, w8_2rr, w8_3, beq_self_eq_true, Bool.and_self, Bool.and_true, Bool.true_and, decide_true, Option.toList_some, Option.toList_none, List.cons_append, List.nil_append, Option.bind_some, if_true, if_false, Nat.reduceLeDiff, Nat.reduceLT, Nat.reduceBEq, Bool.or_false, Bool.false_or, Bool.or_true, Bool.true_or, nI_leI, nI_ltI, nI_eq, nI_clamp, inb_n, up_s, up_n, bx_uu, nI_1, ix6, nI_0n, pk_us, pk_un, ge_0n, nI6c, t0, i10a, i10c]
theorem imv_m {d c to : Nat} (hc : c < 6) (ht : to < 1000) (e1 : X 151 c = I 62 c) (e2 : X 152 c = I 63 c) : C (d + 1) MX12_isMoved [.ref 123, .int (nI c), .int (nI to)] (hp X J R1) = some (some (.int (if mvd I c to = true then 1 else 0)), hp X J R1) := by
  have t0 : (!(decide ((10 : Int32) = 0))) = true := by decide
  rw [eX12_isMoved]
  unfold mvd
  by_cases z1 : I 62 c = nI (to / 10)
  · by_cases z2 : I 63 c = nI (to % 10)
    · simp (disch := omega) only [xX12_isMoved_0, xX12_isMoved_1, xX12_isMoved_4, xX12_isMoved_5, xX12_isMoved_6, xX12_isMoved_7, xX12_isMoved_9, xX12_isMoved_10, xX12_isMoved_13, xX12_isMoved_14, xX12_isMoved_17, xX12_isMoved_18, xX12_isMoved_19, xX12_isMoved_20, xX12_isMoved_22, xX12_isMoved_23, xX12_isMoved_26, xX12_isMoved_27, xX12_isMoved_30, xX12_isMoved_31, kd_123, fi_123_55, kd_151, ln_151, fi_123_56, kd_152, ln_152, ↓reduceIte, gd_t, hK_p, hN_p, hF_p, hI_p, hJ_p, hR_p, stI_p, stJ_p, stR_p, stA_p, va_rf_s, va_rf_n, clr_i, clr_l, clr_r, clr_n, clr_o, w8_0, w8_1i, w8_1r, w8_2ii, w8_2ri, w8_2ir, w8_2rr, w8_3, beq_self_eq_true, Bool.and_self, Bool.and_true, Bool.true_and, decide_true, Option.toList_some, Option.toList_none, List.cons_append, List.nil_append, Option.bind_some, if_true, if_false, Nat.reduceLeDiff, Nat.reduceLT, Nat.reduceBEq, Bool.or_false, Bool.false_or, Bool.or_true, Bool.true_or, nI_leI, nI_ltI, nI_eq, nI_clamp, inb_n, up_s, up_n, bx_uu, nI_1, ix6, nI_0n, pk_us, pk_un, ge_0n, t0, i10a, i10c, e1, e2, z1, z2, z01, not_true_eq_false, Bool.not_true, Bool.false_eq_true]
    · simp (disch := omega) only [xX12_isMoved_0, xX12_isMoved_1, xX12_isMoved_4, xX12_isMoved_5, xX12_isMoved_6, xX12_isMoved_7, xX12_isMoved_9, xX12_isMoved_10, xX12_isMoved_13, xX12_isMoved_14, xX12_isMoved_17, xX12_isMoved_18, xX12_isMoved_19, xX12_isMoved_20, xX12_isMoved_22, xX12_isMoved_23, xX12_isMoved_26, xX12_isMoved_27, xX12_isMoved_30, xX12_isMoved_31, kd_123, fi_123_55, kd_151, ln_151, fi_123_56, kd_152, ln_152, ↓reduceIte, gd_t, hK_p, hN_p, hF_p, hI_p, hJ_p, hR_p, stI_p, stJ_p, stR_p, stA_p, va_rf_s, va_rf_n, clr_i, clr_l, clr_r, clr_n, clr_o, w8_0, w8_1i, w8_1r, w8_2ii, w8_2ri, w8_2ir, w8_2rr, w8_3, beq_self_eq_true, Bool.and_self, Bool.and_true, Bool.true_and, decide_true, Option.toList_some, Option.toList_none, List.cons_append, List.nil_append, Option.bind_some, if_true, if_false, Nat.reduceLeDiff, Nat.reduceLT, Nat.reduceBEq, Bool.or_false, Bool.false_or, Bool.or_true, Bool.true_or, nI_leI, nI_ltI, nI_eq, nI_clamp, inb_n, up_s, up_n, bx_uu, nI_1, ix6, nI_0n, pk_us, pk_un, ge_0n, t0, i10a, i10c, e1, e2, z1, z2, z11, not_true_eq_false, not_false_eq_true, decide_false, Bool.and_false, Bool.not_false]
  · simp (disch := omega) only [xX12_isMoved_0, xX12_isMoved_1, xX12_isMoved_4, xX12_isMoved_5, xX12_isMoved_6, xX12_isMoved_7, xX12_isMoved_9, xX12_isMoved_10, xX12_isMoved_13, xX12_isMoved_14, xX12_isMoved_17, xX12_isMoved_18, xX12_isMoved_19, xX12_isMoved_20, xX12_isMoved_22, xX12_isMoved_23, xX12_isMoved_26, xX12_isMoved_27, xX12_isMoved_30, xX12_isMoved_31, kd_123, fi_123_55, kd_151, ln_151, fi_123_56, kd_152, ln_152, ↓reduceIte, gd_t, hK_p, hN_p, hF_p, hI_p, hJ_p, hR_p, stI_p, stJ_p, stR_p, stA_p, va_rf_s, va_rf_n, clr_i, clr_l, clr_r, clr_n, clr_o, w8_0, w8_1i, w8_1r, w8_2ii, w8_2ri, w8_2ir, w8_2rr, w8_3, beq_self_eq_true, Bool.and_self, Bool.and_true, Bool.true_and, decide_true, Option.toList_some, Option.toList_none, List.cons_append, List.nil_append, Option.bind_some, if_true, if_false, Nat.reduceLeDiff, Nat.reduceLT, Nat.reduceBEq, Bool.or_false, Bool.false_or, Bool.or_true, Bool.true_or, nI_leI, nI_ltI, nI_eq, nI_clamp, inb_n, up_s, up_n, bx_uu, nI_1, ix6, nI_0n, pk_us, pk_un, ge_0n, t0, i10a, i10c, e1, e2, z1, z11, not_false_eq_true, decide_false, Bool.false_and, Bool.not_false]
theorem fre_m {d : Nat} {B P : Nat → Int32} (hn : X 123 13 = nI n) (hn6 : n ≤ 6) (eb : ∀ c, c < n → X 151 (6 + c) = B c) (ep : ∀ c, c < n → X 152 (6 + c) = P c) : C (d + 2) MX12_areFree [.ref 123] (hp X J R1) = some (some (.int (frV n B P)), hp X J R1) := by
  have hfc : ∀ c, c < n → ((frI B P c).isSome = true ↔ ¬ (srF (fun i (_ : Unit) => tkP (fun i => X 151 (6 + i)) (fun i => X 152 (6 + i)) (X 151 (6 + c)) (X 152 (6 + c)) i) (fun _ s => s) n 0 ()).1 = some c) := by
    intro c hc
    have h0 := srF_c (p := fun i => tkP (fun i => X 151 (6 + i)) (fun i => X 152 (6 + i)) (X 151 (6 + c)) (X 152 (6 + c)) i) hc (by unfold tkP; simp)
    rw [h0]
    unfold frI
    rw [srF_some (c := fun j => decide (B c = B j) && decide (P c = P j))]
    constructor
    · rintro ⟨j, -, h2, h3⟩ q
      have := q j (by omega)
      unfold tkP at this
      simp only [eb j (by omega), ep j (by omega), eb c hc, ep c hc] at this
      simp only [Bool.and_eq_true, decide_eq_true_eq] at h3
      rw [h3.1, h3.2] at this
      simp at this
    · intro q
      apply Classical.byContradiction
      intro w
      refine q (fun j hj => ?_)
      unfold tkP
      simp only [eb j (by omega), ep j (by omega), eb c hc, ep c hc]
      cases e : (decide (B j = B c) && decide (P j = P c)) with
      | false => rfl
      | true =>
        exfalso
        simp only [Bool.and_eq_true, decide_eq_true_eq] at e
        exact w ⟨j, by omega, by omega, by simp [e.1, e.2]⟩
  have hs := for_s (P := fun c (_ : Unit) => E (C (d + 1)) MX12_areFree 2 [some (.ref 123), some (.int (nI c))] [] (hp X J R1)) (F := fun o => some (some (.int (tgV o.1)), hp X J R1)) (c := fun c _ => (frI B P c).isSome) (f := fun _ s => s) (n := n) (by
    intro c s hc
    have c0 : ¬ n ≤ c := by omega
    have eh := hun_m (d := d) (at1 := 6) (n := n) (x := X 151 (6 + c)) (y := X 152 (6 + c)) (I := X) (J := J) (R := R1) (by omega) hn hn6
    rw [nI_6] at eh
    have hif := hfc c hc
    have hlt : ∀ j, (srF (fun i (_ : Unit) => tkP (fun i => X 151 (6 + i)) (fun i => X 152 (6 + i)) (X 151 (6 + c)) (X 152 (6 + c)) i) (fun _ s => s) n 0 ()).1 = some j → j < 6 := fun j hj => by
      have := srF_lt hj
      omega
    generalize (srF (fun i (_ : Unit) => tkP (fun i => X 151 (6 + i)) (fun i => X 152 (6 + i)) (X 151 (6 + c)) (X 152 (6 + c)) i) (fun _ s => s) n 0 ()).1 = o at *
    rw [xX12_areFree_2]
    have han : an o (-1) = nI c ↔ o = some c := by
      cases o with
      | none =>
        constructor
        · intro q; exact absurd q (nI_nm (by omega))
        · intro q; cases q
      | some j =>
        have := hlt j rfl
        show nI j = nI c ↔ some j = some c
        rw [nI_eq (by omega) (by omega)]
        simp
    by_cases z : o = some c
    · have z' : an o (-1) = nI c := han.mpr z
      have zf : (frI B P c).isSome = false := by
        cases e : (frI B P c).isSome with
        | false => rfl
        | true => exact absurd z (hif.mp e)
      simp (disch := omega) only [xX12_areFree_3, xX12_areFree_4, xX12_areFree_7, xX12_areFree_10, xX12_areFree_11, xX12_areFree_13, xX12_areFree_14, xX12_areFree_17, xX12_areFree_19, xX12_areFree_20, xX12_areFree_21, xX12_areFree_22, xX12_areFree_23, xX12_areFree_26, xX12_areFree_28, xX12_areFree_29, xX12_areFree_30, xX12_areFree_31, xX12_areFree_34, xX12_areFree_35, xX12_areFree_38, xX12_areFree_39, xX12_areFree_40, xX12_areFree_43, kd_123, fi_123_55, kd_151, ln_151, fi_123_56, kd_152, ln_152, kd_123, ↓reduceIte, gd_t, hK_p, hN_p, hF_p, hI_p, hJ_p, hR_p, stI_p, stJ_p, stR_p, stA_p, va_rf_s, va_rf_n, clr_i, clr_l, clr_r, clr_n, clr_o, w8_0, w8_1i, w8_1r, w8_2ii, w8_2ri, w8_2ir, w8_2rr, w8_3, beq_self_eq_true, Bool.and_self, Bool.and_true, Bool.true_and, decide_true, Option.toList_some, Option.toList_none, List.cons_append, List.nil_append, Option.bind_some, if_true, if_false, Nat.reduceLeDiff, Nat.reduceLT, Nat.reduceBEq, Bool.or_false, Bool.false_or, Bool.or_true, Bool.true_or, nI_leI, nI_ltI, nI_eq, nI_clamp, inb_n, up_s, up_n, bx_uu, nI_1, ix6, nI_0n, pk_us, pk_un, ge_0n, hn, nI6c, w8_4, eh, c0, z', zf, Bool.false_eq_true]
    · have z' : ¬ an o (-1) = nI c := fun q => z (han.mp q)
      have zf : (frI B P c).isSome = true := hif.mpr z
      simp (disch := omega) only [xX12_areFree_3, xX12_areFree_4, xX12_areFree_7, xX12_areFree_10, xX12_areFree_11, xX12_areFree_13, xX12_areFree_14, xX12_areFree_17, xX12_areFree_19, xX12_areFree_20, xX12_areFree_21, xX12_areFree_22, xX12_areFree_23, xX12_areFree_26, xX12_areFree_28, xX12_areFree_29, xX12_areFree_30, xX12_areFree_31, xX12_areFree_34, xX12_areFree_35, xX12_areFree_38, xX12_areFree_39, xX12_areFree_40, xX12_areFree_43, kd_123, fi_123_55, kd_151, ln_151, fi_123_56, kd_152, ln_152, kd_123, ↓reduceIte, gd_t, hK_p, hN_p, hF_p, hI_p, hJ_p, hR_p, stI_p, stJ_p, stR_p, stA_p, va_rf_s, va_rf_n, clr_i, clr_l, clr_r, clr_n, clr_o, w8_0, w8_1i, w8_1r, w8_2ii, w8_2ri, w8_2ir, w8_2rr, w8_3, beq_self_eq_true, Bool.and_self, Bool.and_true, Bool.true_and, decide_true, Option.toList_some, Option.toList_none, List.cons_append, List.nil_append, Option.bind_some, if_true, if_false, Nat.reduceLeDiff, Nat.reduceLT, Nat.reduceBEq, Bool.or_false, Bool.false_or, Bool.or_true, Bool.true_or, nI_leI, nI_ltI, nI_eq, nI_clamp, inb_n, up_s, up_n, bx_uu, nI_1, ix6, nI_0n, pk_us, pk_un, ge_0n, hn, nI6c, w8_4, eh, c0, z', zf, tgV, z01, Option.isSome_some]) (by
    intro s
    have c0 : n ≤ n := Nat.le_refl n
    rw [xX12_areFree_2]
    simp (disch := omega) only [xX12_areFree_3, xX12_areFree_4, xX12_areFree_7, xX12_areFree_10, xX12_areFree_11, xX12_areFree_13, xX12_areFree_14, xX12_areFree_17, xX12_areFree_19, xX12_areFree_20, xX12_areFree_21, xX12_areFree_22, xX12_areFree_23, xX12_areFree_26, xX12_areFree_28, xX12_areFree_29, xX12_areFree_30, xX12_areFree_31, xX12_areFree_34, xX12_areFree_35, xX12_areFree_38, xX12_areFree_39, xX12_areFree_40, xX12_areFree_43, xX12_areFree_46, xX12_areFree_47, kd_123, fi_123_55, kd_151, ln_151, fi_123_56, kd_152, ln_152, ↓reduceIte, gd_t, hK_p, hN_p, hF_p, hI_p, hJ_p, hR_p, stI_p, stJ_p, stR_p, stA_p, va_rf_s, va_rf_n, clr_i, clr_l, clr_r, clr_n, clr_o, w8_0, w8_1i, w8_1r, w8_2ii, w8_2ri, w8_2ir, w8_2rr, w8_3, beq_self_eq_true, Bool.and_self, Bool.and_true, Bool.true_and, decide_true, Option.toList_some, Option.toList_none, List.cons_append, List.nil_append, Option.bind_some, if_true, if_false, Nat.reduceLeDiff, Nat.reduceLT, Nat.reduceBEq, Bool.or_false, Bool.false_or, Bool.or_true, Bool.true_or, nI_leI, nI_ltI, nI_eq, nI_clamp, inb_n, up_s, up_n, bx_uu, nI_1, ix6, nI_0n, pk_us, pk_un, ge_0n, hn, c0, tgV, z11, Option.isSome_none, Bool.false_eq_true]) n 0 () (by omega)
  rw [nI_0] at hs
  rw [eX12_areFree]
  simp only [xX12_areFree_0, xX12_areFree_1, ↓reduceIte, gd_t, hK_p, hN_p, hF_p, hI_p, hJ_p, hR_p, stI_p, stJ_p, stR_p, stA_p, va_rf_s, va_rf_n, clr_i, clr_l, clr_r, clr_n, clr_o, w8_0, w8_1i, w8_1r, w8_2ii, w8_2ri, w8_2ir, w8_2rr, w8_3, beq_self_eq_true, Bool.and_self, Bool.and_true, Bool.true_and, decide_true, Option.toList_some, Option.toList_none, List.cons_append, List.nil_append, Option.bind_some, if_true, if_false, Nat.reduceLeDiff, Nat.reduceLT, Nat.reduceBEq, Bool.or_false, Bool.false_or, Bool.or_true, Bool.true_or]
  exact hs
theorem fds_m {d c to f : Nat} (hf : f ≤ 4) (ht : to < 1000) : C (d + 1) MX12_finds [.ref 123, .int (nI f), .int (nI c), .int (nI to)] (hp X J R1) = some (none, hp (va_up X 164 (upd (upd (upd (X 164) f (nI c)) (f + 1) (nI (to / 10))) (f + 2) (nI (to % 10)))) J R1) := by
  have t0 : (!(decide ((10 : Int32) = 0))) = true := by decide
  have f2 : nI f + 2 = nI (f + 2) := nI_add f 2
  rw [eX12_finds]
  simp (disch := omega) only [xX12_finds_0, xX12_finds_1, xX12_finds_4, xX12_finds_5, xX12_finds_6, xX12_finds_7, xX12_finds_8, xX12_finds_11, xX12_finds_12, xX12_finds_13, xX12_finds_14, xX12_finds_15, xX12_finds_17, xX12_finds_18, xX12_finds_19, xX12_finds_20, xX12_finds_23, xX12_finds_24, xX12_finds_25, xX12_finds_26, xX12_finds_27, xX12_finds_29, xX12_finds_30, xX12_finds_31, kd_123, fi_123_76, kd_164, ln_164, ↓reduceIte, gd_t, hK_p, hN_p, hF_p, hI_p, hJ_p, hR_p, stI_p, stJ_p, stR_p, stA_p, va_rf_s, va_rf_n, clr_i, clr_l, clr_r, clr_n, clr_o, w8_0, w8_1i, w8_1r, w8_2ii, w8_2ri, w8_2ir, w8_2rr, w8_3, beq_self_eq_true, Bool.and_self, Bool.and_true, Bool.true_and, decide_true, Option.toList_some, Option.toList_none, List.cons_append, List.nil_append, Option.bind_some, if_true, if_false, Nat.reduceLeDiff, Nat.reduceLT, Nat.reduceBEq, Bool.or_false, Bool.false_or, Bool.or_true, Bool.true_or, nI_leI, nI_ltI, nI_eq, nI_clamp, inb_n, up_s, up_n, bx_uu, nI_1, ix6, nI_0n, pk_us, pk_un, ge_0n, t0, i10a, i10c, f2]
end LEM

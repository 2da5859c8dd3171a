-- RUNS, 4: own, mend
/-- a run that is about to begin, with other speeds, starts, phases -/
theorem cSt_567 {K Q Q' : Mem} {R : MemR} {m t lL lG n : Nat} {b p : Nat → Int32} {wall ll : Int32} {we stf sp sp' : Nat → Int32} {ac ac' : Nat → Nat → Bool} {ph ph' : Nat → Int32} (hm : isMo m) (ht : isTe t) (s : cSt Q R m t lL lG n (PG K t lL lG b p wall ll we stf sp ac ph) 0) (o : ∀ a, a ≠ m + 5 → a ≠ m + 6 → a ≠ m + 7 → Q' a = Q a) (r5 : eqR n (Q' (m + 5)) sp') (r6 : ∀ i, i < n → ∀ j : Nat, j < 2 ^ 31 → decide (Q' (m + 6) i = nI j) = ac' j i) (r7 : eqR n (Q' (m + 7)) ph') (hph : phO n ph') :
    cSt Q' R m t lL lG n (PG K t lL lG b p wall ll we stf sp' ac' ph') 0 := by
  have ht2 := te_hi ht
  have hm2 := mo_lo hm
  obtain ⟨⟨p1, p2, p3, p4, p5, p6, p7, p8, p9, p10, p11, p12⟩, h2, h3, h4⟩ := s
  have e1 : ∀ x, losC Q' t lL x = losC Q t lL x := by
    intro x
    funext nm
    unfold losC
    simp (disch := omega) only [o]
  have e2 : goC Q' t lG = goC Q t lG := by
    funext nm sp
    unfold goC
    simp (disch := omega) only [o]
  have om : Q' m = Q m := o m (by omega) (by omega) (by omega)
  refine ⟨⟨p1, by rw [om]; exact p2, ?_, by rw [e1, om]; exact p4, by rw [e2]; exact p5, ?_, r5, ?_, ?_, ?_, r6, hph⟩, by rw [om]; exact h2, ⟨r7, ?_, ?_, ?_⟩, fun q => absurd q (by omega)⟩
  · unfold okL at p3 ⊢
    simp (disch := omega) only [o]
    exact p3
  · rw [o _ (by omega) (by omega) (by omega)]; exact p6
  · rw [o _ (by omega) (by omega) (by omega)]; exact p8
  · rw [o _ (by omega) (by omega) (by omega)]; exact p9
  · rw [o _ (by omega) (by omega) (by omega)]; exact p10
  · show eqR n (Q' (m + 8)) _
    rw [o _ (by omega) (by omega) (by omega)]; exact h3.2.1
  · show eqR n (Q' (m + 9)) _
    rw [o _ (by omega) (by omega) (by omega)]; exact h3.2.2.1
  · show eqR n (Q' (m + 10)) _
    rw [o _ (by omega) (by omega) (by omega)]; exact h3.2.2.2
section LAQ
variable {I Q : Mem} {R : MemR} {t t' n nb nm fL lL fG lG st : Nat}
theorem lay_q {wall ll : Int32} {we stf sp : Nat → Int32} {ac : Nat → Nat → Bool} (h : cAll I R t t' n nb nm fL lL fG lG st) (k : kp I Q) (hlo : ll = 0 ↔ ¬ Q 123 62 = 0) (hwe : ∀ c, c < n → (if Q 123 63 = 0 then 1 else I 132 c) = we c) (hw9 : ∀ c, c < n → inN (we c) 1 9) (hsp : ∀ c, c < n → Q 157 c = sp c) (hac : ∀ i, i < n → ∀ j : Nat, j < 2 ^ 31 → (decide (Q 158 i = nI j) && decide (isB (Q 123 65) (nI i))) = ac j i) (hwl : wall = Q 123 61) (hst : ∀ x, x < nb → stf x = if nI x = Q 123 64 then (if 2 * I 128 x ≤ 99 then 2 * I 128 x else 99) else I 128 x) :
    mSt (bgnM (hunM Q n) 6 n) n fL (fL + lL) fG (fG + lG) (PG I t lL lG (I 62) (I 63) wall ll we stf sp ac (I (t + 11))) 0 ∧ kp I (bgnM (hunM Q n) 6 n) ∧ Q 123 13 = nI n := by
  have f13 : Q 123 13 = I 123 13 := k.2.1 13 (by unfold kpK; omega)
  refine ⟨mBegQ h (fun a h1 h2 => k.1 a (by unfold kpA; omega)) (fun k' hk => k.2.2 151 k' (by omega) (by omega) hk) (fun k' hk => k.2.2 152 k' (by omega) (by omega) hk) f13 hlo hwe hw9 hsp hac hwl hst, k.tr kp_bgq, f13.trans h.nd⟩
theorem pla_q (h : cAll I R t t' n nb nm fL lL fG lG st) (k : kp I Q) : plaM Q 123 61 = I t 12 ∧ (∀ c, c < n → plaM Q 157 c = I (t + 10) c) ∧ ∀ c, c < n → plaM Q 158 c = I (t + 14) c := by
  have hn6 := h.n6
  have o : ∀ a, 124 ≤ a → a ≤ 146 → Q a = I a := fun a h1 h2 => k.1 a (by unfold kpA; omega)
  refine ⟨?_, fun c hc => ?_, fun c hc => ?_⟩
  · rw [pla_61.1, k.2.1 16 (by unfold kpK; omega)]
    exact h.txt.2.2.2.2.2.2.2.1.1.symm
  · unfold plaM
    rw [up_n (by decide), up_s, cpF_at (by omega), o _ (by omega) (by omega)]
    exact (h.txt.2.2.2.2.1 c hc).2.2.2.2.1.symm
  · unfold plaM
    rw [up_s, cpF_at (by omega), o _ (by omega) (by omega)]
    exact (h.txt.2.2.2.2.1 c hc).2.2.2.2.2.2.2.2.symm
/-- what stays as told -/
theorem q_we (h : cAll I R t t' n nb nm fL lL fG lG st) (e : Q 123 63 = 1) : ∀ c, c < n → (if Q 123 63 = 0 then 1 else I 132 c) = I (t + 9) c := fun c hc => by
  rw [e, if_neg (by decide)]
  exact (h.txt.2.2.2.2.1 c hc).2.2.2.1.symm
theorem q_w9 (h : cAll I R t t' n nb nm fL lL fG lG st) : ∀ c, c < n → inN (I (t + 9) c) 1 9 := fun c hc => by
  rw [(h.txt.2.2.2.2.1 c hc).2.2.2.1]
  exact (h.txt.2.2.2.2.2.1 c hc).2.2.1
theorem q_st (h : cAll I R t t' n nb nm fL lL fG lG st) (e : Q 123 64 = -1) : ∀ x, x < nb → I (t + 4) x = if nI x = Q 123 64 then (if 2 * I 128 x ≤ 99 then 2 * I 128 x else 99) else I 128 x := fun x hx => by
  have hb3 := h.txt.1.2.2
  rw [e, if_neg (fun q => ?_)]
  · exact (h.txt.2.2.2.1 x hx).2.2.1
  · have := nI_pos (n := x) (by omega)
    rw [q] at this
    exact this (by decide)
theorem q_lo (e : Q 123 62 = 1) : (0 : Int32) = 0 ↔ ¬ Q 123 62 = 0 := by rw [e]; exact ⟨fun _ => by decide, fun _ => rfl⟩
end LAQ
/-- a run as told, but for speeds, starts, phases -/
def P1 (I : Mem) (t lL lG : Nat) (sp : Nat → Int32) (ac : Nat → Nat → Bool) (ph : Nat → Int32) : PR := PG I t lL lG (I 62) (I 63) (I t 12) 0 (I (t + 9)) (I (t + 4)) sp ac ph
theorem aloF_at {n c : Nat} {st : Nat → Int32} : ∀ k, aloF n c st k = if k < n ∧ k ≠ c then -1 else st k := by
  have h := itf_inv (f := fun i (r : Nat → Int32) => if i = c then r else upd r i (-1)) (n := n) (Q := fun i s => ∀ k, s k = if k < i ∧ k ≠ c then -1 else st k) (by
    intro i s hi hq k
    by_cases z : i = c
    · rw [if_pos z, hq k]
      by_cases w : k < i ∧ k ≠ c
      · rw [if_pos w, if_pos ⟨by omega, w.2⟩]
      · rw [if_neg w, if_neg (by omega)]
    · rw [if_neg z]
      by_cases w : k = i
      · subst w
        rw [pk_us, if_pos ⟨by omega, z⟩]
      · rw [pk_un w, hq k]
        by_cases w2 : k < i ∧ k ≠ c
        · rw [if_pos w2, if_pos ⟨by omega, w2.2⟩]
        · rw [if_neg w2, if_neg (by omega)]) n 0 st (by omega) (fun k => by rw [if_neg (by omega)])
  exact h
theorem nI_nm {j : Nat} (h : j < 2 ^ 31) : ¬ (-1 : Int32) = nI j := fun q => by
  have := nI_pos (n := j) h
  rw [← q] at this
  exact this (by decide)
def acO (st : Nat → Int32) (c : Nat) : Nat → Nat → Bool := fun j i => decide (st i = nI j) && decide (i = c)
theorem isB1 : ∀ c, c < 6 → ∀ i, i < 6 → decide (isB (1 <<< (nI c &&& 31)) (nI i)) = decide (i = c) := by decide
section OWN
variable {I Q : Mem} {J : MemL} {R R' : MemR} {t t' n nb nm fL lL fG lG st : Nat}
def ownP (I : Mem) (t lL lG c : Nat) : PR := P1 I t lL lG (I (t + 10)) (acO (I (t + 14)) c) (I (t + 11))
theorem own_c {d c k : Nat} (h : cAll I R t t' n nb nm fL lL fG lG st) (hc : c < n) (hk : k ≤ 2000) (hr : ruR (nI k) = 1) : ∃ I1 J1 R1, C (d + 6) MX11_own [.ref 0, .int (nI c), .int (nI k)] (hp I J R) = some (some (.int ((rnG (ownP I t lL lG c) n k).2.2.1 c)), hp I1 J1 R1) ∧ tk I I1 ∧ rk R R1 := by
  have n1 : ¬ (1 : Int32) = 0 := by decide
  have hn6 := h.n6
  have hc6 : c < 6 := by omega
  have ei := ic_1 hn6 hc
  have hm : isMo 88 := Or.inr (Or.inr rfl)
  obtain ⟨e1, k1, r1, s1⟩ := tri_c (d := d) (J := J) h tk.rf rk.rf
  generalize hR : va_up R 88 (va_up (R 88) 0 (some t)) = R1 at *
  generalize hQ : begM I 88 t 62 63 n = Q at *
  have ea := alo_spec (d := d + 4) (m := 88) (n := n) (c := c) (I := Q) (J := J) (R := R1) hm s1.1.2.1 hn6 hc6
  have s2 : cSt (va_up Q (88 + 6) (aloF n c (Q (88 + 6)))) R1 88 t lL lG n (ownP I t lL lG c) 0 := by
    refine cSt_567 hm h.te s1 (fun a _ h6 _ => up_n h6) ?_ ?_ ?_ (phO_txt h)
    · rw [up_n (by decide)]; exact s1.1.2.2.2.2.2.2.1
    · intro i hi j hj
      rw [up_s, aloF_at]
      have h6 := s1.1.2.2.2.2.2.2.2.2.2.2.1 i hi j hj
      unfold acO
      by_cases z : i = c
      · subst z
        rw [if_neg (by omega), h6, decide_eq_true rfl, Bool.and_true]
        rfl
      · rw [if_pos ⟨hi, z⟩, decide_eq_false (nI_nm hj), decide_eq_false z, Bool.and_false]
    · rw [up_n (by decide)]; exact s1.2.2.1.1
  obtain ⟨I2, J2, e2, s3, o2⟩ := cSt_go (d := d) (J := J) (k := k) hm h.te hn6 (by omega) s2
  refine ⟨I2, J2, R1, ?_, k1.tr (tk.mo (fun a ha => (o2 a ha).trans (up_n (by omega)))), r1⟩
  have g1 : I2 97 c = (rnG (ownP I t lL lG c) n k).2.2.1 c := s3.2.2.1.2.2.1 c hc
  rw [eX11_own]
  simp (disch := omega) only [xX11_own_0, xX11_own_1, xX11_own_2, xX11_own_5, xX11_own_8, xX11_own_9, xX11_own_12, xX11_own_15, xX11_own_16, xX11_own_17, xX11_own_18, xX11_own_21, xX11_own_22, xX11_own_25, xX11_own_26, xX11_own_29, xX11_own_30, xX11_own_33, xX11_own_34, xX11_own_37, xX11_own_38, xX11_own_41, xX11_own_44, xX11_own_45, xX11_own_46, kd_0, fi_0_8, kd_88, fi_88_13, kd_97, ln_97, kd_0, kd_88, ↓reduceIte, gd_t, hK_p, hN_p, hF_p, hI_p, hJ_p, hR_p, stI_p, stJ_p, stR_p, stA_p, va_rf_s, va_rf_n, clr_i, clr_l, clr_r, clr_n, clr_o, w8_0, w8_1i, w8_1r, w8_2ii, w8_2ri, w8_2ir, w8_2rr, w8_3, beq_self_eq_true, Bool.and_self, Bool.and_true, Bool.true_and, decide_true, Option.toList_some, Option.toList_none, List.cons_append, List.nil_append, Option.bind_some, if_true, if_false, Nat.reduceLeDiff, Nat.reduceLT, Nat.reduceBEq, Bool.or_false, Bool.false_or, Bool.or_true, Bool.true_or, nI_leI, nI_ltI, nI_eq, nI_clamp, inb_n, up_s, up_n, bx_uu, nI_1, ix6, nI_0n, pk_us, pk_un, ge_0n, icl_c h.te h.r3, h.nc, ei, n1, isR_c, hr, e1, ea, e2, g1, not_true_eq_false, not_false_eq_true]
theorem ownOf_m {d c k : Nat} {R1 : MemR} (h : cAll I R t t' n nb nm fL lL fG lG st) (kq : kp I Q) (hc : c < n) (hk : k < 2 ^ 31) : ∃ I1 J1, C (d + 7) MX12_ownOf [.ref 123, .int (nI c), .int (nI k)] (hp Q J R1) = some (some (.int ((rnG (ownP I t lL lG c) n k).2.2.1 c)), hp I1 J1 R1) ∧ kp I I1 := by
  have hn6 := h.n6
  have hc6 : c < 6 := by omega
  obtain ⟨q61, q157, q158⟩ := pla_q h kq
  have a6 : (6 : Int32) + nI c = nI (6 + c) := nI_add 6 c
  have kx : kp I (va_up (plaM Q) 123 (upd (plaM Q 123) 65 (1 <<< (nI c &&& 31)))) := (kq.tr kp_pla).tr ⟨fun a ha => up_n (by unfold kpA at ha; omega), fun k hk => by rw [up_s, pk_un (by unfold kpK at hk; omega)], fun a k h1 _ _ => by rw [up_n (by omega)]⟩
  obtain ⟨s1, k1, e13⟩ := lay_q (wall := I t 12) (ll := 0) (we := I (t + 9)) (stf := I (t + 4)) (sp := I (t + 10)) (ac := acO (I (t + 14)) c) h kx (q_lo (by rw [up_s, pk_un (by decide), pla_61.2.1])) (q_we h (by rw [up_s, pk_un (by decide), pla_61.2.2.1])) (q_w9 h) (fun c hc => by rw [up_n (by decide)]; exact q157 c hc) (fun i hi j hj => by
    rw [up_n (by decide), up_s, pk_us, isB1 c hc6 i (by omega), q158 i hi]
    rfl) (by rw [up_s, pk_un (by decide)]; exact q61.symm) (q_st h (by rw [up_s, pk_un (by decide), pla_61.2.2.2.1]))
  obtain ⟨I', J', e, s, o⟩ := mSt_runs (d := d) (J := J) (R := R1) hk s1
  have e1 := pla_spec (d := d + 5) (I := Q) (J := J) (R := R1)
  have e2 := brn_spec (d := d + 4) (n := n) (J := J) (R := R1) e13 h.n6
  have g1 : I' 155 (6 + c) = (rnG (ownP I t lL lG c) n k).2.2.1 c := s.2.1.2.2.1 c hc
  refine ⟨I', J', ?_, k1.tr o.kp⟩
  rw [eX12_ownOf]
  simp (disch := omega) only [xX12_ownOf_0, xX12_ownOf_1, xX12_ownOf_4, xX12_ownOf_5, xX12_ownOf_6, xX12_ownOf_7, xX12_ownOf_8, xX12_ownOf_11, xX12_ownOf_12, xX12_ownOf_15, xX12_ownOf_16, xX12_ownOf_17, xX12_ownOf_20, xX12_ownOf_21, xX12_ownOf_24, xX12_ownOf_26, xX12_ownOf_27, xX12_ownOf_28, xX12_ownOf_29, kd_123, fi_123_59, kd_155, ln_155, kd_123, ↓reduceIte, gd_t, hK_p, hN_p, hF_p, hI_p, hJ_p, hR_p, stI_p, stJ_p, stR_p, stA_p, va_rf_s, va_rf_n, clr_i, clr_l, clr_r, clr_n, clr_o, w8_0, w8_1i, w8_1r, w8_2ii, w8_2ri, w8_2ir, w8_2rr, w8_3, beq_self_eq_true, Bool.and_self, Bool.and_true, Bool.true_and, decide_true, Option.toList_some, Option.toList_none, List.cons_append, List.nil_append, Option.bind_some, if_true, if_false, Nat.reduceLeDiff, Nat.reduceLT, Nat.reduceBEq, Bool.or_false, Bool.false_or, Bool.or_true, Bool.true_or, nI_leI, nI_ltI, nI_eq, nI_clamp, inb_n, up_s, up_n, bx_uu, nI_1, ix6, nI_0n, pk_us, pk_un, ge_0n, e1, e2, e, a6, g1]
theorem own_p (h : cAll I R t t' n nb nm fL lL fG lG st) {x y : Int32} : askP MX11_own MX12_own [.int x, .int y] I J R := by
  have n1 : ¬ (1 : Int32) = 0 := by decide
  rcases ic_or (x := x) h.n6 with ⟨c, hc, rfl, e⟩ | e
  · rcases ruR_or (x := y) with ⟨k, hk, rfl, er⟩ | er
    · obtain ⟨I1, J1, R1, e1, k1, r1⟩ := own_c (d := 5) (J := J) h hc hk er
      obtain ⟨I2, J2, e2, k2⟩ := ownOf_m (d := 3) (J := J1) (R1 := R1) (k := k) h (k1.kp.tr (kp.thr (v := 0))) hc (by omega)
      have hnd : I1 123 13 = nI n := by rw [k1 123 (Or.inr (by omega))]; exact h.nd
      refine ⟨_, I1, J1, R1, I2, J2, e1, ?_, k2, r1 _ (by decide), r1 _ (by decide), r1 _ (by decide)⟩
      rw [eX12_own]
      simp (disch := omega) only [xX12_own_0, xX12_own_1, xX12_own_2, xX12_own_5, xX12_own_6, xX12_own_7, xX12_own_10, xX12_own_13, xX12_own_14, xX12_own_17, xX12_own_20, xX12_own_21, xX12_own_22, xX12_own_23, xX12_own_26, xX12_own_29, xX12_own_30, kd_123, kd_123, ↓reduceIte, gd_t, hK_p, hN_p, hF_p, hI_p, hJ_p, hR_p, stI_p, stJ_p, stR_p, stA_p, va_rf_s, va_rf_n, clr_i, clr_l, clr_r, clr_n, clr_o, w8_0, w8_1i, w8_1r, w8_2ii, w8_2ri, w8_2ir, w8_2rr, w8_3, beq_self_eq_true, Bool.and_self, Bool.and_true, Bool.true_and, decide_true, Option.toList_some, Option.toList_none, List.cons_append, List.nil_append, Option.bind_some, if_true, if_false, Nat.reduceLeDiff, Nat.reduceLT, Nat.reduceBEq, Bool.or_false, Bool.false_or, Bool.or_true, Bool.true_or, nI_leI, nI_ltI, nI_eq, nI_clamp, inb_n, up_s, up_n, bx_uu, nI_1, ix6, nI_0n, pk_us, pk_un, ge_0n, icl_m, hnd, e, n1, isR_m, er, e2]
    · refine askP.mk0 (v := -1) (w := -1) ?_ ?_ rfl
      · rw [eX11_own]
        simp (disch := omega) only [xX11_own_0, xX11_own_1, xX11_own_2, xX11_own_5, xX11_own_8, xX11_own_9, xX11_own_12, xX11_own_15, xX11_own_16, xX11_own_17, xX11_own_18, xX11_own_21, xX11_own_22, xX11_own_25, xX11_own_26, xX11_own_29, xX11_own_30, xX11_own_33, xX11_own_34, xX11_own_37, xX11_own_38, xX11_own_41, xX11_own_44, xX11_own_45, xX11_own_46, kd_0, fi_0_8, kd_88, fi_88_13, kd_97, ln_97, kd_0, ↓reduceIte, gd_t, hK_p, hN_p, hF_p, hI_p, hJ_p, hR_p, stI_p, stJ_p, stR_p, stA_p, va_rf_s, va_rf_n, clr_i, clr_l, clr_r, clr_n, clr_o, w8_0, w8_1i, w8_1r, w8_2ii, w8_2ri, w8_2ir, w8_2rr, w8_3, beq_self_eq_true, Bool.and_self, Bool.and_true, Bool.true_and, decide_true, Option.toList_some, Option.toList_none, List.cons_append, List.nil_append, Option.bind_some, if_true, if_false, Nat.reduceLeDiff, Nat.reduceLT, Nat.reduceBEq, Bool.or_false, Bool.false_or, Bool.or_true, Bool.true_or, nI_leI, nI_ltI, nI_eq, nI_clamp, inb_n, up_s, up_n, bx_uu, nI_1, ix6, nI_0n, pk_us, pk_un, ge_0n, icl_c h.te h.r3, h.nc, e, n1, isR_c, er, not_true_eq_false]
      · rw [eX12_own]
        simp (disch := omega) only [xX12_own_0, xX12_own_1, xX12_own_2, xX12_own_5, xX12_own_6, xX12_own_7, xX12_own_10, xX12_own_13, xX12_own_14, xX12_own_17, xX12_own_20, xX12_own_21, xX12_own_22, xX12_own_23, xX12_own_26, xX12_own_29, xX12_own_30, kd_123, kd_123, ↓reduceIte, gd_t, hK_p, hN_p, hF_p, hI_p, hJ_p, hR_p, stI_p, stJ_p, stR_p, stA_p, va_rf_s, va_rf_n, clr_i, clr_l, clr_r, clr_n, clr_o, w8_0, w8_1i, w8_1r, w8_2ii, w8_2ri, w8_2ir, w8_2rr, w8_3, beq_self_eq_true, Bool.and_self, Bool.and_true, Bool.true_and, decide_true, Option.toList_some, Option.toList_none, List.cons_append, List.nil_append, Option.bind_some, if_true, if_false, Nat.reduceLeDiff, Nat.reduceLT, Nat.reduceBEq, Bool.or_false, Bool.false_or, Bool.or_true, Bool.true_or, nI_leI, nI_ltI, nI_eq, nI_clamp, inb_n, up_s, up_n, bx_uu, nI_1, ix6, nI_0n, pk_us, pk_un, ge_0n, icl_m, h.nd, e, n1, isR_m, er]
  · refine askP.mk0 (v := -1) (w := -1) ?_ ?_ rfl
    · rw [eX11_own]
      simp (disch := omega) only [xX11_own_0, xX11_own_1, xX11_own_2, xX11_own_5, xX11_own_8, xX11_own_9, xX11_own_12, xX11_own_15, xX11_own_16, xX11_own_17, xX11_own_18, xX11_own_21, xX11_own_22, xX11_own_25, xX11_own_26, xX11_own_29, xX11_own_30, xX11_own_33, xX11_own_34, xX11_own_37, xX11_own_38, xX11_own_41, xX11_own_44, xX11_own_45, xX11_own_46, kd_0, fi_0_8, kd_88, fi_88_13, kd_97, ln_97, kd_0, ↓reduceIte, gd_t, hK_p, hN_p, hF_p, hI_p, hJ_p, hR_p, stI_p, stJ_p, stR_p, stA_p, va_rf_s, va_rf_n, clr_i, clr_l, clr_r, clr_n, clr_o, w8_0, w8_1i, w8_1r, w8_2ii, w8_2ri, w8_2ir, w8_2rr, w8_3, beq_self_eq_true, Bool.and_self, Bool.and_true, Bool.true_and, decide_true, Option.toList_some, Option.toList_none, List.cons_append, List.nil_append, Option.bind_some, if_true, if_false, Nat.reduceLeDiff, Nat.reduceLT, Nat.reduceBEq, Bool.or_false, Bool.false_or, Bool.or_true, Bool.true_or, nI_leI, nI_ltI, nI_eq, nI_clamp, inb_n, up_s, up_n, bx_uu, nI_1, ix6, nI_0n, pk_us, pk_un, ge_0n, icl_c h.te h.r3, h.nc, e]
    · rw [eX12_own]
      simp (disch := omega) only [xX12_own_0, xX12_own_1, xX12_own_2, xX12_own_5, xX12_own_6, xX12_own_7, xX12_own_10, xX12_own_13, xX12_own_14, xX12_own_17, xX12_own_20, xX12_own_21, xX12_own_22, xX12_own_23, xX12_own_26, xX12_own_29, xX12_own_30, kd_123, kd_123, ↓reduceIte, gd_t, hK_p, hN_p, hF_p, hI_p, hJ_p, hR_p, stI_p, stJ_p, stR_p, stA_p, va_rf_s, va_rf_n, clr_i, clr_l, clr_r, clr_n, clr_o, w8_0, w8_1i, w8_1r, w8_2ii, w8_2ri, w8_2ir, w8_2rr, w8_3, beq_self_eq_true, Bool.and_self, Bool.and_true, Bool.true_and, decide_true, Option.toList_some, Option.toList_none, List.cons_append, List.nil_append, Option.bind_some, if_true, if_false, Nat.reduceLeDiff, Nat.reduceLT, Nat.reduceBEq, Bool.or_false, Bool.false_or, Bool.or_true, Bool.true_or, nI_leI, nI_ltI, nI_eq, nI_clamp, inb_n, up_s, up_n, bx_uu, nI_1, ix6, nI_0n, pk_us, pk_un, ge_0n, icl_m, h.nd, e]
end OWN

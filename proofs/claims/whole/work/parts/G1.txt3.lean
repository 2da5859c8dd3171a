-- TEXT, 38: text
section TX
variable {I : Mem} {J : MemL} {R : MemR} {t t' n nb nm fL lL fG lG st : Nat}
def prM (Z : Mem) (L : Nat) : Mem := va_up Z 123 (upd (upd (upd (upd (upd (upd (Z 123) 2 0) 6 (nI L)) 1 0) 4 0) 5 (-1)) 7 0)
theorem prM_o {Z : Mem} {L c : Nat} (h : c ≠ 123) : prM Z L c = Z c := up_n h
theorem prM_k {Z : Mem} {L k : Nat} (h : k ≠ 1) (h2 : k ≠ 2) (h3 : k < 4 ∨ 7 < k) : prM Z L 123 k = Z 123 k := by
  unfold prM
  rw [up_s, pk_un (by omega), pk_un (by omega), pk_un (by omega), pk_un (by omega), pk_un (by omega), pk_un (by omega)]
/-- the model, up to its reading -/
theorem txt_45 {d L tp : Nat} {Z : Mem} {J2 : MemL} {R2 : MemR} (h1 : Z 123 1 = nI tp) (hL : L ≤ tp) (htp : tp ≤ 700) : C (d + 1) MX12_text [.ref 123, .int (nI L)] (hp Z J2 R2) = E (C d) MX12_text 45 [some (.ref 123), some (.int (nI L)), none] [] (hp (prM Z L) J2 R2) := by
  have c0 : ¬ nI L < 0 := nI_pos (by omega)
  have c1 : nI L ≤ nI tp := (nI_leI (by omega) (by omega)).mpr hL
  rw [eX12_text]
  unfold prM
  simp (disch := omega) only [xX12_text_0, xX12_text_1, xX12_text_2, xX12_text_5, xX12_text_6, xX12_text_9, xX12_text_10, xX12_text_11, xX12_text_14, xX12_text_17, xX12_text_19, xX12_text_20, xX12_text_21, xX12_text_22, xX12_text_25, xX12_text_26, xX12_text_27, xX12_text_30, xX12_text_31, xX12_text_32, xX12_text_35, xX12_text_36, xX12_text_37, xX12_text_40, xX12_text_41, xX12_text_42, kd_123, kd_123, ↓reduceIte, gd_t, hK_p, hN_p, hF_p, hI_p, hJ_p, hR_p, stI_p, stJ_p, stR_p, stA_p, va_rf_s, va_rf_n, clr_i, clr_l, clr_r, clr_n, clr_o, w8_0, w8_1i, w8_1r, w8_2ii, w8_2ri, w8_2ir, w8_2rr, w8_3, beq_self_eq_true, Bool.and_self, Bool.and_true, Bool.true_and, decide_true, Option.toList_some, Option.toList_none, List.cons_append, List.nil_append, Option.bind_some, if_true, if_false, Nat.reduceLeDiff, Nat.reduceLT, Nat.reduceBEq, Bool.or_false, Bool.false_or, Bool.or_true, Bool.true_or, up_s, pk_un, bx_uu, h1, c0, c1]
theorem hfo_c {d : Nat} {X : Mem} : C (d + 1) MX1_forget [.ref 107] (hp X J R) = some (none, hp (va_up X 107 (upd (upd (X 107) 4 0) 5 (-1))) J R) := by
  rw [eX1_forget]
  simp (disch := omega) only [xX1_forget_0, xX1_forget_1, xX1_forget_2, xX1_forget_5, xX1_forget_6, xX1_forget_7, xX1_forget_10, kd_107, ↓reduceIte, gd_t, hK_p, hN_p, hF_p, hI_p, hJ_p, hR_p, stI_p, stJ_p, stR_p, stA_p, va_rf_s, va_rf_n, clr_i, clr_l, clr_r, clr_n, clr_o, w8_0, w8_1i, w8_1r, w8_2ii, w8_2ri, w8_2ir, w8_2rr, w8_3, beq_self_eq_true, Bool.and_self, Bool.and_true, Bool.true_and, decide_true, Option.toList_some, Option.toList_none, List.cons_append, List.nil_append, Option.bind_some, if_true, if_false, Nat.reduceLeDiff, Nat.reduceLT, Nat.reduceBEq, Bool.or_false, Bool.false_or, Bool.or_true, Bool.true_or, up_s, bx_uu]
/-- the class, behind its reading -/
theorem txt_29 {L tp : Nat} (h1 : I 0 1 = nI tp) (hL : L ≤ tp) (htp : tp ≤ 700) (r4 : R 0 4 = some t') : C 11 MX11_text [.ref 0, .int (nI L)] (hp I J R) = (C 10 MX7_reads [.ref 56, .ref t', .int (nI L)] (hp (va_up I 0 (upd (I 0) 1 0)) J R)).bind fun r => E (C 10) MX11_text 32 [some (.ref 0), some (.int (nI L)), none] (r.1.toList ++ []) r.2 := by
  have c0 : ¬ nI L < 0 := nI_pos (by omega)
  have c1 : nI L ≤ nI tp := (nI_leI (by omega) (by omega)).mpr hL
  rw [eX11_text]
  simp (disch := omega) only [xX11_text_0, xX11_text_1, xX11_text_4, xX11_text_5, xX11_text_6, xX11_text_9, xX11_text_12, xX11_text_14, xX11_text_15, xX11_text_16, xX11_text_17, xX11_text_20, xX11_text_21, xX11_text_24, xX11_text_25, xX11_text_28, xX11_text_29, kd_0, fi_0_2, kd_56, fi_0_5, kd_60, fi_0_10, kd_105, fi_0_11, kd_107, kd_56, ↓reduceIte, gd_t, hK_p, hN_p, hF_p, hI_p, hJ_p, hR_p, stI_p, stJ_p, stR_p, stA_p, va_rf_s, va_rf_n, clr_i, clr_l, clr_r, clr_n, clr_o, w8_0, w8_1i, w8_1r, w8_2ii, w8_2ri, w8_2ir, w8_2rr, w8_3, beq_self_eq_true, Bool.and_self, Bool.and_true, Bool.true_and, decide_true, Option.toList_some, Option.toList_none, List.cons_append, List.nil_append, Option.bind_some, if_true, if_false, Nat.reduceLeDiff, Nat.reduceLT, Nat.reduceBEq, Bool.or_false, Bool.false_or, Bool.or_true, Bool.true_or, r4, h1, c0, c1]
theorem text_p (h : cAll I R t t' n nb nm fL lL fG lG st) {x : Int32} : ∃ v I1 J1 R1 I2 J2, C 11 MX11_text [.ref 0, .int x] (hp I J R) = some (some (.int v), hp I1 J1 R1) ∧ C 11 MX12_text [.ref 123, .int x] (hp I1 J1 R1) = some (some (.int v), hp I2 J2 R1) ∧ ((cAll I2 R1 t t' n nb nm fL lL fG lG st ∧ cach I I2 t) ∨ ∃ n nb nm fL lL fG lG, cAll I2 R1 t' t n nb nm fL lL fG lG 0 ∧ I2 112 7 = 0 ∧ I2 117 4 = 0) := by
  obtain ⟨ht, ht', htt, r3, r4, htx, hlw, hkn, hnw, him, hst, hhd, hhe, ⟨tp, p1, p2, p3, p4⟩, f1, f2, f3, f4⟩ := id h
  have ta := te_hi ht
  have tb := te_hi ht'
  have td : t + 27 ≤ t' ∨ t' + 27 ≤ t := by
    rcases ht with rfl | rfl <;> rcases ht' with rfl | rfl <;> first | exact absurd rfl htt | omega
  have n1 : ¬ (1 : Int32) = 0 := by decide
  by_cases hx : ¬ x < 0 ∧ x ≤ nI tp
  · obtain ⟨L, hL, rfl⟩ : ∃ L, L ≤ tp ∧ x = nI L := by
      obtain ⟨hx1, hx2⟩ := hx
      have a1 : 0 ≤ x.toInt := by
        have := Int32.le_iff_toInt_le.mp (Int32.not_lt.mp hx1)
        rw [show (0 : Int32).toInt = 0 by decide] at this
        exact this
      have a2 : x.toInt ≤ tp := by
        have := Int32.le_iff_toInt_le.mp hx2
        rw [nI_toInt (by omega)] at this
        exact this
      refine ⟨x.toInt.toNat, by omega, ?_⟩
      apply Int32.toInt_inj.mp
      rw [nI_toInt (by omega)]
      omega
    have hc := txt_29 (J := J) p1 hL p3 r4
    generalize hX0 : va_up I 0 (upd (I 0) 1 0) = X0 at hc
    have x0o : ∀ a, a ≠ 0 → X0 a = I a := fun a ha => by rw [← hX0, up_n ha]
    have x0k : ∀ k, k ≠ 1 → X0 0 k = I 0 k := fun k hk => by rw [← hX0, up_s, pk_un hk]
    have x01 : X0 0 1 = 0 := by rw [← hX0, up_s, pk_us]
    have hu : ∀ k, k < L → X0 1 k = bq ((I 124 k).toNatClampNeg) ∧ (I 124 k).toNatClampNeg < 256 := by
      intro k hk
      obtain ⟨q1, q, -, q2, q3⟩ := p4 k (by omega)
      rw [x0o 1 (by decide), q1, q3, nI_clamp (by omega)]
      exact ⟨rfl, by omega⟩
    have hlg : ∀ k, k < 21 → X0 58 k = nI (lngL.getD k 0) := fun k hk => by rw [x0o 58 (by decide)]; exact f4 k hk
    have hry : ∀ Z : Mem, Z 124 = I 124 → Z 125 = I 125 → rdY (prM Z L) L (fun k => (I 124 k).toNatClampNeg) := by
      intro Z z1 z2
      refine ⟨fun k hk => ?_, fun k hk => ?_, ?_, ?_, ?_, ?_⟩
      · obtain ⟨q1, q, -, q2, q3⟩ := p4 k (by omega)
        rw [prM_o (by decide), z1]
        show I 124 k = nI ((I 124 k).toNatClampNeg)
        rw [q3, nI_clamp (by omega)]
      · rw [prM_o (by decide), z2]; exact f3 k hk
      · unfold prM; rw [up_s, pk_un (by decide), pk_un (by decide), pk_un (by decide), pk_un (by decide), pk_us]
      · unfold prM; rw [up_s, pk_us]
      · unfold prM; rw [up_s, pk_un (by decide), pk_un (by decide), pk_us]
      · unfold prM; rw [up_s, pk_un (by decide), pk_us]
    generalize hR' : va_up R 56 (va_up (R 56) 1 (some t')) = R'
    have rr : ∀ a, a ≠ 56 → R' a = R a := fun a ha => by rw [← hR', up_n ha]
    have hq := rds_q (d := 2) (X := X0) (J := J) (R := R) (L := L) (s := t') (u := fun k => (I 124 k).toNatClampNeg) ht' (by omega) hu hlg
    rw [hR'] at hq
    rcases hq with ⟨X', e1, fc, hm⟩ | ⟨X', e1, fc, hm⟩
    · -- refused
      have xo : ∀ a, a < t' ∨ t' + 26 ≤ a → a ≠ 56 → a ≠ 57 → a ≠ 59 → a ≠ 0 → X' a = I a := fun a h1 h2 h3 h4 h5 => by rw [fc a h1 h2 h3 h4, x0o a h5]
      have x'0 : ∀ k, X' 0 k = X0 0 k := fun k => by rw [fc 0 (by omega) (by decide) (by decide) (by decide)]
      obtain ⟨Y', g1, fa, fm⟩ := hm (prM X' L) J R' (nI L) (hry X' (xo 124 (by omega) (by decide) (by decide) (by decide) (by decide)) (xo 125 (by omega) (by decide) (by decide) (by decide) (by decide)))
      have hm2 := txt_45 (d := 9) (Z := X') (J2 := J) (R2 := R') (by rw [xo 123 (by omega) (by decide) (by decide) (by decide) (by decide)]; exact p2) hL p3
      rw [g1] at hm2
      have hm3 := C_up _ _ _ _ _ hm2
      have yo : ∀ a, a < 123 ∨ a = 124 ∨ a = 125 ∨ 148 < a → Y' a = X' a := fun a ha => by rw [fm.1 a ha, prM_o (by omega)]
      have yh : ∀ a k, 126 ≤ a → a ≤ 148 → k < hfM a → Y' a k = I a k := fun a k h1 h2 h3 => by rw [fm.2.1 a k h1 h2 h3, prM_o (by omega), xo a (by omega) (by omega) (by omega) (by omega) (by omega)]
      have yk : ∀ k, k = 0 ∨ k = 3 ∨ (11 < k ∧ k < 17) ∨ (22 < k ∧ k < 46) ∨ 51 < k → Y' 123 k = I 123 k := fun k hk => by rw [fm.2.2 k (by omega), prM_k (by omega) (by omega) (by omega), xo 123 (by omega) (by decide) (by decide) (by decide) (by decide)]
      have yx : ∀ a, (a < t' ∨ t' + 26 ≤ a) → a ≠ 56 → a ≠ 57 → a ≠ 59 → a ≠ 0 → a < 123 ∨ a = 124 ∨ a = 125 ∨ 148 < a → Y' a = I a := fun a h1 h2 h3 h4 h5 h6 => by rw [yo a h6, xo a h1 h2 h3 h4 h5]
      refine ⟨-1, X', J, R', Y', J, ?_, hm3, Or.inl ⟨⟨ht, ht', htt, by rw [rr 0 (by decide)]; exact r3, by rw [rr 0 (by decide)]; exact r4, cTxt_fh htx (fun a h1 h2 => yx a (by omega) (by omega) (by omega) (by omega) (by omega) (by omega)) (fun a k h1 h2 h3 => yh a k h1 (by omega) h3) (fun k h1 h2 => yk k (by omega)), cLws_fh hlw (fun a h1 h2 => yx a (by omega) (by omega) (by omega) (by omega) (by omega) (by omega)) (fun a k h1 h2 h3 => yh a k (by omega) (by omega) h3), by rw [yk 15 (by omega)]; exact hkn, cNow_fr hnw h.n6 (fun a h1 h2 => yx a (by omega) (by omega) (by omega) (by omega) (by omega) (by omega)) (fun a h1 h2 => yx a (by omega) (by omega) (by omega) (by omega) (by omega) (by omega)) (fun a k h1 h2 _ => by rw [yx a (by omega) (by omega) (by omega) (by omega) (by omega) (by omega)]) (yk 70 (by omega)) (rr 60 (by decide)), cImg_fr him (by rw [yo 0 (by omega), x'0, x0k 7 (by decide)]) (fun a h1 h2 => yx a (by omega) (by omega) (by omega) (by omega) (by omega) (by omega)) (yx _ (by omega) (by omega) (by omega) (by omega) (by omega) (by omega)) (yk 84 (by omega)) (yk 85 (by omega)) (rr 74 (by decide)), cSto_fr hst (yx _ (by omega) (by omega) (by omega) (by omega) (by omega) (by omega)) (yx _ (by omega) (by omega) (by omega) (by omega) (by omega) (by omega)) (yx _ (by omega) (by omega) (by omega) (by omega) (by omega) (by omega)) (yx _ (by omega) (by omega) (by omega) (by omega) (by omega) (by omega)), cHnd_fr hhd (yx _ (by omega) (by omega) (by omega) (by omega) (by omega) (by omega)) (yx _ (by omega) (by omega) (by omega) (by omega) (by omega) (by omega)) (yx _ (by omega) (by omega) (by omega) (by omega) (by omega) (by omega)) (yk 73 (by omega)), cHea_fr hhe (fun a h1 h2 => yx a (by omega) (by omega) (by omega) (by omega) (by omega) (by omega)) (yx _ (by omega) (by omega) (by omega) (by omega) (by omega) (by omega)) (yk 79 (by omega)) (yk 80 (by omega)), ⟨0, ?_, ?_, by omega, fun k hk => absurd hk (by omega)⟩, ?_, ?_, fun k hk => ?_, fun k hk => ?_⟩, Or.inr ⟨fun a h1 h2 => yx a (by omega) (by omega) (by omega) (by omega) (by omega) (by omega), yx _ (by omega) (by omega) (by omega) (by omega) (by omega) (by omega), yx _ (by omega) (by omega) (by omega) (by omega) (by omega) (by omega), yx _ (by omega) (by omega) (by omega) (by omega) (by omega) (by omega), yx _ (by omega) (by omega) (by omega) (by omega) (by omega) (by omega), yx _ (by omega) (by omega) (by omega) (by omega) (by omega) (by omega), yx _ (by omega) (by omega) (by omega) (by omega) (by omega) (by omega)⟩⟩⟩
      · rw [hc, e1]
        simp (disch := omega) only [xX11_text_32, xX11_text_35, xX11_text_36, ↓reduceIte, gd_t, hK_p, hN_p, hF_p, hI_p, hJ_p, hR_p, stI_p, stJ_p, stR_p, stA_p, va_rf_s, va_rf_n, clr_i, clr_l, clr_r, clr_n, clr_o, w8_0, w8_1i, w8_1r, w8_2ii, w8_2ri, w8_2ir, w8_2rr, w8_3, beq_self_eq_true, Bool.and_self, Bool.and_true, Bool.true_and, decide_true, Option.toList_some, Option.toList_none, List.cons_append, List.nil_append, Option.bind_some, if_true, if_false, Nat.reduceLeDiff, Nat.reduceLT, Nat.reduceBEq, Bool.or_false, Bool.false_or, Bool.or_true, Bool.true_or, not_true_eq_false]
      · rw [yo 0 (by omega), x'0, x01]; rfl
      · rw [fm.2.2 1 (by omega)]
        unfold prM
        rw [up_s, pk_un (by decide), pk_un (by decide), pk_un (by decide), pk_us]; rfl
      · rw [yo 56 (by omega)]; exact fa.1
      · rw [yo 56 (by omega)]; exact fa.2
      · rw [yx 125 (by omega) (by omega) (by omega) (by omega) (by omega) (by omega)]; exact f3 k hk
      · rw [yx 58 (by omega) (by omega) (by omega) (by omega) (by omega) (by omega)]; exact f4 k hk
    · -- taken
      have xo : ∀ a, a < t' ∨ t' + 26 ≤ a → a ≠ 56 → a ≠ 57 → a ≠ 59 → a ≠ 0 → X' a = I a := fun a h1 h2 h3 h4 h5 => by rw [fc a h1 h2 h3 h4, x0o a h5]
      have x'0 : ∀ k, X' 0 k = X0 0 k := fun k => by rw [fc 0 (by omega) (by decide) (by decide) (by decide)]
      -- how many clocks, for the class alone
      obtain ⟨Yz, b, n', m, fL', lL', fG', lG', k, -, hr0, h4, -, -⟩ := hm (prM X' L) J R' (nI L) (hry X' (xo 124 (by omega) (by decide) (by decide) (by decide) (by decide)) (xo 125 (by omega) (by decide) (by decide) (by decide) (by decide)))
      have hn' : X' (t' + 5) 1 = nI n' := hr0.2.1.1.1
      have hn6 : n' ≤ 6 := hr0.2.1.2.2.1
      generalize hR1 : va_up (va_up R' 0 (va_up (va_up (R' 0) 3 (some t')) 4 (some t))) 60 (va_up (R' 60) 0 (some t')) = R1
      have r10 : va_up R' 0 (va_up (va_up (R' 0) 3 (some t')) 4 (some t)) 60 = R' 60 := up_n (by decide)
      have hbeg := beg_spec (d := 6) (m := 60) (t := t') (b := t' + 7) (p := t' + 8) (n := n') (I := X') (J := J) (R := va_up R' 0 (va_up (va_up (R' 0) 3 (some t')) 4 (some t))) (Or.inl rfl) ht' (te_k7 ht') (te_n7 ht') (te_k8 ht') (te_n8 ht') (by omega) (by omega) hn' hn6
      rw [r10, hR1] at hbeg
      generalize hB : begM X' 60 t' (t' + 7) (t' + 8) n' = B at hbeg
      have bo : ∀ a, a < 60 ∨ 72 ≤ a → B a = X' a := fun a ha => by rw [← hB, begM_o (by omega)]
      generalize hB2 : va_up (va_up (va_up B 0 (upd (B 0) 7 0)) 105 (upd (B 105) 1 0)) 107 (upd (upd (B 107) 4 0) 5 (-1)) = B2
      have b2o : ∀ a, a ≠ 0 → a ≠ 105 → a ≠ 107 → B2 a = B a := fun a h1 h2 h3 => by rw [← hB2, up_n h3, up_n h2, up_n h1]
      generalize hI1 : ffM B2 = I1
      have i1o : ∀ a, a ≠ 112 → a ≠ 117 → I1 a = B2 a := fun a h1 h2 => by rw [← hI1]; unfold ffM; rw [up_n h2, up_n h1]
      have i1x : ∀ a, a < 60 ∨ 72 ≤ a → a ≠ 0 → a ≠ 105 → a ≠ 107 → a ≠ 112 → a ≠ 117 → I1 a = X' a := fun a h1 h2 h3 h4 h5 h6 => by rw [i1o a h5 h6, b2o a h2 h3 h4, bo a h1]
      have hcl : C 11 MX11_text [.ref 0, .int (nI L)] (hp I J R) = some (some (.int (nI k)), hp I1 J R1) := by
        have r0a : R' 0 3 = some t := by rw [rr 0 (by decide)]; exact r3
        have r0b : R' 0 4 = some t' := by rw [rr 0 (by decide)]; exact r4
        have n34 : (4 : Nat) ≠ 3 := by decide
        have n43 : (3 : Nat) ≠ 4 := by decide
        have h56 : I1 56 4 = nI k := by rw [i1x 56 (by omega) (by decide) (by decide) (by decide) (by decide) (by decide)]; exact h4
        have hfo := hfo_c (d := 9) (J := J) (R := R1) (X := va_up (va_up B 0 (upd (B 0) 7 0)) 105 (upd (B 105) 1 0))
        rw [show va_up (va_up B 0 (upd (B 0) 7 0)) 105 (upd (B 105) 1 0) 107 = B 107 by rw [up_n (by decide), up_n (by decide)], hB2] at hfo
        have hfr := for_c (d := 9) (J := J) (R := R1) (I := va_up B 0 (upd (B 0) 7 0))
        rw [show va_up B 0 (upd (B 0) 7 0) 105 = B 105 by rw [up_n (by decide)]] at hfr
        have hff := ff_c (d := 8) (J := J) (R := R1) (I := B2)
        rw [hI1] at hff
        rw [hc, e1]
        simp (disch := omega) only [xX11_text_32, xX11_text_35, xX11_text_36, xX11_text_37, xX11_text_38, xX11_text_41, xX11_text_41N, xX11_text_42, xX11_text_43, xX11_text_44, xX11_text_47, xX11_text_50, xX11_text_51, xX11_text_52, xX11_text_55, xX11_text_56, xX11_text_59, xX11_text_60, xX11_text_63, xX11_text_64, xX11_text_67, xX11_text_70, xX11_text_71, xX11_text_74, xX11_text_77, xX11_text_80, xX11_text_81, xX11_text_82, xX11_text_85, xX11_text_86, xX11_text_89, xX11_text_92, xX11_text_93, xX11_text_96, xX11_text_99, xX11_text_100, xX11_text_103, xX11_text_104, xX11_text_107, xX11_text_110, kd_0, fi_0_2, kd_56, fi_0_5, kd_60, fi_0_10, kd_105, fi_0_11, kd_107, te_k0 ht', te_f0_4 ht', te_k7 ht', te_n7 ht', te_f0_5 ht', te_k8 ht', te_n8 ht', kd_0, kd_56, kd_60, kd_105, kd_107, te_k0 ht', te_k0 ht, w8_4, ↓reduceIte, gd_t, hK_p, hN_p, hF_p, hI_p, hJ_p, hR_p, stI_p, stJ_p, stR_p, stA_p, va_rf_s, va_rf_n, clr_i, clr_l, clr_r, clr_n, clr_o, w8_0, w8_1i, w8_1r, w8_2ii, w8_2ri, w8_2ir, w8_2rr, w8_3, beq_self_eq_true, Bool.and_self, Bool.and_true, Bool.true_and, decide_true, Option.toList_some, Option.toList_none, List.cons_append, List.nil_append, Option.bind_some, if_true, if_false, Nat.reduceLeDiff, Nat.reduceLT, Nat.reduceBEq, Bool.or_false, Bool.false_or, Bool.or_true, Bool.true_or, r0a, r0b, up_s, up_n, n34, n43, bx_uu, hbeg, hfr, hfo, hff, h56, n1, ne_eq, not_false_eq_true]
      -- the model, on what the class left
      obtain ⟨Y', b, n2, m, fL', lL', fG', lG', k2, g1, hr, h42, fa, fm⟩ := hm (prM I1 L) J R1 (nI L) (hry I1 (by rw [i1x 124 (by omega) (by decide) (by decide) (by decide) (by decide) (by decide), xo 124 (by omega) (by decide) (by decide) (by decide) (by decide)]) (by rw [i1x 125 (by omega) (by decide) (by decide) (by decide) (by decide) (by decide), xo 125 (by omega) (by decide) (by decide) (by decide) (by decide)]))
      have en : n2 = n' := (nI_eq (by have := hr.2.1.2.2.1; omega) (by omega)).mp (hr.2.1.1.1.symm.trans hn')
      subst en
      have hb : ∀ k, k = 2 ∨ k = 3 → Y' 141 k = 0 ∨ Y' 141 k = 1 := by
        obtain ⟨-, -, -, -, ⟨⟨l1, l2⟩, -⟩, ⟨⟨l3, l4⟩, -⟩, -⟩ := hr
        rintro k (rfl | rfl)
        · rw [← l1]; exact l2
        · rw [← l3]; exact l4
      obtain ⟨I2, hk, k1, k2', k3, k4, k5, k6, k7⟩ := kpt_m (d := 7) (Y := Y') (J2 := J) (R2 := R1) hb hr.2.1.2.1 hn6
      have i2c : ∀ a, a < 123 ∨ a = 124 ∨ a = 125 → I2 a = I1 a := fun a ha => by rw [k7 a ha, fm.1 a (by omega), prM_o (by omega)]
      have ekk : nI k2 = nI k := h42.symm.trans h4
      have hm2 := txt_45 (d := 9) (Z := I1) (J2 := J) (R2 := R1) (by rw [i1x 123 (by omega) (by decide) (by decide) (by decide) (by decide) (by decide), xo 123 (by omega) (by decide) (by decide) (by decide) (by decide)]; exact p2) hL p3
      have hm3 : C 10 MX12_text [.ref 123, .int (nI L)] (hp I1 J R1) = some (some (.int (nI k)), hp I2 J R1) := by
        rw [hm2, g1]
        simp (disch := omega) only [xX12_text_77, xX12_text_78, xX12_text_81, xX12_text_82, kd_123, kd_123, ↓reduceIte, gd_t, hK_p, hN_p, hF_p, hI_p, hJ_p, hR_p, stI_p, stJ_p, stR_p, stA_p, va_rf_s, va_rf_n, clr_i, clr_l, clr_r, clr_n, clr_o, w8_0, w8_1i, w8_1r, w8_2ii, w8_2ri, w8_2ir, w8_2rr, w8_3, beq_self_eq_true, Bool.and_self, Bool.and_true, Bool.true_and, decide_true, Option.toList_some, Option.toList_none, List.cons_append, List.nil_append, Option.bind_some, if_true, if_false, Nat.reduceLeDiff, Nat.reduceLT, Nat.reduceBEq, Bool.or_false, Bool.false_or, Bool.or_true, Bool.true_or, hk, ekk]
      refine ⟨nI k, I1, J, R1, I2, J, hcl, C_up _ _ _ _ _ hm3, Or.inr ⟨n2, b, m, fL', lL', fG', lG', ?_, ?_, ?_⟩⟩
      · refine cNew ht' ht (fun q => htt q.symm) ?_ ?_ ?_ hr k1 k2' k3 k4 k5 (fun a h1 h2 => ?_) (fun a h1 h2 => ?_) ⟨?_, ?_, ?_, ?_, ?_, ?_⟩ ⟨?_, ?_, fun k hk => ?_, fun k hk => ?_⟩
        · rw [← hR1, up_n (by decide), up_s, up_n (by decide), up_s]
        · rw [← hR1, up_n (by decide), up_s, up_s]
        · rw [← hR1, up_s, up_s]
        · rw [i2c a (by omega), i1x a (by omega) (by omega) (by omega) (by omega) (by omega) (by omega)]
        · rw [i2c a (by omega), i1o a (by omega) (by omega), b2o a (by omega) (by omega) (by omega), ← hB]
        · rw [i2c 0 (by omega), i1o 0 (by decide) (by decide), ← hB2, up_n (by decide), up_n (by decide), up_s, pk_us]
        · rw [i2c 105 (by omega), i1o 105 (by decide) (by decide), ← hB2, up_n (by decide), up_s, pk_us]
        · rw [i2c 107 (by omega), i1o 107 (by decide) (by decide), ← hB2, up_s, pk_un (by decide), pk_us]
        · rw [i2c 107 (by omega), i1o 107 (by decide) (by decide), ← hB2, up_s, pk_us]
        · rw [i2c 0 (by omega), i1o 0 (by decide) (by decide), ← hB2, up_n (by decide), up_n (by decide), up_s, pk_un (by decide), bo 0 (by omega), x'0, x01]
        · rw [k6 1 (by omega), fm.2.2 1 (by omega)]
          unfold prM
          rw [up_s, pk_un (by decide), pk_un (by decide), pk_un (by decide), pk_us]
        · rw [i2c 56 (by omega), i1x 56 (by omega) (by decide) (by decide) (by decide) (by decide) (by decide), k6 4 (by omega)]; exact fa.1
        · rw [i2c 56 (by omega), i1x 56 (by omega) (by decide) (by decide) (by decide) (by decide) (by decide), k6 5 (by omega)]; exact fa.2
        · rw [i2c 125 (by omega), i1x 125 (by omega) (by decide) (by decide) (by decide) (by decide) (by decide), xo 125 (by omega) (by decide) (by decide) (by decide) (by decide)]; exact f3 k hk
        · rw [i2c 58 (by omega), i1x 58 (by omega) (by decide) (by decide) (by decide) (by decide) (by decide), xo 58 (by omega) (by decide) (by decide) (by decide) (by decide)]; exact f4 k hk
      · rw [i2c 112 (by omega), ← hI1]
        unfold ffM
        rw [up_n (by decide), up_s, pk_us]
      · rw [i2c 117 (by omega), ← hI1]
        unfold ffM
        rw [up_s, pk_us]
  · -- no such number
    have e1 : C 11 MX11_text [.ref 0, .int x] (hp I J R) = some (some (.int (-2)), hp I J R) := by
      rw [eX11_text]
      by_cases z : x < 0
      · simp (disch := omega) only [xX11_text_0, xX11_text_1, xX11_text_4, xX11_text_5, xX11_text_6, xX11_text_9, xX11_text_12, xX11_text_14, kd_0, fi_0_2, kd_56, fi_0_5, kd_60, fi_0_10, kd_105, fi_0_11, kd_107, ↓reduceIte, gd_t, hK_p, hN_p, hF_p, hI_p, hJ_p, hR_p, stI_p, stJ_p, stR_p, stA_p, va_rf_s, va_rf_n, clr_i, clr_l, clr_r, clr_n, clr_o, w8_0, w8_1i, w8_1r, w8_2ii, w8_2ri, w8_2ir, w8_2rr, w8_3, beq_self_eq_true, Bool.and_self, Bool.and_true, Bool.true_and, decide_true, Option.toList_some, Option.toList_none, List.cons_append, List.nil_append, Option.bind_some, if_true, if_false, Nat.reduceLeDiff, Nat.reduceLT, Nat.reduceBEq, Bool.or_false, Bool.false_or, Bool.or_true, Bool.true_or, z]
      · have z2 : ¬ x ≤ nI tp := fun q => hx ⟨z, q⟩
        simp (disch := omega) only [xX11_text_0, xX11_text_1, xX11_text_4, xX11_text_5, xX11_text_6, xX11_text_9, xX11_text_12, xX11_text_14, kd_0, fi_0_2, kd_56, fi_0_5, kd_60, fi_0_10, kd_105, fi_0_11, kd_107, ↓reduceIte, gd_t, hK_p, hN_p, hF_p, hI_p, hJ_p, hR_p, stI_p, stJ_p, stR_p, stA_p, va_rf_s, va_rf_n, clr_i, clr_l, clr_r, clr_n, clr_o, w8_0, w8_1i, w8_1r, w8_2ii, w8_2ri, w8_2ir, w8_2rr, w8_3, beq_self_eq_true, Bool.and_self, Bool.and_true, Bool.true_and, decide_true, Option.toList_some, Option.toList_none, List.cons_append, List.nil_append, Option.bind_some, if_true, if_false, Nat.reduceLeDiff, Nat.reduceLT, Nat.reduceBEq, Bool.or_false, Bool.false_or, Bool.or_true, Bool.true_or, z, p1, z2]
    have e2 : C 11 MX12_text [.ref 123, .int x] (hp I J R) = some (some (.int (-2)), hp (va_up I 123 (upd (I 123) 2 0)) J R) := by
      rw [eX12_text]
      by_cases z : x < 0
      · simp (disch := omega) only [xX12_text_0, xX12_text_1, xX12_text_2, xX12_text_5, xX12_text_6, xX12_text_9, xX12_text_10, xX12_text_11, xX12_text_14, xX12_text_17, xX12_text_19, kd_123, kd_123, ↓reduceIte, gd_t, hK_p, hN_p, hF_p, hI_p, hJ_p, hR_p, stI_p, stJ_p, stR_p, stA_p, va_rf_s, va_rf_n, clr_i, clr_l, clr_r, clr_n, clr_o, w8_0, w8_1i, w8_1r, w8_2ii, w8_2ri, w8_2ir, w8_2rr, w8_3, beq_self_eq_true, Bool.and_self, Bool.and_true, Bool.true_and, decide_true, Option.toList_some, Option.toList_none, List.cons_append, List.nil_append, Option.bind_some, if_true, if_false, Nat.reduceLeDiff, Nat.reduceLT, Nat.reduceBEq, Bool.or_false, Bool.false_or, Bool.or_true, Bool.true_or, z]
      · have z2 : ¬ x ≤ nI tp := fun q => hx ⟨z, q⟩
        simp (disch := omega) only [xX12_text_0, xX12_text_1, xX12_text_2, xX12_text_5, xX12_text_6, xX12_text_9, xX12_text_10, xX12_text_11, xX12_text_14, xX12_text_17, xX12_text_19, kd_123, kd_123, ↓reduceIte, gd_t, hK_p, hN_p, hF_p, hI_p, hJ_p, hR_p, stI_p, stJ_p, stR_p, stA_p, va_rf_s, va_rf_n, clr_i, clr_l, clr_r, clr_n, clr_o, w8_0, w8_1i, w8_1r, w8_2ii, w8_2ri, w8_2ir, w8_2rr, w8_3, beq_self_eq_true, Bool.and_self, Bool.and_true, Bool.true_and, decide_true, Option.toList_some, Option.toList_none, List.cons_append, List.nil_append, Option.bind_some, if_true, if_false, Nat.reduceLeDiff, Nat.reduceLT, Nat.reduceBEq, Bool.or_false, Bool.false_or, Bool.or_true, Bool.true_or, up_s, pk_un, z, p2, z2]
    refine ⟨-2, I, J, R, _, J, e1, e2, Or.inl ⟨cAll_thr h, Or.inr ⟨fun a h1 h2 => up_n (by omega), up_n (by decide), up_n (by decide), up_n (by decide), up_n (by decide), up_n (by decide), up_n (by decide)⟩⟩⟩
end TX

-- STEPS, 2: the model goes on; the pair
section STM
variable {I I1 M0 X : Mem} {J : MemL} {R R1 : MemR} {t t' n nb nm fL lL fG lG st : Nat}
def clG (I : Mem) (t lL lG n : Nat) : Nat → S5 → S5 := fun j s => stC I 60 t lL lG n (nI j) s
/-- the parameters agree -/
theorem par_now (h : cAll I R t t' n nb nm fL lL fG lG st) (kr : ∀ a, 124 ≤ a → a ≤ 156 → I1 a = I a) (f13 : I1 123 13 = I 123 13) (f16 : I1 123 16 = I 123 16) : cPar I 60 t lL lG (plaM I1) 0 fL fG n ∧ okR (plaM I1) 0 n fL (fL + lL) fG (fG + lG) := by
  have hn6 := h.n6
  have hb3 := h.txt.1.2.2
  have n1 : ¬ (1 : Int32) = 0 := by decide
  obtain ⟨c1, c2, c3, c4, c5, c6, c7, c8, ⟨c9, -⟩, c10, c11, c12⟩ := h.now
  have o : ∀ a, 124 ≤ a → a ≤ 146 → plaM I1 a = I a := fun a h1 h2 => by rw [pla_o (by omega) (by omega) (by omega)]; exact kr a h1 (by omega)
  have q157 : ∀ c, c < n → plaM I1 157 c = I (t + 10) c := fun c hc => by
    unfold plaM
    rw [up_n (by decide), up_s, cpF_at (by omega), kr _ (by omega) (by omega)]
    exact (h.txt.2.2.2.2.1 c hc).2.2.2.2.1.symm
  have q158 : ∀ c, c < n → plaM I1 158 c = I (t + 14) c := fun c hc => by
    unfold plaM
    rw [up_s, cpF_at (by omega), kr _ (by omega) (by omega)]
    exact (h.txt.2.2.2.2.1 c hc).2.2.2.2.2.2.2.2.symm
  have o1 : ∀ q, q < 6 → plaM I1 151 q = I 151 q := fun q hq => by rw [pla_o (by omega) (by omega) (by omega)]; rw [kr 151 (by omega) (by omega)]
  have o2 : ∀ q, q < 6 → plaM I1 152 q = I 152 q := fun q hq => by rw [pla_o (by omega) (by omega) (by omega)]; rw [kr 152 (by omega) (by omega)]
  have hrows : plaM I1 141 = I 141 ∧ plaM I1 144 = I 144 ∧ plaM I1 145 = I 145 ∧ plaM I1 146 = I 146 := ⟨o _ (by omega) (by omega), o _ (by omega) (by omega), o _ (by omega) (by omega), o _ (by omega) (by omega)⟩
  have hwg : ∀ c, wghM (plaM I1) c = I 132 c := fun c => by
    unfold wghM
    rw [pla_61.2.2.1, if_neg n1, o _ (by omega) (by omega)]
  refine ⟨⟨cLws_lo h.lws (fun _ _ _ => rfl) hrows (by rw [c7, pla_61.2.1]; exact ⟨fun _ => n1, fun _ => rfl⟩), cLws_go h.lws (fun _ _ _ => rfl) hrows, ?_, ?_, ?_, ?_, ?_, ?_⟩, ?_⟩
  · rw [o _ (by omega) (by omega)]
    exact fun c hc => (h.txt.2.2.2.2.1 c hc).2.2.2.2.2.2.1
  · exact fun c hc => (c10 c hc).2.1.trans (q157 c hc).symm
  · exact fun c hc => by rw [hwg c]; exact (c10 c hc).1.trans (h.txt.2.2.2.2.1 c hc).2.2.2.1
  · intro c hc
    have := (c9 c hc).2.2.1
    show I (60 + 3) c = plaM I1 152 (0 + c)
    rw [o2 _ (by omega)]
    exact this
  · intro c q hc hq hcq
    rw [show (60 + 11 : Nat) = 71 from rfl, c12 c q hc hq]
    have hrn := rea_now (Im := plaM I1) h hc hq (by rw [pla_61.1, f16]) pla_61.2.2.2.1 o1 o2 (o _ (by omega) (by omega)) (o _ (by omega) (by omega))
    unfold bonF
    rw [if_neg hcq, hrn, hwg q, (c10 q hq).1, (h.txt.2.2.2.2.1 q hq).2.2.2.1, Nat.zero_add, Nat.zero_add]
  · intro i hi j hj
    rw [pla_61.2.2.2.2, isB63 i (by omega), Bool.and_true, q158 i hi, ← (c10 i hi).2.2]
  · refine ⟨by rw [pla_f (by omega), f13]; exact h.nd, hn6, ?_, fun c hc => ?_, fun c hc => ?_⟩
    · have hokm := cLws_okM h.lws
      unfold okM okM1 at hokm ⊢
      simp (disch := omega) only [o]
      exact hokm
    · obtain ⟨a1, ⟨x, a2, a3⟩, -⟩ := c9 c hc
      exact ⟨x, by omega, by rw [o1 _ (by omega), ← a1]; exact a3⟩
    · rw [hwg c]
      exact w1000 (h.txt.2.2.2.2.2.1 c hc).2.2.1
/-- the model behind i steps of a call -/
def mGo (I M0 X : Mem) (t n st fL lL fG lG i : Nat) : Prop :=
  (∀ a, a ≠ 123 → a ≠ 153 → a ≠ 154 → a ≠ 155 → a ≠ 156 → a ≠ 159 → a ≠ 160 → a ≠ 161 → X a = M0 a) ∧ (∀ k, k ≠ 54 → k ≠ 69 → k ≠ 70 → X 123 k = M0 123 k) ∧ X 123 70 = nI (st + i) ∧ okR X 0 n fL (fL + lL) fG (fG + lG) ∧ stD X 0 fL (fL + lL) fG (fG + lG) n = stD M0 0 fL (fL + lL) fG (fG + lG) n ∧ eqW n (sMd X 0) (sq (clG I t lL lG n) st (sMo I 60) i) ∧
  ∀ τ, τ < st + i → (∀ c, c < n → X 160 (τ * 6 + c) = hiR (I 160) st n (sq (clG I t lL lG n) st (sMo I 60)) τ c) ∧ X 161 τ = hiS (I 161) st (sq (clG I t lL lG n) st (sMo I 60)) τ
theorem m6c (j c : Nat) : (6 : Int32) * nI j + nI c = nI (j * 6 + c) := by rw [show (6 : Int32) = nI 6 from rfl, pk_mul, nI_add, Nat.mul_comm]
theorem mGo_step {d i k : Nat} {l3 : Option Value} (hc : cPar I 60 t lL lG M0 0 fL fG n) (hi : st + i < 4000) (hik : i < k) (hk : k < 2 ^ 31) (g : mGo I M0 X t n st fL lL fG lG i) : ∃ X1 J1 l3', E (C (d + 5)) MX12_steps 36 [some (.ref 123), some (.int (nI k)), some (.int (nI i)), l3] [] (hp X J R) = E (C (d + 5)) MX12_steps 36 [some (.ref 123), some (.int (nI k)), some (.int (nI (i + 1))), l3'] [] (hp X1 J1 R) ∧ mGo I M0 X1 t n st fL lL fG lG (i + 1) := by
  obtain ⟨g1, g2, g3, g4, g5, g6, g7⟩ := g
  have hok := g4
  obtain ⟨q1, q2, q3, q4, q5⟩ := g4
  obtain ⟨h1, h2, h3, h4, h5, h6, h7, h8⟩ := hc
  generalize hG : sq (clG I t lL lG n) st (sMo I 60) = G at *
  have hGs : G (i + 1) = stC I 60 t lL lG n (nI (st + i)) (G i) := by rw [← hG]; rfl
  obtain ⟨e', J1, e⟩ := stp_spec (d := d) (at1 := 0) (t := nI (st + i)) (J := J) (R := R) (by omega) q1 q2 q3 q4 q5
  rw [nI_0] at e
  have a1 := eqS_lo q2 (stpM_s (I := X) (at1 := 0) (n := n) (fL := fL) (lL := fL + lL) (fG := fG) (lG := fG + lG) (t := nI (st + i)) (e := e'))
  have a2 := mdV_st (I := X) (at1 := 0) (fL := fL) (lL := fL + lL) (fG := fG) (lG := fG + lG) (t := nI (st + i)) q2
  have hnew : eqS n (sMd (stpM X 0 n (nI (st + i)) fL (fL + lL) fG (fG + lG) e') 0) (G (i + 1)) := by
    refine a1.tr (a2.tr ?_)
    rw [g5, hGs]
    refine eqS.sm ?_
    exact stepG_cong h1 h2 h3 h4 h5 h6 h7 (fun c hc => h8 c hc (st + i) (by omega)) ⟨g6.1.sm, g6.2.1.sm, g6.2.2.1.sm, g6.2.2.2.sm⟩
  have hD := stD_stp (I := X) (at1 := 0) (n := n) (fL := fL) (lL := fL + lL) (fG := fG) (lG := fG + lG) (t := nI (st + i)) (e := e')
  have hokS := okR_stp (t := nI (st + i)) (e := e') hok
  have o1 : ∀ a, a ≠ 123 → a ≠ 153 → a ≠ 154 → a ≠ 155 → a ≠ 156 → a ≠ 159 → stpM X 0 n (nI (st + i)) fL (fL + lL) fG (fG + lG) e' a = X a := fun a b0 b1 b2 b3 b4 b5 => stpM_o b0 b1 b2 b3 b4 b5
  have f1 : ∀ k, k ≠ 54 → k ≠ 69 → stpM X 0 n (nI (st + i)) fL (fL + lL) fG (fG + lG) e' 123 k = X 123 k := fun k b1 b2 => stpM_f b1 b2
  generalize hY : stpM X 0 n (nI (st + i)) fL (fL + lL) fG (fG + lG) e' = Y at *
  have y69 : Y 123 69 = (G (i + 1)).2.2.2.2 := hnew.2.2.2.2
  have y13 : Y 123 13 = nI n := by rw [f1 13 (by decide) (by decide)]; exact q1
  have y70 : Y 123 70 = nI (st + i) := by rw [f1 70 (by decide) (by decide)]; exact g3
  have y153 : ∀ c, c < n → Y 153 c = (G (i + 1)).1 c := fun c hc => by
    have this : Y 153 (0 + c) = (G (i + 1)).1 c := hnew.1 c hc
    rw [Nat.zero_add] at this
    exact this
  have hl := for_0 (P := fun c (r : Nat → Int32) => E (C (d + 5)) MX12_steps 52 [some (.ref 123), some (.int (nI k)), some (.int (nI i)), some (.int (nI c))] [] (hp (va_up Y 160 r) J1 R)) (fin := fun r => E (C (d + 5)) MX12_steps 86 [some (.ref 123), some (.int (nI k)), some (.int (nI i)), some (.int (nI n))] [] (hp (va_up Y 160 r) J1 R)) (f := fun c r => upd r ((st + i) * 6 + c) (Y 153 c)) (n := n) (s := Y 160) (by
    intro c r hc
    have c1 : ¬ n ≤ c := by omega
    rw [xX12_steps_52]
    simp (disch := omega) only [xX12_steps_53, xX12_steps_54, xX12_steps_57, xX12_steps_60, xX12_steps_61, xX12_steps_64, xX12_steps_66, xX12_steps_67, xX12_steps_70, xX12_steps_71, xX12_steps_72, xX12_steps_73, xX12_steps_74, xX12_steps_77, xX12_steps_78, xX12_steps_79, xX12_steps_80, xX12_steps_83, kd_123, fi_123_57, kd_153, ln_153, fi_123_71, kd_160, ln_160, fi_123_72, kd_161, ln_161, ↓reduceIte, gd_t, hK_p, hN_p, hF_p, hI_p, hJ_p, hR_p, stI_p, stJ_p, stR_p, stA_p, va_rf_s, va_rf_n, clr_i, clr_l, clr_r, clr_n, clr_o, w8_0, w8_1i, w8_1r, w8_2ii, w8_2ri, w8_2ir, w8_2rr, w8_3, beq_self_eq_true, Bool.and_self, Bool.and_true, Bool.true_and, decide_true, Option.toList_some, Option.toList_none, List.cons_append, List.nil_append, Option.bind_some, if_true, if_false, Nat.reduceLeDiff, Nat.reduceLT, Nat.reduceBEq, Bool.or_false, Bool.false_or, Bool.or_true, Bool.true_or, nI_leI, nI_ltI, nI_eq, nI_clamp, inb_n, up_s, up_n, bx_uu, nI_1, ix6, nI_0n, pk_us, pk_un, ge_0n, y13, y70, m6c, c1]) (by
    intro r
    have c1 : n ≤ n := Nat.le_refl n
    rw [xX12_steps_52]
    simp (disch := omega) only [xX12_steps_53, xX12_steps_54, xX12_steps_57, xX12_steps_60, xX12_steps_61, xX12_steps_64, xX12_steps_66, xX12_steps_67, xX12_steps_70, xX12_steps_71, xX12_steps_72, xX12_steps_73, xX12_steps_74, xX12_steps_77, xX12_steps_78, xX12_steps_79, xX12_steps_80, xX12_steps_83, kd_123, fi_123_57, kd_153, ln_153, fi_123_71, kd_160, ln_160, fi_123_72, kd_161, ln_161, ↓reduceIte, gd_t, hK_p, hN_p, hF_p, hI_p, hJ_p, hR_p, stI_p, stJ_p, stR_p, stA_p, va_rf_s, va_rf_n, clr_i, clr_l, clr_r, clr_n, clr_o, w8_0, w8_1i, w8_1r, w8_2ii, w8_2ri, w8_2ir, w8_2rr, w8_3, beq_self_eq_true, Bool.and_self, Bool.and_true, Bool.true_and, decide_true, Option.toList_some, Option.toList_none, List.cons_append, List.nil_append, Option.bind_some, if_true, if_false, Nat.reduceLeDiff, Nat.reduceLT, Nat.reduceBEq, Bool.or_false, Bool.false_or, Bool.or_true, Bool.true_or, nI_leI, nI_ltI, nI_eq, nI_clamp, inb_n, up_s, up_n, bx_uu, nI_1, ix6, nI_0n, pk_us, pk_un, ge_0n, y13, c1])
  rw [nI_0, up_self] at hl
  generalize hW : itf (fun c (r : Nat → Int32) => upd r ((st + i) * 6 + c) (Y 153 c)) n 0 (Y 160) = W at *
  have c0 : ¬ k ≤ i := by omega
  refine ⟨va_up (va_up (va_up Y 160 W) 161 (upd (Y 161) (st + i) (G (i + 1)).2.2.2.2)) 123 (upd (Y 123) 70 (nI (st + i + 1))), J1, some (.int (nI n)), ?_, ?_⟩
  · rw [xX12_steps_36]
    simp (disch := omega) only [xX12_steps_37, xX12_steps_38, xX12_steps_41, xX12_steps_42, xX12_steps_43, xX12_steps_44, xX12_steps_47, xX12_steps_50, xX12_steps_51, kd_123, fi_123_57, kd_153, ln_153, fi_123_71, kd_160, ln_160, fi_123_72, kd_161, ln_161, kd_123, ↓reduceIte, gd_t, hK_p, hN_p, hF_p, hI_p, hJ_p, hR_p, stI_p, stJ_p, stR_p, stA_p, va_rf_s, va_rf_n, clr_i, clr_l, clr_r, clr_n, clr_o, w8_0, w8_1i, w8_1r, w8_2ii, w8_2ri, w8_2ir, w8_2rr, w8_3, beq_self_eq_true, Bool.and_self, Bool.and_true, Bool.true_and, decide_true, Option.toList_some, Option.toList_none, List.cons_append, List.nil_append, Option.bind_some, if_true, if_false, Nat.reduceLeDiff, Nat.reduceLT, Nat.reduceBEq, Bool.or_false, Bool.false_or, Bool.or_true, Bool.true_or, nI_leI, nI_ltI, nI_eq, nI_clamp, inb_n, up_s, up_n, bx_uu, nI_1, ix6, nI_0n, pk_us, pk_un, ge_0n, c0, g3, e]
    rw [hl]
    simp (disch := omega) only [xX12_steps_86, xX12_steps_87, xX12_steps_90, xX12_steps_91, xX12_steps_94, xX12_steps_95, xX12_steps_98, xX12_steps_99, xX12_steps_100, xX12_steps_100I, xX12_steps_101, xX12_steps_104, xX12_steps_105, xX12_steps_106, xX12_steps_109, xX12_steps_112, kd_123, fi_123_57, kd_153, ln_153, fi_123_71, kd_160, ln_160, fi_123_72, kd_161, ln_161, kd_123, ↓reduceIte, gd_t, hK_p, hN_p, hF_p, hI_p, hJ_p, hR_p, stI_p, stJ_p, stR_p, stA_p, va_rf_s, va_rf_n, clr_i, clr_l, clr_r, clr_n, clr_o, w8_0, w8_1i, w8_1r, w8_2ii, w8_2ri, w8_2ir, w8_2rr, w8_3, beq_self_eq_true, Bool.and_self, Bool.and_true, Bool.true_and, decide_true, Option.toList_some, Option.toList_none, List.cons_append, List.nil_append, Option.bind_some, if_true, if_false, Nat.reduceLeDiff, Nat.reduceLT, Nat.reduceBEq, Bool.or_false, Bool.false_or, Bool.or_true, Bool.true_or, nI_leI, nI_ltI, nI_eq, nI_clamp, inb_n, up_s, up_n, bx_uu, nI_1, ix6, nI_0n, pk_us, pk_un, ge_0n, y70, y69]
  · refine ⟨fun a b0 b1 b2 b3 b4 b5 b6 b7 => ?_, fun k b1 b2 b3 => ?_, ?_, ?_, ?_, ?_, fun τ hτ => ⟨fun c hc => ?_, ?_⟩⟩
    · rw [up_n b0, up_n b7, up_n b6, o1 a b0 b1 b2 b3 b4 b5, g1 a b0 b1 b2 b3 b4 b5 b6 b7]
    · rw [up_s, pk_un b3, f1 k b1 b2, g2 k b1 b2 b3]
    · rw [up_s, pk_us]
      rfl
    · obtain ⟨r1, r2, r3, r4, r5⟩ := hokS
      refine ⟨by rw [up_s, pk_un (by decide)]; exact r1, r2, ?_, ?_, ?_⟩
      · unfold okM okM1 at r3 ⊢
        simp (disch := omega) only [up_n]
        exact r3
      · simp (disch := omega) only [up_n]
        exact r4
      · intro c hc
        have := r5 c hc
        unfold wghM at this ⊢
        simp (disch := omega) only [up_n, up_s, pk_un]
        exact this
    · rw [← g5, ← hD]
      funext x s
      unfold stD losM goMd wghM reaM stfM
      simp (disch := omega) only [up_n, up_s, pk_un]
    · rw [hG]
      have : eqW n (sMd Y 0) (G (i + 1)) := ⟨hnew.1, hnew.2.1, hnew.2.2.1, hnew.2.2.2.1⟩
      unfold eqW sMd at this ⊢
      simp (disch := omega) only [up_n]
      exact this
    · rw [hG, up_n (by decide), up_n (by decide), up_s, ← hW, row6_at q2 τ c (by omega)]
      by_cases z : τ = st + i
      · rw [if_pos ⟨z, hc⟩, y153 c hc]
        unfold hiR
        rw [if_neg (by omega), show τ - st + 1 = i + 1 by omega]
      · rw [if_neg (by omega), o1 160 (by decide) (by decide) (by decide) (by decide) (by decide) (by decide)]
        exact (g7 τ (by omega)).1 c hc
    · rw [hG, up_n (by decide), up_s]
      by_cases z : τ = st + i
      · rw [z, pk_us]
        unfold hiS
        rw [if_neg (by omega), show st + i - st + 1 = i + 1 by omega]
      · rw [pk_un z, o1 161 (by decide) (by decide) (by decide) (by decide) (by decide) (by decide)]
        exact (g7 τ (by omega)).2
theorem mGo_all {d k : Nat} (hc : cPar I 60 t lL lG M0 0 fL fG n) (hk : st + k ≤ 4000) : ∀ (q i : Nat) (X : Mem) (J : MemL) (l3 : Option Value), i + q = k → mGo I M0 X t n st fL lL fG lG i → ∃ X1 J1 l3', E (C (d + 5)) MX12_steps 36 [some (.ref 123), some (.int (nI k)), some (.int (nI i)), l3] [] (hp X J R) = E (C (d + 5)) MX12_steps 115 [some (.ref 123), some (.int (nI k)), some (.int (nI k)), l3'] [] (hp X1 J1 R) ∧ mGo I M0 X1 t n st fL lL fG lG k := by
  intro q
  induction q with
  | zero =>
    intro i X J l3 hi g
    obtain rfl : i = k := by omega
    have c0 : i ≤ i := Nat.le_refl i
    refine ⟨X, J, l3, ?_, g⟩
    rw [xX12_steps_36]
    simp (disch := omega) only [xX12_steps_37, xX12_steps_38, xX12_steps_41, xX12_steps_42, xX12_steps_43, xX12_steps_44, xX12_steps_47, xX12_steps_50, xX12_steps_51, kd_123, fi_123_57, kd_153, ln_153, fi_123_71, kd_160, ln_160, fi_123_72, kd_161, ln_161, ↓reduceIte, gd_t, hK_p, hN_p, hF_p, hI_p, hJ_p, hR_p, stI_p, stJ_p, stR_p, stA_p, va_rf_s, va_rf_n, clr_i, clr_l, clr_r, clr_n, clr_o, w8_0, w8_1i, w8_1r, w8_2ii, w8_2ri, w8_2ir, w8_2rr, w8_3, beq_self_eq_true, Bool.and_self, Bool.and_true, Bool.true_and, decide_true, Option.toList_some, Option.toList_none, List.cons_append, List.nil_append, Option.bind_some, if_true, if_false, Nat.reduceLeDiff, Nat.reduceLT, Nat.reduceBEq, Bool.or_false, Bool.false_or, Bool.or_true, Bool.true_or, nI_leI, nI_ltI, nI_eq, nI_clamp, inb_n, up_s, up_n, bx_uu, nI_1, ix6, nI_0n, pk_us, pk_un, ge_0n, c0]
  | succ q ih =>
    intro i X J l3 hi g
    obtain ⟨X1, J1, l, e1, g1⟩ := mGo_step (d := d) (J := J) (R := R) (k := k) (l3 := l3) hc (by omega) (by omega) (by omega) g
    obtain ⟨X2, J2, l', e2, g2⟩ := ih (i + 1) X1 J1 l (by omega) g1
    exact ⟨X2, J2, l', e1.trans e2, g2⟩
theorem steps_p (h : cAll I R t t' n nb nm fL lL fG lG st) {x : Int32} : chgP MX11_steps MX12_steps [.int x] I J R t t' n nb nm fL lL fG lG := by
  have hn6 := h.n6
  have hst := h.s4
  have ht := te_hi h.te
  have n1 : ¬ (1 : Int32) = 0 := by decide
  by_cases hx : ¬ x < 0 ∧ ¬ 1000 < x
  · have hb : bi (¬ x < 0 ∧ ¬ 1000 < x) = 1 := if_pos hx
    obtain ⟨k, hk, rfl⟩ := nI_of2 (M := 1000) (n := 1000) (by decide) hx.1 (Int32.not_lt.mp hx.2)
    by_cases h4 : st + k ≤ 4000
    · have c4 : nI (st + k) ≤ (4000 : Int32) := nI_le (b := 4000) h4 (by omega)
      by_cases k0 : k = 0
      · subst k0
        rw [nI_0] at hx hb ⊢
        rw [Nat.add_zero] at c4
        have c1 : (0 : Int32) ≤ 0 := by decide
        have ep := pla_spec (d := 9) (I := va_up I 123 (upd (I 123) 2 0)) (J := J) (R := R)
        refine askP.chg h ⟨nI st, I, J, R, plaM (va_up I 123 (upd (I 123) 2 0)), J, ?_, ?_, kp.thr.tr kp_pla, rfl, rfl, rfl⟩
        · rw [eX11_steps]
          simp (disch := omega) only [xX11_steps_0, xX11_steps_1, xX11_steps_4, xX11_steps_5, xX11_steps_8, xX11_steps_11, xX11_steps_12, xX11_steps_15, xX11_steps_18, xX11_steps_19, xX11_steps_20, xX11_steps_23, xX11_steps_26, xX11_steps_27, xX11_steps_28, xX11_steps_29, xX11_steps_30, xX11_steps_31, xX11_steps_32, xX11_steps_35, xX11_steps_36, xX11_steps_39, xX11_steps_42, xX11_steps_43, xX11_steps_46, xX11_steps_47, xX11_steps_50, xX11_steps_53, xX11_steps_56, xX11_steps_59, xX11_steps_60, xX11_steps_63, xX11_steps_64, xX11_steps_67, xX11_steps_70, xX11_steps_71, xX11_steps_74, xX11_steps_77, kd_0, fi_0_5, kd_60, fi_0_9, kd_102, fi_0_10, kd_105, kd_60, ↓reduceIte, gd_t, hK_p, hN_p, hF_p, hI_p, hJ_p, hR_p, stI_p, stJ_p, stR_p, stA_p, va_rf_s, va_rf_n, clr_i, clr_l, clr_r, clr_n, clr_o, w8_0, w8_1i, w8_1r, w8_2ii, w8_2ri, w8_2ir, w8_2rr, w8_3, beq_self_eq_true, Bool.and_self, Bool.and_true, Bool.true_and, decide_true, Option.toList_some, Option.toList_none, List.cons_append, List.nil_append, Option.bind_some, if_true, if_false, Nat.reduceLeDiff, Nat.reduceLT, Nat.reduceBEq, Bool.or_false, Bool.false_or, Bool.or_true, Bool.true_or, hx.1, hx.2, h.sc, Int32.add_zero, c4, c1]
        · have e70 : plaM (va_up I 123 (upd (I 123) 2 0)) 123 70 = nI st := by rw [pla_f (by omega), up_s, pk_un (by decide)]; exact h.sd
          have e73 : va_up (plaM (va_up I 123 (upd (I 123) 2 0))) 123 (upd (plaM (va_up I 123 (upd (I 123) 2 0)) 123) 73 (plaM (va_up I 123 (upd (I 123) 2 0)) 123 73)) = plaM (va_up I 123 (upd (I 123) 2 0)) := by
            rw [upd_self rfl, up_self]
          rw [eX12_steps]
          simp (disch := omega) only [xX12_steps_0, xX12_steps_1, xX12_steps_2, xX12_steps_5, xX12_steps_6, xX12_steps_7, xX12_steps_10, xX12_steps_13, xX12_steps_16, xX12_steps_17, xX12_steps_20, xX12_steps_21, xX12_steps_22, xX12_steps_25, xX12_steps_28, xX12_steps_29, xX12_steps_30, xX12_steps_31, xX12_steps_34, xX12_steps_35, xX12_steps_36, xX12_steps_37, xX12_steps_38, xX12_steps_41, xX12_steps_42, xX12_steps_43, xX12_steps_44, xX12_steps_47, xX12_steps_50, xX12_steps_51, xX12_steps_52, xX12_steps_53, xX12_steps_54, xX12_steps_57, xX12_steps_60, xX12_steps_61, xX12_steps_64, xX12_steps_66, xX12_steps_67, xX12_steps_70, xX12_steps_71, xX12_steps_72, xX12_steps_73, xX12_steps_74, xX12_steps_77, xX12_steps_78, xX12_steps_79, xX12_steps_80, xX12_steps_83, xX12_steps_86, xX12_steps_87, xX12_steps_90, xX12_steps_91, xX12_steps_94, xX12_steps_95, xX12_steps_98, xX12_steps_99, xX12_steps_100, xX12_steps_100I, xX12_steps_101, xX12_steps_104, xX12_steps_105, xX12_steps_106, xX12_steps_109, xX12_steps_112, xX12_steps_115, xX12_steps_116, xX12_steps_117, xX12_steps_120, xX12_steps_121, xX12_steps_124, xX12_steps_125, xX12_steps_128, xX12_steps_131, xX12_steps_132, xX12_steps_135, kd_123, fi_123_57, kd_153, ln_153, fi_123_71, kd_160, ln_160, fi_123_72, kd_161, ln_161, kd_123, ↓reduceIte, gd_t, hK_p, hN_p, hF_p, hI_p, hJ_p, hR_p, stI_p, stJ_p, stR_p, stA_p, va_rf_s, va_rf_n, clr_i, clr_l, clr_r, clr_n, clr_o, w8_0, w8_1i, w8_1r, w8_2ii, w8_2ri, w8_2ir, w8_2rr, w8_3, beq_self_eq_true, Bool.and_self, Bool.and_true, Bool.true_and, decide_true, Option.toList_some, Option.toList_none, List.cons_append, List.nil_append, Option.bind_some, if_true, if_false, Nat.reduceLeDiff, Nat.reduceLT, Nat.reduceBEq, Bool.or_false, Bool.false_or, Bool.or_true, Bool.true_or, isI_spec, hb, n1, up_s, pk_un, h.sd, Int32.add_zero, c4, ep, c1, e73, e70]
      · have ck : ¬ nI k ≤ (0 : Int32) := fun q => absurd ((nI_leI (b := 0) (by omega) (by omega)).mp q) (by omega)
        obtain ⟨X1, J1, e1, g⟩ := cGo_all (d := 6) (R := R) h h4 k 0 I J (by omega) (cGo_0 h)
        rw [nI_0] at e1
        obtain ⟨g1, g2, g3, g4, g5⟩ := g
        generalize hI1 : va_up X1 105 (upd (X1 105) 1 0) = Z1
        have o1 : ∀ a, a ≠ 60 → a ≠ 67 → a ≠ 68 → a ≠ 69 → a ≠ 70 → a ≠ 72 → a ≠ 103 → a ≠ 104 → a ≠ 105 → Z1 a = I a := fun a b0 b1 b2 b3 b4 b5 b6 b7 b8 => by rw [← hI1, up_n b8]; exact g1 a b0 b1 b2 b3 b4 b5 b6 b7
        have z1 : ∀ a, a ≠ 105 → Z1 a = X1 a := fun a b => by rw [← hI1, up_n b]
        have oo : ∀ a, 123 ≤ a → Z1 a = I a := fun a ha => o1 a (by omega) (by omega) (by omega) (by omega) (by omega) (by omega) (by omega) (by omega) (by omega)
        generalize hQ : va_up Z1 123 (upd (Z1 123) 2 0) = Q
        have qr : ∀ a, a ≠ 123 → Q a = Z1 a := fun a ha => by rw [← hQ, up_n ha]
        have qf : ∀ k, k ≠ 2 → Q 123 k = I 123 k := fun k hk => by rw [← hQ, up_s, pk_un hk, oo 123 (by omega)]
        obtain ⟨hcp, hok⟩ := par_now (I1 := Q) h (fun a h1 _ => by rw [qr a (by omega), oo a (by omega)]) (qf 13 (by decide)) (qf 16 (by decide))
        have ep := pla_spec (d := 9) (I := Q) (J := J1) (R := R)
        have m0 : mGo I (plaM Q) (plaM Q) t n st fL lL fG lG 0 := by
          refine ⟨fun _ _ _ _ _ _ _ _ _ => rfl, fun _ _ _ _ => rfl, by rw [pla_f (by omega), qf 70 (by decide)]; exact h.sd, hok, rfl, ?_, fun τ hτ => ⟨fun c hc => ?_, ?_⟩⟩
          · have r : ∀ a, 153 ≤ a → a ≤ 156 → plaM Q a = I a := fun a h1 h2 => by rw [pla_o (by omega) (by omega) (by omega), qr a (by omega), oo a (by omega)]
            have w := h.now.2.2.2.2.2.2.2.2.2.2.1
            refine ⟨fun c hc => ?_, fun c hc => ?_, fun c hc => ?_, fun c hc => ?_⟩
            · show plaM Q 153 (0 + c) = I 67 c
              rw [r 153 (by omega) (by omega), Nat.zero_add]; exact (w c hc).1.symm
            · show plaM Q 154 (0 + c) = I 68 c
              rw [r 154 (by omega) (by omega), Nat.zero_add]; exact (w c hc).2.2.1.symm
            · show plaM Q 155 (0 + c) = I 69 c
              rw [r 155 (by omega) (by omega), Nat.zero_add]; exact (w c hc).2.2.2.1.symm
            · show plaM Q 156 (0 + c) = I 70 c
              rw [r 156 (by omega) (by omega), Nat.zero_add]; exact (w c hc).2.2.2.2.symm
          · unfold hiR
            rw [if_pos (by omega), pla_o (by omega) (by omega) (by omega), qr _ (by omega), oo _ (by omega)]
          · unfold hiS
            rw [if_pos (by omega), pla_o (by omega) (by omega) (by omega), qr _ (by omega), oo _ (by omega)]
        obtain ⟨X2, J2, l3, e2, m⟩ := mGo_all (d := 5) (R := R) hcp h4 k 0 (plaM Q) J1 none (by omega) m0
        rw [nI_0] at e2
        obtain ⟨m1, m2, m3, m4, m5, m6, m7⟩ := m
        have hG : sq (fun j s => stC I 60 t lL lG n (nI j) s) st (sMo I 60) = sq (clG I t lL lG n) st (sMo I 60) := rfl
        rw [hG] at g4 g5
        have hI7 : phO n (I 67) := fun c hc => (h.now.2.2.2.2.2.2.2.2.2.2.1 c hc).2.1
        have hsp : ∀ i, phO n (sq (clG I t lL lG n) st (sMo I 60) i).1 := fun i => sq_ph (t := t) (lL := lL) (lG := lG) (st := st) (i := i) hI7
        have hsk : ∀ i, ∃ q, q < 64 ∧ (sq (clG I t lL lG n) st (sMo I 60) (i + 1)).2.2.2.2 = nI q := fun i => stepG_sk hn6
        generalize sq (clG I t lL lG n) st (sMo I 60) = G at *
        have e70 : X2 123 70 = nI (st + k) := m3
        refine ⟨nI (st + k), Z1, J1, R, va_up X2 123 (upd (X2 123) 73 0), J2, st + k, ?_, ?_, ?_, ?_⟩
        · rw [eX11_steps]
          simp (disch := omega) only [xX11_steps_0, xX11_steps_1, xX11_steps_4, xX11_steps_5, xX11_steps_8, xX11_steps_11, xX11_steps_12, xX11_steps_15, xX11_steps_18, xX11_steps_19, xX11_steps_20, xX11_steps_23, xX11_steps_26, xX11_steps_27, xX11_steps_28, xX11_steps_29, kd_0, fi_0_5, kd_60, fi_0_9, kd_102, fi_0_10, kd_105, kd_60, ↓reduceIte, gd_t, hK_p, hN_p, hF_p, hI_p, hJ_p, hR_p, stI_p, stJ_p, stR_p, stA_p, va_rf_s, va_rf_n, clr_i, clr_l, clr_r, clr_n, clr_o, w8_0, w8_1i, w8_1r, w8_2ii, w8_2ri, w8_2ir, w8_2rr, w8_3, beq_self_eq_true, Bool.and_self, Bool.and_true, Bool.true_and, decide_true, Option.toList_some, Option.toList_none, List.cons_append, List.nil_append, Option.bind_some, if_true, if_false, Nat.reduceLeDiff, Nat.reduceLT, Nat.reduceBEq, Bool.or_false, Bool.false_or, Bool.or_true, Bool.true_or, hx.1, hx.2, h.sc, nI_add, c4]
          rw [e1]
          have g3' : Z1 60 2 = nI (st + k) := by rw [z1 60 (by decide)]; exact g3
          have ef : C 10 MX0_forget [.ref 105] (hp X1 J1 R) = some (none, hp Z1 J1 R) := by
            rw [eX0_forget]
            simp (disch := omega) only [xX0_forget_0, xX0_forget_1, xX0_forget_2, xX0_forget_5, kd_105, ↓reduceIte, gd_t, hK_p, hN_p, hF_p, hI_p, hJ_p, hR_p, stI_p, stJ_p, stR_p, stA_p, va_rf_s, va_rf_n, clr_i, clr_l, clr_r, clr_n, clr_o, w8_0, w8_1i, w8_1r, w8_2ii, w8_2ri, w8_2ir, w8_2rr, w8_3, beq_self_eq_true, Bool.and_self, Bool.and_true, Bool.true_and, decide_true, Option.toList_some, Option.toList_none, List.cons_append, List.nil_append, Option.bind_some, if_true, if_false, Nat.reduceLeDiff, Nat.reduceLT, Nat.reduceBEq, Bool.or_false, Bool.false_or, Bool.or_true, Bool.true_or, hI1]
          simp (disch := omega) only [xX11_steps_59, xX11_steps_60, xX11_steps_63, xX11_steps_64, xX11_steps_67, xX11_steps_70, xX11_steps_71, xX11_steps_74, xX11_steps_77, kd_0, fi_0_5, kd_60, fi_0_9, kd_102, fi_0_10, kd_105, kd_105, ↓reduceIte, gd_t, hK_p, hN_p, hF_p, hI_p, hJ_p, hR_p, stI_p, stJ_p, stR_p, stA_p, va_rf_s, va_rf_n, clr_i, clr_l, clr_r, clr_n, clr_o, w8_0, w8_1i, w8_1r, w8_2ii, w8_2ri, w8_2ir, w8_2rr, w8_3, beq_self_eq_true, Bool.and_self, Bool.and_true, Bool.true_and, decide_true, Option.toList_some, Option.toList_none, List.cons_append, List.nil_append, Option.bind_some, if_true, if_false, Nat.reduceLeDiff, Nat.reduceLT, Nat.reduceBEq, Bool.or_false, Bool.false_or, Bool.or_true, Bool.true_or, ck, ef, g3']
        · rw [eX12_steps]
          have hs0 : Z1 123 70 = nI st := by rw [oo 123 (by omega)]; exact h.sd
          have hs1 : Q 123 70 = nI st := by rw [qf 70 (by decide)]; exact h.sd
          simp (disch := omega) only [xX12_steps_0, xX12_steps_1, xX12_steps_2, xX12_steps_5, xX12_steps_6, xX12_steps_7, xX12_steps_10, xX12_steps_13, xX12_steps_16, xX12_steps_17, xX12_steps_20, xX12_steps_21, xX12_steps_22, xX12_steps_25, xX12_steps_28, xX12_steps_29, xX12_steps_30, xX12_steps_31, xX12_steps_34, xX12_steps_35, kd_123, fi_123_57, kd_153, ln_153, fi_123_71, kd_160, ln_160, fi_123_72, kd_161, ln_161, kd_123, ↓reduceIte, gd_t, hK_p, hN_p, hF_p, hI_p, hJ_p, hR_p, stI_p, stJ_p, stR_p, stA_p, va_rf_s, va_rf_n, clr_i, clr_l, clr_r, clr_n, clr_o, w8_0, w8_1i, w8_1r, w8_2ii, w8_2ri, w8_2ir, w8_2rr, w8_3, beq_self_eq_true, Bool.and_self, Bool.and_true, Bool.true_and, decide_true, Option.toList_some, Option.toList_none, List.cons_append, List.nil_append, Option.bind_some, if_true, if_false, Nat.reduceLeDiff, Nat.reduceLT, Nat.reduceBEq, Bool.or_false, Bool.false_or, Bool.or_true, Bool.true_or, isI_spec, hb, n1, up_s, pk_un, hs0, hs1, nI_add, c4, hQ, ep]
          rw [e2]
          simp (disch := omega) only [xX12_steps_115, xX12_steps_116, xX12_steps_117, xX12_steps_120, xX12_steps_121, xX12_steps_124, xX12_steps_125, xX12_steps_128, xX12_steps_131, xX12_steps_132, xX12_steps_135, kd_123, fi_123_57, kd_153, ln_153, fi_123_71, kd_160, ln_160, fi_123_72, kd_161, ln_161, kd_123, ↓reduceIte, gd_t, hK_p, hN_p, hF_p, hI_p, hJ_p, hR_p, stI_p, stJ_p, stR_p, stA_p, va_rf_s, va_rf_n, clr_i, clr_l, clr_r, clr_n, clr_o, w8_0, w8_1i, w8_1r, w8_2ii, w8_2ri, w8_2ir, w8_2rr, w8_3, beq_self_eq_true, Bool.and_self, Bool.and_true, Bool.true_and, decide_true, Option.toList_some, Option.toList_none, List.cons_append, List.nil_append, Option.bind_some, if_true, if_false, Nat.reduceLeDiff, Nat.reduceLT, Nat.reduceBEq, Bool.or_false, Bool.false_or, Bool.or_true, Bool.true_or, nI_leI, nI_ltI, nI_eq, nI_clamp, inb_n, up_s, up_n, bx_uu, nI_1, ix6, nI_0n, pk_us, pk_un, ge_0n, ck, e70]
        · have om : ∀ a, a ≠ 123 → a ≠ 153 → a ≠ 154 → a ≠ 155 → a ≠ 156 → a ≠ 157 → a ≠ 158 → a ≠ 159 → a ≠ 160 → a ≠ 161 → va_up X2 123 (upd (X2 123) 73 0) a = Z1 a := fun a b0 b1 b2 b3 b4 b5 b6 b7 b8 b9 => by rw [up_n b0, m1 a b0 b1 b2 b3 b4 b7 b8 b9, pla_o b0 b5 b6, qr a b0]
          have oc : ∀ a, a ≠ 60 → a ≠ 67 → a ≠ 68 → a ≠ 69 → a ≠ 70 → a ≠ 72 → a ≠ 103 → a ≠ 104 → a ≠ 105 → a ≠ 123 → a ≠ 153 → a ≠ 154 → a ≠ 155 → a ≠ 156 → a ≠ 157 → a ≠ 158 → a ≠ 159 → a ≠ 160 → a ≠ 161 → va_up X2 123 (upd (X2 123) 73 0) a = I a := fun a b0 b1 b2 b3 b4 b5 b6 b7 b8 b9 b10 b11 b12 b13 b14 b15 b16 b17 b18 => by rw [om a b9 b10 b11 b12 b13 b14 b15 b16 b17 b18, o1 a b0 b1 b2 b3 b4 b5 b6 b7 b8]
          have fm : ∀ k, k ≠ 2 → k ≠ 54 → k ≠ 69 → k ≠ 70 → k ≠ 73 → (k < 61 ∨ 65 < k) → va_up X2 123 (upd (X2 123) 73 0) 123 k = I 123 k := fun k b0 b1 b2 b3 b4 b5 => by rw [up_s, pk_un b4, m2 k b1 b2 b3, pla_f b5, qf k b0]
          have xc : ∀ a, a < 123 → va_up X2 123 (upd (X2 123) 73 0) a = Z1 a := fun a ha => om a (by omega) (by omega) (by omega) (by omega) (by omega) (by omega) (by omega) (by omega) (by omega) (by omega)
          have xm : ∀ a, a ≠ 123 → va_up X2 123 (upd (X2 123) 73 0) a = X2 a := fun a ha => up_n ha
          have f70 : va_up X2 123 (upd (X2 123) 73 0) 123 70 = nI (st + k) := by rw [up_s, pk_un (by decide)]; exact m3
          have f73 : va_up X2 123 (upd (X2 123) 73 0) 123 73 = 0 := by rw [up_s, pk_us]
          generalize va_up X2 123 (upd (X2 123) 73 0) = Z at *
          have ol : ∀ a, a < 60 → Z a = I a := fun a ha => oc a (by omega) (by omega) (by omega) (by omega) (by omega) (by omega) (by omega) (by omega) (by omega) (by omega) (by omega) (by omega) (by omega) (by omega) (by omega) (by omega) (by omega) (by omega) (by omega)
          have oh : ∀ a, 124 ≤ a → a ≤ 152 → Z a = I a := fun a ha ha2 => oc a (by omega) (by omega) (by omega) (by omega) (by omega) (by omega) (by omega) (by omega) (by omega) (by omega) (by omega) (by omega) (by omega) (by omega) (by omega) (by omega) (by omega) (by omega) (by omega)
          obtain ⟨c1, c2, c3, c4', c5, c6, c7, c8, ⟨c9, c9'⟩, c10, c11, c12⟩ := h.now
          have r60 : ∀ k, k ≠ 2 → k ≠ 18 → Z 60 k = I 60 k := fun k b1 b2 => by rw [xc 60 (by omega), z1 60 (by decide)]; exact g2 k b1 b2
          have rmid : ∀ a, 61 ≤ a → a ≤ 66 ∨ a = 71 → Z a = I a := fun a h1 h2 => oc a (by omega) (by omega) (by omega) (by omega) (by omega) (by omega) (by omega) (by omega) (by omega) (by omega) (by omega) (by omega) (by omega) (by omega) (by omega) (by omega) (by omega) (by omega) (by omega)
          refine ⟨h.te, h.2.1, h.2.2.1, h.r3, h.r4, ?_, ?_, ?_, ?_, ?_, ?_, ?_, ?_, ?_, ?_⟩
          · exact cTxt_fr h.txt (fun a h1 h2 => ol a (by omega)) (fun a h1 h2 => oh a (by omega) (by omega)) (fm _ (by decide) (by decide) (by decide) (by decide) (by decide) (by decide)) (fm _ (by decide) (by decide) (by decide) (by decide) (by decide) (by decide)) (fm _ (by decide) (by decide) (by decide) (by decide) (by decide) (by decide)) (fm _ (by decide) (by decide) (by decide) (by decide) (by decide) (by decide))
          · exact cLws_fr h.lws (fun a h1 h2 => ol a (by omega)) (fun a h1 h2 => oh a (by omega) (by omega))
          · rw [fm 15 (by decide) (by decide) (by decide) (by decide) (by decide) (by decide)]; exact h.kno
          · refine ⟨c1, by rw [r60 1 (by decide) (by decide)]; exact c2, by rw [xc 60 (by omega), z1 60 (by decide)]; exact g3, f70, h4, ?_, ?_, ?_, ⟨?_, ?_⟩, ?_, ?_, ?_⟩
            · rw [r60 3 (by decide) (by decide), ol t (by omega)]; exact c6
            · rw [r60 4 (by decide) (by decide)]; exact c7
            · rw [rmid 61 (by omega) (by omega), ol (t + 4) (by omega)]; exact c8
            · rw [rmid 62 (by omega) (by omega), rmid 63 (by omega) (by omega), oh 151 (by omega) (by omega), oh 152 (by omega) (by omega)]; exact c9
            · rw [rmid 62 (by omega) (by omega)]; exact c9'
            · rw [rmid 64 (by omega) (by omega), rmid 65 (by omega) (by omega), rmid 66 (by omega) (by omega), ol (t + 9) (by omega), ol (t + 10) (by omega), ol (t + 14) (by omega)]; exact c10
            · intro c hc
              have w1 : X1 67 c = (G k).1 c := g4.1 c hc
              have w2 : X1 68 c = (G k).2.1 c := g4.2.1 c hc
              have w3 : X1 69 c = (G k).2.2.1 c := g4.2.2.1 c hc
              have w4 : X1 70 c = (G k).2.2.2.1 c := g4.2.2.2 c hc
              have v1 : X2 153 (0 + c) = (G k).1 c := m6.1 c hc
              have v2 : X2 154 (0 + c) = (G k).2.1 c := m6.2.1 c hc
              have v3 : X2 155 (0 + c) = (G k).2.2.1 c := m6.2.2.1 c hc
              have v4 : X2 156 (0 + c) = (G k).2.2.2.1 c := m6.2.2.2 c hc
              rw [Nat.zero_add] at v1 v2 v3 v4
              rw [xc 67 (by omega), xc 68 (by omega), xc 69 (by omega), xc 70 (by omega), xm 153 (by omega), xm 154 (by omega), xm 155 (by omega), xm 156 (by omega), z1 67 (by omega), z1 68 (by omega), z1 69 (by omega), z1 70 (by omega), w1, w2, w3, w4, v1, v2, v3, v4]
              exact ⟨rfl, hsp k c hc, rfl, rfl, rfl⟩
            · rw [rmid 71 (by omega) (by omega), rmid 64 (by omega) (by omega), rmid 61 (by omega) (by omega), rmid 62 (by omega) (by omega), rmid 63 (by omega) (by omega), ol (t + 3) (by omega), r60 3 (by decide) (by decide)]; exact c12
          · have hi := cImg_fr (I' := Z) (R' := R) h.img (by rw [ol 0 (by omega)]) (fun a h1 h2 => oc a (by omega) (by omega) (by omega) (by omega) (by omega) (by omega) (by omega) (by omega) (by omega) (by omega) (by omega) (by omega) (by omega) (by omega) (by omega) (by omega) (by omega) (by omega) (by omega)) (oc _ (by decide) (by decide) (by decide) (by decide) (by decide) (by decide) (by decide) (by decide) (by decide) (by decide) (by decide) (by decide) (by decide) (by decide) (by decide) (by decide) (by decide) (by decide) (by decide)) (fm _ (by decide) (by decide) (by decide) (by decide) (by decide) (by decide)) (fm _ (by decide) (by decide) (by decide) (by decide) (by decide) (by decide)) rfl
            obtain ⟨i1, i2⟩ := hi
            refine ⟨i1, ?_⟩
            rcases i2 with i2 | ⟨i2, i3, si, s1, s2, s3, s4⟩
            · exact Or.inl i2
            · exact Or.inr ⟨i2, i3, si, s1, s2, by omega, s4⟩
          · intro τ hτ
            obtain ⟨a1, a2⟩ := g5 τ hτ
            obtain ⟨b1, b2⟩ := m7 τ hτ
            rw [xc 103 (by omega), xc 104 (by omega), xm 160 (by omega), xm 161 (by omega), z1 103 (by omega), z1 104 (by omega)]
            refine ⟨fun c hc => ?_, ?_, ?_⟩
            · rw [a1 c hc, show 6 * τ + c = τ * 6 + c by omega, b1 c hc]
              unfold hiR
              by_cases z : τ < st
              · obtain ⟨y1, y2⟩ := (h.sto τ z).1 c hc
                rw [if_pos z, if_pos z, y1, show τ * 6 + c = 6 * τ + c by omega]
                exact ⟨rfl, y2⟩
              · rw [if_neg z, if_neg z]
                exact ⟨rfl, hsp _ c hc⟩
            · rw [a2, b2]
              unfold hiS
              by_cases z : τ < st
              · rw [if_pos z, if_pos z]
                exact (h.sto τ z).2.1
              · rw [if_neg z, if_neg z]
            · rw [b2]
              unfold hiS
              by_cases z : τ < st
              · rw [if_pos z]
                exact (h.sto τ z).2.2
              · rw [if_neg z]
                obtain ⟨q, q1, q2⟩ := hsk (τ - st)
                exact ⟨q, by omega, by omega, q2⟩
          · refine ⟨0, ?_, f73, by omega, fun e he => absurd he (by omega)⟩
            rw [xc 105 (by omega), ← hI1, up_s, pk_us]
            rfl
          · exact cHea_fr h.hea (fun a h1 h2 => oc a (by omega) (by omega) (by omega) (by omega) (by omega) (by omega) (by omega) (by omega) (by omega) (by omega) (by omega) (by omega) (by omega) (by omega) (by omega) (by omega) (by omega) (by omega) (by omega)) (oc _ (by decide) (by decide) (by decide) (by decide) (by decide) (by decide) (by decide) (by decide) (by decide) (by decide) (by decide) (by decide) (by decide) (by decide) (by decide) (by decide) (by decide) (by decide) (by decide)) (fm _ (by decide) (by decide) (by decide) (by decide) (by decide) (by decide)) (fm _ (by decide) (by decide) (by decide) (by decide) (by decide) (by decide))
          · exact cTap_fr h.tap (by rw [ol 0 (by omega)]) (ol 1 (by omega)) (oh 124 (by omega) (by omega)) (fm _ (by decide) (by decide) (by decide) (by decide) (by decide) (by decide))
          · exact cFau_fr h.fau (ol 56 (by omega)) (fm _ (by decide) (by decide) (by decide) (by decide) (by decide) (by decide)) (fm _ (by decide) (by decide) (by decide) (by decide) (by decide) (by decide)) (ol 58 (by omega)) (oh 125 (by omega) (by omega))
        · refine Or.inr ⟨fun a h1 h2 => ?_, ?_, ?_, ?_, ?_, ?_, ?_⟩
          all_goals rw [up_n (by omega), m1 _ (by omega) (by omega) (by omega) (by omega) (by omega) (by omega) (by omega) (by omega), pla_o (by omega) (by omega) (by omega), qr _ (by omega), o1 _ (by omega) (by omega) (by omega) (by omega) (by omega) (by omega) (by omega) (by omega) (by omega)]
    · have c4 : ¬ nI (st + k) ≤ (4000 : Int32) := nI_ge (a := 4000) (by omega) (by omega)
      refine askP.chg h (askP.mk0 (v := -1) (w := -1) ?_ ?_ rfl)
      · rw [eX11_steps]
        simp (disch := omega) only [xX11_steps_0, xX11_steps_1, xX11_steps_4, xX11_steps_5, xX11_steps_8, xX11_steps_11, xX11_steps_12, xX11_steps_15, xX11_steps_18, xX11_steps_19, xX11_steps_20, xX11_steps_23, xX11_steps_26, xX11_steps_27, xX11_steps_28, xX11_steps_29, kd_0, fi_0_5, kd_60, fi_0_9, kd_102, fi_0_10, kd_105, kd_60, ↓reduceIte, gd_t, hK_p, hN_p, hF_p, hI_p, hJ_p, hR_p, stI_p, stJ_p, stR_p, stA_p, va_rf_s, va_rf_n, clr_i, clr_l, clr_r, clr_n, clr_o, w8_0, w8_1i, w8_1r, w8_2ii, w8_2ri, w8_2ir, w8_2rr, w8_3, beq_self_eq_true, Bool.and_self, Bool.and_true, Bool.true_and, decide_true, Option.toList_some, Option.toList_none, List.cons_append, List.nil_append, Option.bind_some, if_true, if_false, Nat.reduceLeDiff, Nat.reduceLT, Nat.reduceBEq, Bool.or_false, Bool.false_or, Bool.or_true, Bool.true_or, hx.1, hx.2, h.sc, nI_add, c4]
      · rw [eX12_steps]
        simp (disch := omega) only [xX12_steps_0, xX12_steps_1, xX12_steps_2, xX12_steps_5, xX12_steps_6, xX12_steps_7, xX12_steps_10, xX12_steps_13, xX12_steps_16, xX12_steps_17, xX12_steps_20, xX12_steps_21, xX12_steps_22, xX12_steps_25, xX12_steps_28, xX12_steps_29, xX12_steps_30, xX12_steps_31, xX12_steps_34, xX12_steps_35, kd_123, fi_123_57, kd_153, ln_153, fi_123_71, kd_160, ln_160, fi_123_72, kd_161, ln_161, kd_123, ↓reduceIte, gd_t, hK_p, hN_p, hF_p, hI_p, hJ_p, hR_p, stI_p, stJ_p, stR_p, stA_p, va_rf_s, va_rf_n, clr_i, clr_l, clr_r, clr_n, clr_o, w8_0, w8_1i, w8_1r, w8_2ii, w8_2ri, w8_2ir, w8_2rr, w8_3, beq_self_eq_true, Bool.and_self, Bool.and_true, Bool.true_and, decide_true, Option.toList_some, Option.toList_none, List.cons_append, List.nil_append, Option.bind_some, if_true, if_false, Nat.reduceLeDiff, Nat.reduceLT, Nat.reduceBEq, Bool.or_false, Bool.false_or, Bool.or_true, Bool.true_or, isI_spec, hb, n1, up_s, pk_un, h.sd, nI_add, c4]
  · have hb : bi (¬ x < 0 ∧ ¬ 1000 < x) = 0 := if_neg hx
    refine askP.chg h (askP.mk0 (v := -1) (w := -1) ?_ ?_ rfl)
    · rw [eX11_steps]
      by_cases y0 : x < 0
      · simp (disch := omega) only [xX11_steps_0, xX11_steps_1, xX11_steps_4, xX11_steps_5, xX11_steps_8, xX11_steps_11, xX11_steps_12, xX11_steps_15, xX11_steps_18, xX11_steps_19, xX11_steps_20, xX11_steps_23, xX11_steps_26, xX11_steps_27, xX11_steps_28, xX11_steps_29, kd_0, fi_0_5, kd_60, fi_0_9, kd_102, fi_0_10, kd_105, kd_60, ↓reduceIte, gd_t, hK_p, hN_p, hF_p, hI_p, hJ_p, hR_p, stI_p, stJ_p, stR_p, stA_p, va_rf_s, va_rf_n, clr_i, clr_l, clr_r, clr_n, clr_o, w8_0, w8_1i, w8_1r, w8_2ii, w8_2ri, w8_2ir, w8_2rr, w8_3, beq_self_eq_true, Bool.and_self, Bool.and_true, Bool.true_and, decide_true, Option.toList_some, Option.toList_none, List.cons_append, List.nil_append, Option.bind_some, if_true, if_false, Nat.reduceLeDiff, Nat.reduceLT, Nat.reduceBEq, Bool.or_false, Bool.false_or, Bool.or_true, Bool.true_or, y0]
      · have y1 : 1000 < x := Decidable.not_not.mp (fun q => hx ⟨y0, q⟩)
        simp (disch := omega) only [xX11_steps_0, xX11_steps_1, xX11_steps_4, xX11_steps_5, xX11_steps_8, xX11_steps_11, xX11_steps_12, xX11_steps_15, xX11_steps_18, xX11_steps_19, xX11_steps_20, xX11_steps_23, xX11_steps_26, xX11_steps_27, xX11_steps_28, xX11_steps_29, kd_0, fi_0_5, kd_60, fi_0_9, kd_102, fi_0_10, kd_105, kd_60, ↓reduceIte, gd_t, hK_p, hN_p, hF_p, hI_p, hJ_p, hR_p, stI_p, stJ_p, stR_p, stA_p, va_rf_s, va_rf_n, clr_i, clr_l, clr_r, clr_n, clr_o, w8_0, w8_1i, w8_1r, w8_2ii, w8_2ri, w8_2ir, w8_2rr, w8_3, beq_self_eq_true, Bool.and_self, Bool.and_true, Bool.true_and, decide_true, Option.toList_some, Option.toList_none, List.cons_append, List.nil_append, Option.bind_some, if_true, if_false, Nat.reduceLeDiff, Nat.reduceLT, Nat.reduceBEq, Bool.or_false, Bool.false_or, Bool.or_true, Bool.true_or, y0, y1]
    · rw [eX12_steps]
      simp (disch := omega) only [xX12_steps_0, xX12_steps_1, xX12_steps_2, xX12_steps_5, xX12_steps_6, xX12_steps_7, xX12_steps_10, xX12_steps_13, xX12_steps_16, xX12_steps_17, xX12_steps_20, xX12_steps_21, xX12_steps_22, xX12_steps_25, xX12_steps_28, xX12_steps_29, xX12_steps_30, xX12_steps_31, xX12_steps_34, xX12_steps_35, kd_123, fi_123_57, kd_153, ln_153, fi_123_71, kd_160, ln_160, fi_123_72, kd_161, ln_161, kd_123, ↓reduceIte, gd_t, hK_p, hN_p, hF_p, hI_p, hJ_p, hR_p, stI_p, stJ_p, stR_p, stA_p, va_rf_s, va_rf_n, clr_i, clr_l, clr_r, clr_n, clr_o, w8_0, w8_1i, w8_1r, w8_2ii, w8_2ri, w8_2ir, w8_2rr, w8_3, beq_self_eq_true, Bool.and_self, Bool.and_true, Bool.true_and, decide_true, Option.toList_some, Option.toList_none, List.cons_append, List.nil_append, Option.bind_some, if_true, if_false, Nat.reduceLeDiff, Nat.reduceLT, Nat.reduceBEq, Bool.or_false, Bool.false_or, Bool.or_true, Bool.true_or, isI_spec, hb]
end STM

-- RUNS, 5: mend
/-- counts lie below the steps' number -/
theorem movT_ct {i c : Nat} {x p : Int32} {s : S5} : (movT x p i s).2.2.1 c = s.2.2.1 c ∨ (c = i ∧ (movT x p i s).2.2.1 c = s.2.2.1 c + 1) := by
  unfold movT
  by_cases z : x = 0
  · rw [if_pos z]
    exact Or.inl rfl
  · rw [if_neg z]
    by_cases w : p < 1000
    · rw [if_pos w]
      exact Or.inl rfl
    · rw [if_neg w]
      dsimp only
      by_cases hc : c = i
      · subst hc
        rw [pk_us]
        exact Or.inr ⟨rfl, rfl⟩
      · rw [pk_un hc]
        exact Or.inl rfl
theorem stepG_ct {n c : Nat} {lose : (Nat → Int64) → Int32} {go : (Nat → Int64) → Int32 → Int32} {dr sp we pl : Nat → Int32} {bo : Nat → Nat → Int32} {act : Nat → Bool} {t : Int32} {s : S5} : (stepG lose go dr sp we pl bo act t n s).2.2.1 c = s.2.2.1 c ∨ (stepG lose go dr sp we pl bo act t n s).2.2.1 c = s.2.2.1 c + 1 := by
  unfold stepG runS
  have h := itf_inv (f := fun i (s' : S5) => if s'.2.2.2.1 i = 1 then movS lose go dr sp we pl (pulG bo s.1 (actF act s.2.2.2.1) n) t i s' else s') (Q := fun i (s' : S5) => s'.2.2.1 c = s.2.2.1 c ∨ (c < i ∧ s'.2.2.1 c = s.2.2.1 c + 1)) (n := n) (fun i s' hi q => by
    split
    · rw [movS_eq]
      rcases movT_ct (i := i) (c := c) (x := movX lose dr sp we pl (pulG bo s.1 (actF act s.2.2.2.1) n) t i s') (p := s'.1 i + btwF 0 (movV go sp we pl (pulG bo s.1 (actF act s.2.2.2.1) n) t i s' (movX lose dr sp we pl (pulG bo s.1 (actF act s.2.2.2.1) n) t i s')) 499) (s := s') with e | ⟨e1, e⟩
      · rw [e]
        rcases q with q | ⟨q1, q⟩
        · exact Or.inl q
        · exact Or.inr ⟨by omega, q⟩
      · rw [e]
        rcases q with q | ⟨q1, q⟩
        · rw [q]
          exact Or.inr ⟨by omega, rfl⟩
        · omega
    · rcases q with q | ⟨q1, q⟩
      · exact Or.inl q
      · exact Or.inr ⟨by omega, q⟩) n 0 (s.1, s.2.1, s.2.2.1, actF act s.2.2.2.1, 0) (by omega) (Or.inl rfl)
  rcases h with h | ⟨-, h⟩
  · exact Or.inl h
  · exact Or.inr h
theorem rnG_ct {P : PR} {n c : Nat} : ∀ k, ∃ q, q ≤ k ∧ (rnG P n k).2.2.1 c = nI q
  | 0 => ⟨0, Nat.le_refl 0, rfl⟩
  | k + 1 => by
    obtain ⟨q, h1, h2⟩ := rnG_ct (P := P) (n := n) (c := c) k
    have h : (rnG P n (k + 1)).2.2.1 c = (rnG P n k).2.2.1 c ∨ (rnG P n (k + 1)).2.2.1 c = (rnG P n k).2.2.1 c + 1 := stepG_ct
    rcases h with h | h
    · exact ⟨q, by omega, by rw [h, h2]⟩
    · exact ⟨q + 1, by omega, by rw [h, h2, nI_1]⟩
def chD (i : Nat) : Int32 := if nI i &&& 1 = 1 then -(nI i + 1) / 2 else nI i / 2
theorem chD_m : ∀ i, i < 19 → (nI i &&& 1 = 1 ↔ ¬ nI i - nI i / 2 * 2 = 0) := by decide
theorem chD_no : ∀ i, i < 19 → ¬ chD i = -2147483648 := by decide
section MEN
variable {I Q : Mem} {J : MemL} {R R' : MemR} {t t' n nb nm fL lL fG lG st : Nat}
def menP (I : Mem) (t lL lG c : Nat) (d : Int32) : PR := P1 I t lL lG (upd (I (t + 10)) c (I (t + 10) c + d)) (acT (I (t + 14))) (I (t + 11))
/-- how far from the told count -/
def menV (I : Mem) (t lL lG n c k : Nat) (y d : Int32) : Int32 := disF ((rnG (menP I t lL lG c d) n k).2.2.1 c) y
def menS (I : Mem) (t lL lG n c k : Nat) (y : Int32) (i : Nat) (s : Int32 × Int32) : Int32 × Int32 := if I (t + 10) c + chD i < 1 then s else if I (t + 10) c + chD i ≤ 99 then (if menV I t lL lG n c k y (chD i) < s.2 then (chD i, menV I t lL lG n c k y (chD i)) else s) else s
theorem cas_c {d c k : Nat} {Q : Mem} {R' : MemR} {x : Int32} (h : cAll I R t t' n nb nm fL lL fG lG st) (kq : tk I Q) (rq : rk R R') (hc : c < n) (hk : k ≤ 2000) : ∃ I1 J1 R1, C (d + 6) MX11_countAtSpeed [.ref 0, .int (nI c), .int (I (t + 10) c + x), .int (nI k)] (hp Q J R') = some (some (.int ((rnG (menP I t lL lG c x) n k).2.2.1 c)), hp I1 J1 R1) ∧ tk I I1 ∧ rk R R1 := by
  have hn6 := h.n6
  have hc6 : c < 6 := by omega
  have hm : isMo 88 := Or.inr (Or.inr rfl)
  obtain ⟨e1, k1, r1, s1⟩ := tri_c (d := d) (J := J) h kq rq
  generalize hR : va_up R' 88 (va_up (R' 88) 0 (some t)) = R1 at *
  generalize hQ : begM Q 88 t 62 63 n = Q1 at *
  have s2 : cSt (va_up Q1 93 (upd (Q1 93) c (I (t + 10) c + x))) R1 88 t lL lG n (menP I t lL lG c x) 0 := by
    refine cSt_567 hm h.te s1 (fun a h5 _ _ => up_n h5) ?_ ?_ ?_ (phO_txt h)
    · rw [up_s]
      intro i hi
      have := s1.1.2.2.2.2.2.2.1 i hi
      by_cases z : i = c
      · rw [z, pk_us, pk_us]
      · rw [pk_un z, pk_un z]
        exact this
    · rw [up_n (by decide)]; exact s1.1.2.2.2.2.2.2.2.2.2.2.1
    · rw [up_n (by decide)]; exact s1.2.2.1.1
  obtain ⟨I2, J2, e2, s3, o2⟩ := cSt_go (d := d) (J := J) (k := k) hm h.te hn6 (by omega) s2
  refine ⟨I2, J2, R1, ?_, k1.tr (tk.mo (fun a ha => (o2 a ha).trans (up_n (by omega)))), r1⟩
  have g1 : I2 97 c = (rnG (menP I t lL lG c x) n k).2.2.1 c := s3.2.2.1.2.2.1 c hc
  rw [eX11_countAtSpeed]
  simp (disch := omega) only [xX11_countAtSpeed_0, xX11_countAtSpeed_1, xX11_countAtSpeed_4, xX11_countAtSpeed_5, xX11_countAtSpeed_8, xX11_countAtSpeed_11, xX11_countAtSpeed_12, xX11_countAtSpeed_13, xX11_countAtSpeed_14, xX11_countAtSpeed_15, xX11_countAtSpeed_18, xX11_countAtSpeed_19, xX11_countAtSpeed_22, xX11_countAtSpeed_23, xX11_countAtSpeed_26, xX11_countAtSpeed_29, xX11_countAtSpeed_30, xX11_countAtSpeed_31, kd_0, fi_0_8, kd_88, fi_88_9, kd_93, ln_93, fi_88_13, kd_97, ln_97, kd_0, kd_88, ↓reduceIte, gd_t, hK_p, hN_p, hF_p, hI_p, hJ_p, hR_p, stI_p, stJ_p, stR_p, stA_p, va_rf_s, va_rf_n, clr_i, clr_l, clr_r, clr_n, clr_o, w8_0, w8_1i, w8_1r, w8_2ii, w8_2ri, w8_2ir, w8_2rr, w8_3, beq_self_eq_true, Bool.and_self, Bool.and_true, Bool.true_and, decide_true, Option.toList_some, Option.toList_none, List.cons_append, List.nil_append, Option.bind_some, if_true, if_false, Nat.reduceLeDiff, Nat.reduceLT, Nat.reduceBEq, Bool.or_false, Bool.false_or, Bool.or_true, Bool.true_or, nI_leI, nI_ltI, nI_eq, nI_clamp, inb_n, up_s, up_n, bx_uu, nI_1, ix6, nI_0n, pk_us, pk_un, ge_0n, e1, e2, g1]
theorem men_c {d c k : Nat} {y : Int32} (h : cAll I R t t' n nb nm fL lL fG lG st) (hc : c < n) (hk : k ≤ 2000) : ∀ (q i : Nat) (bs nr : Int32) (Q : Mem) (J : MemL) (R' : MemR) (l7 l8 l9 : Option Value), i + q = 19 → tk I Q → rk R R' → ∃ I1 J1 R1, E (C (d + 6)) MX11_mend 40 [some (.ref 0), some (.int (nI c)), some (.int (nI k)), some (.int y), some (.int bs), some (.int nr), some (.int (nI i)), l7, l8, l9] [] (hp Q J R') = some (some (.int (itf (menS I t lL lG n c k y) q i (bs, nr)).1), hp I1 J1 R1) ∧ tk I I1 ∧ rk R R1 := by
  have hn6 := h.n6
  have hc6 : c < 6 := by omega
  have ht2 := te_hi h.te
  have m20 : (!(decide ((2 : Int32) = 0))) = true := by decide
  intro q
  induction q with
  | zero =>
    intro i bs nr Q J R' l7 l8 l9 hi kq rq
    obtain rfl : i = 19 := by omega
    refine ⟨Q, J, R', ?_, kq, rq⟩
    have c0 : (18 : Int32) < nI 19 := by decide
    rw [xX11_mend_40]
    simp (disch := omega) only [xX11_mend_42, xX11_mend_44, xX11_mend_47, xX11_mend_49, xX11_mend_50, xX11_mend_51, xX11_mend_52, xX11_mend_55, xX11_mend_57, xX11_mend_58, xX11_mend_59, xX11_mend_60, xX11_mend_61, xX11_mend_62, xX11_mend_65, xX11_mend_67, xX11_mend_68, xX11_mend_69, xX11_mend_71, xX11_mend_72, xX11_mend_75, xX11_mend_78, xX11_mend_79, xX11_mend_80, xX11_mend_82, xX11_mend_83, xX11_mend_85, xX11_mend_87, xX11_mend_88, xX11_mend_91, xX11_mend_93, xX11_mend_95, xX11_mend_98, xX11_mend_99, xX11_mend_100, xX11_mend_102, xX11_mend_103, xX11_mend_106, xX11_mend_107, xX11_mend_110, xX11_mend_112, xX11_mend_114, xX11_mend_116, xX11_mend_119, xX11_mend_121, xX11_mend_123, xX11_mend_125, xX11_mend_127, xX11_mend_130, xX11_mend_133, xX11_mend_135, kd_0, ↓reduceIte, gd_t, hK_p, hN_p, hF_p, hI_p, hJ_p, hR_p, stI_p, stJ_p, stR_p, stA_p, va_rf_s, va_rf_n, clr_i, clr_l, clr_r, clr_n, clr_o, w8_0, w8_1i, w8_1r, w8_2ii, w8_2ri, w8_2ir, w8_2rr, w8_3, beq_self_eq_true, Bool.and_self, Bool.and_true, Bool.true_and, decide_true, Option.toList_some, Option.toList_none, List.cons_append, List.nil_append, Option.bind_some, if_true, if_false, Nat.reduceLeDiff, Nat.reduceLT, Nat.reduceBEq, Bool.or_false, Bool.false_or, Bool.or_true, Bool.true_or, nI_leI, nI_ltI, nI_eq, nI_clamp, inb_n, up_s, up_n, bx_uu, nI_1, ix6, nI_0n, pk_us, pk_un, ge_0n, c0, itf]
  | succ q ih =>
    intro i bs nr Q J R' l7 l8 l9 hi kq rq
    have c0 : ¬ (18 : Int32) < nI i := fun w => absurd ((nI_ltI (a := 18) (by omega) (by omega)).mp w) (by omega)
    have hR3 : R' 0 3 = some t := by rw [rq 0 (by decide)]; exact h.r3
    have hsp : Q (t + 10) = I (t + 10) := kq.lo (by omega)
    have hd : (if nI i &&& 1 = 1 then -(nI i + 1) / 2 else nI i / 2) = chD i := rfl
    unfold itf
    generalize hg : chD i = g at *
    have key : ∀ (v : Int32), v = g → ∃ I1 J1 R1, E (C (d + 6)) MX11_mend 69 [some (.ref 0), some (.int (nI c)), some (.int (nI k)), some (.int y), some (.int bs), some (.int nr), some (.int (nI i)), l7, l8, l9] [.int v] (hp Q J R') = some (some (.int (itf (menS I t lL lG n c k y) q (i + 1) (menS I t lL lG n c k y i (bs, nr))).1), hp I1 J1 R1) ∧ tk I I1 ∧ rk R R1 := by
      intro v hv
      subst hv
      have hS : menS I t lL lG n c k y i (bs, nr) = if I (t + 10) c + v < 1 then (bs, nr) else if I (t + 10) c + v ≤ 99 then (if menV I t lL lG n c k y v < nr then (v, menV I t lL lG n c k y v) else (bs, nr)) else (bs, nr) := by
        unfold menS
        rw [hg]
      have eV : disF ((rnG (menP I t lL lG c v) n k).2.2.1 c) y = menV I t lL lG n c k y v := rfl
      rw [hS]
      by_cases z1 : I (t + 10) c + v < 1
      · obtain ⟨I1, J1, R1, e, k1, r1⟩ := ih (i + 1) bs nr Q J R' (some (.int v)) (some (.int (I (t + 10) c + v))) l9 (by omega) kq rq
        refine ⟨I1, J1, R1, ?_, k1, r1⟩
        rw [if_pos z1]
        simp (disch := omega) only [xX11_mend_69, xX11_mend_71, xX11_mend_72, xX11_mend_75, xX11_mend_78, xX11_mend_79, xX11_mend_80, xX11_mend_82, xX11_mend_83, xX11_mend_85, xX11_mend_87, xX11_mend_88, xX11_mend_91, xX11_mend_93, xX11_mend_95, xX11_mend_98, xX11_mend_99, xX11_mend_100, xX11_mend_102, xX11_mend_103, xX11_mend_106, xX11_mend_107, xX11_mend_110, xX11_mend_112, xX11_mend_114, xX11_mend_116, xX11_mend_119, xX11_mend_121, xX11_mend_123, xX11_mend_125, xX11_mend_127, xX11_mend_130, xX11_mend_133, xX11_mend_135, kd_0, te_k0 h.te, te_f0_7 h.te, te_k10 h.te, te_n10 h.te, ↓reduceIte, gd_t, hK_p, hN_p, hF_p, hI_p, hJ_p, hR_p, stI_p, stJ_p, stR_p, stA_p, va_rf_s, va_rf_n, clr_i, clr_l, clr_r, clr_n, clr_o, w8_0, w8_1i, w8_1r, w8_2ii, w8_2ri, w8_2ir, w8_2rr, w8_3, beq_self_eq_true, Bool.and_self, Bool.and_true, Bool.true_and, decide_true, Option.toList_some, Option.toList_none, List.cons_append, List.nil_append, Option.bind_some, if_true, if_false, Nat.reduceLeDiff, Nat.reduceLT, Nat.reduceBEq, Bool.or_false, Bool.false_or, Bool.or_true, Bool.true_or, nI_leI, nI_ltI, nI_eq, nI_clamp, inb_n, up_s, up_n, bx_uu, nI_1, ix6, nI_0n, pk_us, pk_un, ge_0n, hR3, hsp, z1, e]
      · rw [if_neg z1]
        by_cases z2 : I (t + 10) c + v ≤ 99
        · rw [if_pos z2]
          have z3 : ¬ 99 < I (t + 10) c + v := Int32.not_lt.mpr z2
          obtain ⟨I1, J1, R1, e1, k1, r1⟩ := cas_c (d := d) (J := J) (x := v) h kq rq hc hk
          by_cases z4 : menV I t lL lG n c k y v < nr
          · rw [if_pos z4]
            have z5 : ¬ nr ≤ menV I t lL lG n c k y v := Int32.not_le.mpr z4
            obtain ⟨I2, J2, R2, e, k2, r2⟩ := ih (i + 1) v (menV I t lL lG n c k y v) I1 J1 R1 (some (.int v)) (some (.int (I (t + 10) c + v))) (some (.int (menV I t lL lG n c k y v))) (by omega) k1 r1
            refine ⟨I2, J2, R2, ?_, k2, r2⟩
            simp (disch := omega) only [xX11_mend_69, xX11_mend_71, xX11_mend_72, xX11_mend_75, xX11_mend_78, xX11_mend_79, xX11_mend_80, xX11_mend_82, xX11_mend_83, xX11_mend_85, xX11_mend_87, xX11_mend_88, xX11_mend_91, xX11_mend_93, xX11_mend_95, xX11_mend_98, xX11_mend_99, xX11_mend_100, xX11_mend_102, xX11_mend_103, xX11_mend_106, xX11_mend_107, xX11_mend_110, xX11_mend_112, xX11_mend_114, xX11_mend_116, xX11_mend_119, xX11_mend_121, xX11_mend_123, xX11_mend_125, xX11_mend_127, xX11_mend_130, xX11_mend_133, xX11_mend_135, kd_0, te_k0 h.te, te_f0_7 h.te, te_k10 h.te, te_n10 h.te, kd_0, ↓reduceIte, gd_t, hK_p, hN_p, hF_p, hI_p, hJ_p, hR_p, stI_p, stJ_p, stR_p, stA_p, va_rf_s, va_rf_n, clr_i, clr_l, clr_r, clr_n, clr_o, w8_0, w8_1i, w8_1r, w8_2ii, w8_2ri, w8_2ir, w8_2rr, w8_3, beq_self_eq_true, Bool.and_self, Bool.and_true, Bool.true_and, decide_true, Option.toList_some, Option.toList_none, List.cons_append, List.nil_append, Option.bind_some, if_true, if_false, Nat.reduceLeDiff, Nat.reduceLT, Nat.reduceBEq, Bool.or_false, Bool.false_or, Bool.or_true, Bool.true_or, nI_leI, nI_ltI, nI_eq, nI_clamp, inb_n, up_s, up_n, bx_uu, nI_1, ix6, nI_0n, pk_us, pk_un, ge_0n, hR3, hsp, z1, z3, e1, dis_spec, eV, z5, w8_4, e]
          · rw [if_neg z4]
            have z5 : nr ≤ menV I t lL lG n c k y v := Int32.not_lt.mp z4
            obtain ⟨I2, J2, R2, e, k2, r2⟩ := ih (i + 1) bs nr I1 J1 R1 (some (.int v)) (some (.int (I (t + 10) c + v))) (some (.int (menV I t lL lG n c k y v))) (by omega) k1 r1
            refine ⟨I2, J2, R2, ?_, k2, r2⟩
            simp (disch := omega) only [xX11_mend_69, xX11_mend_71, xX11_mend_72, xX11_mend_75, xX11_mend_78, xX11_mend_79, xX11_mend_80, xX11_mend_82, xX11_mend_83, xX11_mend_85, xX11_mend_87, xX11_mend_88, xX11_mend_91, xX11_mend_93, xX11_mend_95, xX11_mend_98, xX11_mend_99, xX11_mend_100, xX11_mend_102, xX11_mend_103, xX11_mend_106, xX11_mend_107, xX11_mend_110, xX11_mend_112, xX11_mend_114, xX11_mend_116, xX11_mend_119, xX11_mend_121, xX11_mend_123, xX11_mend_125, xX11_mend_127, xX11_mend_130, xX11_mend_133, xX11_mend_135, kd_0, te_k0 h.te, te_f0_7 h.te, te_k10 h.te, te_n10 h.te, kd_0, ↓reduceIte, gd_t, hK_p, hN_p, hF_p, hI_p, hJ_p, hR_p, stI_p, stJ_p, stR_p, stA_p, va_rf_s, va_rf_n, clr_i, clr_l, clr_r, clr_n, clr_o, w8_0, w8_1i, w8_1r, w8_2ii, w8_2ri, w8_2ir, w8_2rr, w8_3, beq_self_eq_true, Bool.and_self, Bool.and_true, Bool.true_and, decide_true, Option.toList_some, Option.toList_none, List.cons_append, List.nil_append, Option.bind_some, if_true, if_false, Nat.reduceLeDiff, Nat.reduceLT, Nat.reduceBEq, Bool.or_false, Bool.false_or, Bool.or_true, Bool.true_or, nI_leI, nI_ltI, nI_eq, nI_clamp, inb_n, up_s, up_n, bx_uu, nI_1, ix6, nI_0n, pk_us, pk_un, ge_0n, hR3, hsp, z1, z3, e1, dis_spec, eV, z5, w8_4, e]
        · rw [if_neg z2]
          have z3 : 99 < I (t + 10) c + v := Int32.not_le.mp z2
          obtain ⟨I1, J1, R1, e, k1, r1⟩ := ih (i + 1) bs nr Q J R' (some (.int v)) (some (.int (I (t + 10) c + v))) l9 (by omega) kq rq
          refine ⟨I1, J1, R1, ?_, k1, r1⟩
          simp (disch := omega) only [xX11_mend_69, xX11_mend_71, xX11_mend_72, xX11_mend_75, xX11_mend_78, xX11_mend_79, xX11_mend_80, xX11_mend_82, xX11_mend_83, xX11_mend_85, xX11_mend_87, xX11_mend_88, xX11_mend_91, xX11_mend_93, xX11_mend_95, xX11_mend_98, xX11_mend_99, xX11_mend_100, xX11_mend_102, xX11_mend_103, xX11_mend_106, xX11_mend_107, xX11_mend_110, xX11_mend_112, xX11_mend_114, xX11_mend_116, xX11_mend_119, xX11_mend_121, xX11_mend_123, xX11_mend_125, xX11_mend_127, xX11_mend_130, xX11_mend_133, xX11_mend_135, kd_0, te_k0 h.te, te_f0_7 h.te, te_k10 h.te, te_n10 h.te, ↓reduceIte, gd_t, hK_p, hN_p, hF_p, hI_p, hJ_p, hR_p, stI_p, stJ_p, stR_p, stA_p, va_rf_s, va_rf_n, clr_i, clr_l, clr_r, clr_n, clr_o, w8_0, w8_1i, w8_1r, w8_2ii, w8_2ri, w8_2ir, w8_2rr, w8_3, beq_self_eq_true, Bool.and_self, Bool.and_true, Bool.true_and, decide_true, Option.toList_some, Option.toList_none, List.cons_append, List.nil_append, Option.bind_some, if_true, if_false, Nat.reduceLeDiff, Nat.reduceLT, Nat.reduceBEq, Bool.or_false, Bool.false_or, Bool.or_true, Bool.true_or, nI_leI, nI_ltI, nI_eq, nI_clamp, inb_n, up_s, up_n, bx_uu, nI_1, ix6, nI_0n, pk_us, pk_un, ge_0n, hR3, hsp, z1, z3, e]
    by_cases z : nI i &&& 1 = 1
    · obtain ⟨I1, J1, R1, e, k1, r1⟩ := key (-(nI i + 1) / 2) (by rw [← hd, if_pos z])
      refine ⟨I1, J1, R1, ?_, k1, r1⟩
      rw [← e, xX11_mend_40]
      rw [nI_1]
      simp (disch := omega) only [xX11_mend_42, xX11_mend_44, xX11_mend_47, xX11_mend_49, xX11_mend_50, xX11_mend_51, xX11_mend_52, xX11_mend_55, xX11_mend_57, xX11_mend_58, xX11_mend_59, xX11_mend_60, xX11_mend_61, xX11_mend_62, xX11_mend_65, xX11_mend_67, xX11_mend_68, kd_0, ↓reduceIte, gd_t, hK_p, hN_p, hF_p, hI_p, hJ_p, hR_p, stI_p, stJ_p, stR_p, stA_p, va_rf_s, va_rf_n, clr_i, clr_l, clr_r, clr_n, clr_o, w8_0, w8_1i, w8_1r, w8_2ii, w8_2ri, w8_2ir, w8_2rr, w8_3, beq_self_eq_true, Bool.and_self, Bool.and_true, Bool.true_and, decide_true, Option.toList_some, Option.toList_none, List.cons_append, List.nil_append, Option.bind_some, if_true, if_false, Nat.reduceLeDiff, Nat.reduceLT, Nat.reduceBEq, Bool.or_false, Bool.false_or, Bool.or_true, Bool.true_or, nI_1, c0, z, m20, not_true_eq_false]
    · obtain ⟨I1, J1, R1, e, k1, r1⟩ := key (nI i / 2) (by rw [← hd, if_neg z])
      refine ⟨I1, J1, R1, ?_, k1, r1⟩
      rw [← e, xX11_mend_40]
      simp (disch := omega) only [xX11_mend_42, xX11_mend_44, xX11_mend_47, xX11_mend_49, xX11_mend_50, xX11_mend_51, xX11_mend_52, xX11_mend_55, xX11_mend_57, xX11_mend_58, xX11_mend_59, xX11_mend_60, xX11_mend_61, xX11_mend_62, xX11_mend_65, xX11_mend_67, xX11_mend_68, kd_0, ↓reduceIte, gd_t, hK_p, hN_p, hF_p, hI_p, hJ_p, hR_p, stI_p, stJ_p, stR_p, stA_p, va_rf_s, va_rf_n, clr_i, clr_l, clr_r, clr_n, clr_o, w8_0, w8_1i, w8_1r, w8_2ii, w8_2ri, w8_2ir, w8_2rr, w8_3, beq_self_eq_true, Bool.and_self, Bool.and_true, Bool.true_and, decide_true, Option.toList_some, Option.toList_none, List.cons_append, List.nil_append, Option.bind_some, if_true, if_false, Nat.reduceLeDiff, Nat.reduceLT, Nat.reduceBEq, Bool.or_false, Bool.false_or, Bool.or_true, Bool.true_or, c0, z, m20, not_false_eq_true]
def menT (I : Mem) (t lL lG n c k : Nat) (y : Int32) (i : Nat) (s : Int32 × Int32) : Int32 × Int32 := if I (t + 10) c + chD i < 1 then s else if I (t + 10) c + chD i ≤ 99 then (if s.1 = -2147483648 then (chD i, menV I t lL lG n c k y (chD i)) else if menV I t lL lG n c k y (chD i) < s.2 then (chD i, menV I t lL lG n c k y (chD i)) else s) else s
theorem men_r {d c k : Nat} {x : Int32} {R1 : MemR} (h : cAll I R t t' n nb nm fL lL fG lG st) (kq : kp I Q) (hc : c < n) (hk : k < 2 ^ 31) : ∃ I1 J1, plaM Q 157 c = I (t + 10) c ∧ C (d + 6) MX12_beginsRun [.ref 123] (hp (va_up (plaM Q) 157 (upd (plaM Q 157) c (I (t + 10) c + x))) J R1) = some (none, hp (bgnM (hunM (va_up (plaM Q) 157 (upd (plaM Q 157) c (I (t + 10) c + x))) n) 6 n) J R1) ∧ C (d + 6) MX12_runs [.ref 123, .int (nI k)] (hp (bgnM (hunM (va_up (plaM Q) 157 (upd (plaM Q 157) c (I (t + 10) c + x))) n) 6 n) J R1) = some (none, hp I1 J1 R1) ∧ I1 155 (6 + c) = (rnG (menP I t lL lG c x) n k).2.2.1 c ∧ kp I I1 := by
  have hn6 := h.n6
  have hc6 : c < 6 := by omega
  obtain ⟨q61, q157, q158⟩ := pla_q h kq
  have kx : kp I (va_up (plaM Q) 157 (upd (plaM Q 157) c (I (t + 10) c + x))) := (kq.tr kp_pla).tr ⟨fun a ha => up_n (by unfold kpA at ha; omega), fun k hk => by rw [up_n (by decide)], fun a k h1 _ _ => by rw [up_n (by omega)]⟩
  obtain ⟨s1, k1, e13⟩ := lay_q (wall := I t 12) (ll := 0) (we := I (t + 9)) (stf := I (t + 4)) (sp := upd (I (t + 10)) c (I (t + 10) c + x)) (ac := acT (I (t + 14))) h kx (q_lo (by rw [up_n (by decide), pla_61.2.1])) (q_we h (by rw [up_n (by decide), pla_61.2.2.1])) (q_w9 h) (fun i hi => by
    rw [up_s]
    by_cases z : i = c
    · rw [z, pk_us, pk_us]
    · rw [pk_un z, pk_un z]
      exact q157 i hi) (fun i hi j hj => by
    rw [up_n (by decide), up_n (by decide), pla_61.2.2.2.2, isB63 i (by omega), Bool.and_true, q158 i hi]
    rfl) (by rw [up_n (by decide)]; exact q61.symm) (q_st h (by rw [up_n (by decide), pla_61.2.2.2.1]))
  obtain ⟨I', J', e, s, o⟩ := mSt_runs (d := d) (J := J) (R := R1) hk s1
  have e2 := brn_spec (d := d + 4) (n := n) (J := J) (R := R1) e13 h.n6
  exact ⟨I', J', q157 c hc, e2, e, s.2.1.2.2.1 c hc, k1.tr o.kp⟩
theorem menV_eq {c k : Nat} {w : Nat} {x : Int32} (hw : w ≤ 999) (hk : k ≤ 2000) : sizF ((rnG (menP I t lL lG c x) n k).2.2.1 c - nI w) = menV I t lL lG n c k (nI w) x := by
  obtain ⟨q, h1, h2⟩ := rnG_ct (P := menP I t lL lG c x) (n := n) (c := c) k
  unfold menV
  rw [h2, dis_siz (by omega) (by omega)]
theorem men_m {d c k w : Nat} (h : cAll I R t t' n nb nm fL lL fG lG st) (hc : c < n) (hk : k ≤ 2000) (hw : w ≤ 999) {R1 : MemR} : ∀ (q i : Nat) (bs nr : Int32) (Q : Mem) (J : MemL) (l7 l8 : Option Value), i + q = 19 → kp I Q → ∃ I1 J1, E (C (d + 6)) MX12_mend 46 [some (.ref 123), some (.int (nI c)), some (.int (nI k)), some (.int (nI w)), some (.int bs), some (.int nr), some (.int (nI i)), l7, l8] [] (hp Q J R1) = some (some (.int (itf (menT I t lL lG n c k (nI w)) q i (bs, nr)).1), hp I1 J1 R1) ∧ kp I I1 := by
  have hn6 := h.n6
  have hc6 : c < 6 := by omega
  have ht2 := te_hi h.te
  have n1 : ¬ (1 : Int32) = 0 := by decide
  have a6 : (6 : Int32) + nI c = nI (6 + c) := nI_add 6 c
  have m20 : (!(decide ((2 : Int32) = 0))) = true := by decide
  intro q
  induction q with
  | zero =>
    intro i bs nr Q J l7 l8 hi kq
    obtain rfl : i = 19 := by omega
    refine ⟨Q, J, ?_, kq⟩
    have c0 : (19 : Int32) ≤ nI 19 := by decide
    rw [xX12_mend_46]
    simp (disch := omega) only [xX12_mend_48, xX12_mend_50, xX12_mend_53, xX12_mend_55, xX12_mend_56, xX12_mend_57, xX12_mend_60, xX12_mend_62, xX12_mend_63, xX12_mend_64, xX12_mend_67, xX12_mend_69, xX12_mend_70, xX12_mend_71, xX12_mend_72, xX12_mend_73, xX12_mend_74, xX12_mend_76, xX12_mend_77, xX12_mend_80, xX12_mend_81, xX12_mend_82, xX12_mend_84, xX12_mend_85, xX12_mend_86, xX12_mend_88, xX12_mend_91, xX12_mend_94, xX12_mend_97, xX12_mend_98, xX12_mend_101, xX12_mend_102, xX12_mend_105, xX12_mend_106, xX12_mend_107, xX12_mend_108, xX12_mend_110, xX12_mend_111, xX12_mend_112, xX12_mend_113, xX12_mend_116, xX12_mend_117, xX12_mend_118, xX12_mend_121, xX12_mend_122, xX12_mend_125, xX12_mend_127, xX12_mend_128, xX12_mend_129, xX12_mend_130, xX12_mend_131, xX12_mend_132, xX12_mend_135, xX12_mend_137, xX12_mend_139, xX12_mend_142, xX12_mend_145, xX12_mend_147, xX12_mend_149, xX12_mend_152, xX12_mend_155, xX12_mend_157, xX12_mend_159, xX12_mend_161, xX12_mend_163, xX12_mend_166, xX12_mend_169, xX12_mend_171, kd_123, fi_123_30, kd_133, ln_133, fi_123_59, kd_155, ln_155, fi_123_66, kd_157, ln_157, ↓reduceIte, gd_t, hK_p, hN_p, hF_p, hI_p, hJ_p, hR_p, stI_p, stJ_p, stR_p, stA_p, va_rf_s, va_rf_n, clr_i, clr_l, clr_r, clr_n, clr_o, w8_0, w8_1i, w8_1r, w8_2ii, w8_2ri, w8_2ir, w8_2rr, w8_3, beq_self_eq_true, Bool.and_self, Bool.and_true, Bool.true_and, decide_true, Option.toList_some, Option.toList_none, List.cons_append, List.nil_append, Option.bind_some, if_true, if_false, Nat.reduceLeDiff, Nat.reduceLT, Nat.reduceBEq, Bool.or_false, Bool.false_or, Bool.or_true, Bool.true_or, nI_leI, nI_ltI, nI_eq, nI_clamp, inb_n, up_s, up_n, bx_uu, nI_1, ix6, nI_0n, pk_us, pk_un, ge_0n, c0, itf]
  | succ q ih =>
    intro i bs nr Q J l7 l8 hi kq
    have c0 : ¬ (19 : Int32) ≤ nI i := fun w => absurd ((nI_leI (a := 19) (by omega) (by omega)).mp w) (by omega)
    have hsp : Q 133 c = I (t + 10) c := by rw [kq.1 133 (by unfold kpA; omega)]; exact (h.txt.2.2.2.2.1 c hc).2.2.2.2.1.symm
    have hd : (if nI i &&& 1 = 1 then -(nI i + 1) / 2 else nI i / 2) = chD i := rfl
    have hm2 := chD_m i (by omega)
    unfold itf
    generalize hg : chD i = g at *
    have key : ∀ (v : Int32), v = g → ∃ I1 J1, E (C (d + 6)) MX12_mend 74 [some (.ref 123), some (.int (nI c)), some (.int (nI k)), some (.int (nI w)), some (.int bs), some (.int nr), some (.int (nI i)), l7, l8] [.int v] (hp Q J R1) = some (some (.int (itf (menT I t lL lG n c k (nI w)) q (i + 1) (menT I t lL lG n c k (nI w) i (bs, nr))).1), hp I1 J1 R1) ∧ kp I I1 := by
      intro v hv
      subst hv
      have hS : menT I t lL lG n c k (nI w) i (bs, nr) = if I (t + 10) c + v < 1 then (bs, nr) else if I (t + 10) c + v ≤ 99 then (if bs = -2147483648 then (v, menV I t lL lG n c k (nI w) v) else if menV I t lL lG n c k (nI w) v < nr then (v, menV I t lL lG n c k (nI w) v) else (bs, nr)) else (bs, nr) := by
        unfold menT
        rw [hg]
      have eV := menV_eq (I := I) (t := t) (lL := lL) (lG := lG) (n := n) (c := c) (x := v) hw hk
      rw [hS]
      by_cases z0 : ¬ I (t + 10) c + v < 1 ∧ ¬ 99 < I (t + 10) c + v
      · have hb : bi (¬ I (t + 10) c + v < 1 ∧ ¬ 99 < I (t + 10) c + v) = 1 := if_pos z0
        rw [if_neg z0.1, if_pos (Int32.not_lt.mp z0.2)]
        obtain ⟨I1, J1, e0, e1, e2, g1, k1⟩ := men_r (d := d) (J := J) (x := v) (R1 := R1) (k := k) h kq hc (by omega)
        have ep := pla_spec (d := d + 5) (I := Q) (J := J) (R := R1)
        by_cases z4 : bs = -2147483648
        · rw [if_pos z4]
          obtain ⟨I2, J2, e, k2⟩ := ih (i + 1) v (menV I t lL lG n c k (nI w) v) I1 J1 (some (.int v)) (some (.int (menV I t lL lG n c k (nI w) v))) (by omega) k1
          refine ⟨I2, J2, ?_, k2⟩
          simp (disch := omega) only [xX12_mend_74, xX12_mend_76, xX12_mend_77, xX12_mend_80, xX12_mend_81, xX12_mend_82, xX12_mend_84, xX12_mend_85, xX12_mend_86, xX12_mend_88, xX12_mend_91, xX12_mend_94, xX12_mend_97, xX12_mend_98, xX12_mend_101, xX12_mend_102, xX12_mend_105, xX12_mend_106, xX12_mend_107, xX12_mend_108, xX12_mend_110, xX12_mend_111, xX12_mend_112, xX12_mend_113, xX12_mend_116, xX12_mend_117, xX12_mend_118, xX12_mend_121, xX12_mend_122, xX12_mend_125, xX12_mend_127, xX12_mend_128, xX12_mend_129, xX12_mend_130, xX12_mend_131, xX12_mend_132, xX12_mend_135, xX12_mend_137, xX12_mend_139, xX12_mend_142, xX12_mend_145, xX12_mend_147, xX12_mend_149, xX12_mend_152, xX12_mend_155, xX12_mend_157, xX12_mend_159, xX12_mend_161, xX12_mend_163, xX12_mend_166, xX12_mend_169, xX12_mend_171, kd_123, fi_123_30, kd_133, ln_133, fi_123_59, kd_155, ln_155, fi_123_66, kd_157, ln_157, kd_123, ↓reduceIte, gd_t, hK_p, hN_p, hF_p, hI_p, hJ_p, hR_p, stI_p, stJ_p, stR_p, stA_p, va_rf_s, va_rf_n, clr_i, clr_l, clr_r, clr_n, clr_o, w8_0, w8_1i, w8_1r, w8_2ii, w8_2ri, w8_2ir, w8_2rr, w8_3, beq_self_eq_true, Bool.and_self, Bool.and_true, Bool.true_and, decide_true, Option.toList_some, Option.toList_none, List.cons_append, List.nil_append, Option.bind_some, if_true, if_false, Nat.reduceLeDiff, Nat.reduceLT, Nat.reduceBEq, Bool.or_false, Bool.false_or, Bool.or_true, Bool.true_or, nI_leI, nI_ltI, nI_eq, nI_clamp, inb_n, up_s, up_n, bx_uu, nI_1, ix6, nI_0n, pk_us, pk_un, ge_0n, hsp, isI_spec, hb, n1, ep, e0, e1, e2, a6, g1, siz_spec, eV, z4, e, not_false_eq_true]
        · rw [if_neg z4]
          by_cases z5 : menV I t lL lG n c k (nI w) v < nr
          · rw [if_pos z5]
            obtain ⟨I2, J2, e, k2⟩ := ih (i + 1) v (menV I t lL lG n c k (nI w) v) I1 J1 (some (.int v)) (some (.int (menV I t lL lG n c k (nI w) v))) (by omega) k1
            refine ⟨I2, J2, ?_, k2⟩
            simp (disch := omega) only [xX12_mend_74, xX12_mend_76, xX12_mend_77, xX12_mend_80, xX12_mend_81, xX12_mend_82, xX12_mend_84, xX12_mend_85, xX12_mend_86, xX12_mend_88, xX12_mend_91, xX12_mend_94, xX12_mend_97, xX12_mend_98, xX12_mend_101, xX12_mend_102, xX12_mend_105, xX12_mend_106, xX12_mend_107, xX12_mend_108, xX12_mend_110, xX12_mend_111, xX12_mend_112, xX12_mend_113, xX12_mend_116, xX12_mend_117, xX12_mend_118, xX12_mend_121, xX12_mend_122, xX12_mend_125, xX12_mend_127, xX12_mend_128, xX12_mend_129, xX12_mend_130, xX12_mend_131, xX12_mend_132, xX12_mend_135, xX12_mend_137, xX12_mend_139, xX12_mend_142, xX12_mend_145, xX12_mend_147, xX12_mend_149, xX12_mend_152, xX12_mend_155, xX12_mend_157, xX12_mend_159, xX12_mend_161, xX12_mend_163, xX12_mend_166, xX12_mend_169, xX12_mend_171, kd_123, fi_123_30, kd_133, ln_133, fi_123_59, kd_155, ln_155, fi_123_66, kd_157, ln_157, kd_123, ↓reduceIte, gd_t, hK_p, hN_p, hF_p, hI_p, hJ_p, hR_p, stI_p, stJ_p, stR_p, stA_p, va_rf_s, va_rf_n, clr_i, clr_l, clr_r, clr_n, clr_o, w8_0, w8_1i, w8_1r, w8_2ii, w8_2ri, w8_2ir, w8_2rr, w8_3, beq_self_eq_true, Bool.and_self, Bool.and_true, Bool.true_and, decide_true, Option.toList_some, Option.toList_none, List.cons_append, List.nil_append, Option.bind_some, if_true, if_false, Nat.reduceLeDiff, Nat.reduceLT, Nat.reduceBEq, Bool.or_false, Bool.false_or, Bool.or_true, Bool.true_or, nI_leI, nI_ltI, nI_eq, nI_clamp, inb_n, up_s, up_n, bx_uu, nI_1, ix6, nI_0n, pk_us, pk_un, ge_0n, hsp, isI_spec, hb, n1, ep, e0, e1, e2, a6, g1, siz_spec, eV, z4, z5, e, not_false_eq_true]
          · rw [if_neg z5]
            obtain ⟨I2, J2, e, k2⟩ := ih (i + 1) bs nr I1 J1 (some (.int v)) (some (.int (menV I t lL lG n c k (nI w) v))) (by omega) k1
            refine ⟨I2, J2, ?_, k2⟩
            simp (disch := omega) only [xX12_mend_74, xX12_mend_76, xX12_mend_77, xX12_mend_80, xX12_mend_81, xX12_mend_82, xX12_mend_84, xX12_mend_85, xX12_mend_86, xX12_mend_88, xX12_mend_91, xX12_mend_94, xX12_mend_97, xX12_mend_98, xX12_mend_101, xX12_mend_102, xX12_mend_105, xX12_mend_106, xX12_mend_107, xX12_mend_108, xX12_mend_110, xX12_mend_111, xX12_mend_112, xX12_mend_113, xX12_mend_116, xX12_mend_117, xX12_mend_118, xX12_mend_121, xX12_mend_122, xX12_mend_125, xX12_mend_127, xX12_mend_128, xX12_mend_129, xX12_mend_130, xX12_mend_131, xX12_mend_132, xX12_mend_135, xX12_mend_137, xX12_mend_139, xX12_mend_142, xX12_mend_145, xX12_mend_147, xX12_mend_149, xX12_mend_152, xX12_mend_155, xX12_mend_157, xX12_mend_159, xX12_mend_161, xX12_mend_163, xX12_mend_166, xX12_mend_169, xX12_mend_171, kd_123, fi_123_30, kd_133, ln_133, fi_123_59, kd_155, ln_155, fi_123_66, kd_157, ln_157, kd_123, ↓reduceIte, gd_t, hK_p, hN_p, hF_p, hI_p, hJ_p, hR_p, stI_p, stJ_p, stR_p, stA_p, va_rf_s, va_rf_n, clr_i, clr_l, clr_r, clr_n, clr_o, w8_0, w8_1i, w8_1r, w8_2ii, w8_2ri, w8_2ir, w8_2rr, w8_3, beq_self_eq_true, Bool.and_self, Bool.and_true, Bool.true_and, decide_true, Option.toList_some, Option.toList_none, List.cons_append, List.nil_append, Option.bind_some, if_true, if_false, Nat.reduceLeDiff, Nat.reduceLT, Nat.reduceBEq, Bool.or_false, Bool.false_or, Bool.or_true, Bool.true_or, nI_leI, nI_ltI, nI_eq, nI_clamp, inb_n, up_s, up_n, bx_uu, nI_1, ix6, nI_0n, pk_us, pk_un, ge_0n, hsp, isI_spec, hb, n1, ep, e0, e1, e2, a6, g1, siz_spec, eV, z4, z5, e, not_false_eq_true]
      · have hb : bi (¬ I (t + 10) c + v < 1 ∧ ¬ 99 < I (t + 10) c + v) = 0 := if_neg z0
        have hS2 : (if I (t + 10) c + v < 1 then (bs, nr) else if I (t + 10) c + v ≤ 99 then (if bs = -2147483648 then (v, menV I t lL lG n c k (nI w) v) else if menV I t lL lG n c k (nI w) v < nr then (v, menV I t lL lG n c k (nI w) v) else (bs, nr)) else (bs, nr)) = (bs, nr) := by
          by_cases z1 : I (t + 10) c + v < 1
          · rw [if_pos z1]
          · rw [if_neg z1, if_neg (fun q => z0 ⟨z1, Int32.not_lt.mpr q⟩)]
        rw [hS2]
        obtain ⟨I2, J2, e, k2⟩ := ih (i + 1) bs nr Q J (some (.int v)) l8 (by omega) kq
        refine ⟨I2, J2, ?_, k2⟩
        simp (disch := omega) only [xX12_mend_74, xX12_mend_76, xX12_mend_77, xX12_mend_80, xX12_mend_81, xX12_mend_82, xX12_mend_84, xX12_mend_85, xX12_mend_86, xX12_mend_88, xX12_mend_91, xX12_mend_94, xX12_mend_97, xX12_mend_98, xX12_mend_101, xX12_mend_102, xX12_mend_105, xX12_mend_106, xX12_mend_107, xX12_mend_108, xX12_mend_110, xX12_mend_111, xX12_mend_112, xX12_mend_113, xX12_mend_116, xX12_mend_117, xX12_mend_118, xX12_mend_121, xX12_mend_122, xX12_mend_125, xX12_mend_127, xX12_mend_128, xX12_mend_129, xX12_mend_130, xX12_mend_131, xX12_mend_132, xX12_mend_135, xX12_mend_137, xX12_mend_139, xX12_mend_142, xX12_mend_145, xX12_mend_147, xX12_mend_149, xX12_mend_152, xX12_mend_155, xX12_mend_157, xX12_mend_159, xX12_mend_161, xX12_mend_163, xX12_mend_166, xX12_mend_169, xX12_mend_171, kd_123, fi_123_30, kd_133, ln_133, fi_123_59, kd_155, ln_155, fi_123_66, kd_157, ln_157, kd_123, ↓reduceIte, gd_t, hK_p, hN_p, hF_p, hI_p, hJ_p, hR_p, stI_p, stJ_p, stR_p, stA_p, va_rf_s, va_rf_n, clr_i, clr_l, clr_r, clr_n, clr_o, w8_0, w8_1i, w8_1r, w8_2ii, w8_2ri, w8_2ir, w8_2rr, w8_3, beq_self_eq_true, Bool.and_self, Bool.and_true, Bool.true_and, decide_true, Option.toList_some, Option.toList_none, List.cons_append, List.nil_append, Option.bind_some, if_true, if_false, Nat.reduceLeDiff, Nat.reduceLT, Nat.reduceBEq, Bool.or_false, Bool.false_or, Bool.or_true, Bool.true_or, nI_leI, nI_ltI, nI_eq, nI_clamp, inb_n, up_s, up_n, bx_uu, nI_1, ix6, nI_0n, pk_us, pk_un, ge_0n, hsp, isI_spec, hb, e, not_true_eq_false]
    by_cases z : nI i &&& 1 = 1
    · obtain ⟨I1, J1, e, k1⟩ := key (-(nI i + 1) / 2) (by rw [← hd, if_pos z])
      refine ⟨I1, J1, ?_, k1⟩
      rw [← e, xX12_mend_46]
      simp (disch := omega) only [xX12_mend_48, xX12_mend_50, xX12_mend_53, xX12_mend_55, xX12_mend_56, xX12_mend_57, xX12_mend_60, xX12_mend_62, xX12_mend_63, xX12_mend_64, xX12_mend_67, xX12_mend_69, xX12_mend_70, xX12_mend_71, xX12_mend_72, xX12_mend_73, kd_123, fi_123_30, kd_133, ln_133, fi_123_59, kd_155, ln_155, fi_123_66, kd_157, ln_157, ↓reduceIte, gd_t, hK_p, hN_p, hF_p, hI_p, hJ_p, hR_p, stI_p, stJ_p, stR_p, stA_p, va_rf_s, va_rf_n, clr_i, clr_l, clr_r, clr_n, clr_o, w8_0, w8_1i, w8_1r, w8_2ii, w8_2ri, w8_2ir, w8_2rr, w8_3, beq_self_eq_true, Bool.and_self, Bool.and_true, Bool.true_and, decide_true, Option.toList_some, Option.toList_none, List.cons_append, List.nil_append, Option.bind_some, if_true, if_false, Nat.reduceLeDiff, Nat.reduceLT, Nat.reduceBEq, Bool.or_false, Bool.false_or, Bool.or_true, Bool.true_or, c0, hm2.mp z, m20, not_false_eq_true]
    · obtain ⟨I1, J1, e, k1⟩ := key (nI i / 2) (by rw [← hd, if_neg z])
      have z' : nI i - nI i / 2 * 2 = 0 := Decidable.not_not.mp (fun q => z (hm2.mpr q))
      refine ⟨I1, J1, ?_, k1⟩
      rw [← e, xX12_mend_46]
      simp (disch := omega) only [xX12_mend_48, xX12_mend_50, xX12_mend_53, xX12_mend_55, xX12_mend_56, xX12_mend_57, xX12_mend_60, xX12_mend_62, xX12_mend_63, xX12_mend_64, xX12_mend_67, xX12_mend_69, xX12_mend_70, xX12_mend_71, xX12_mend_72, xX12_mend_73, kd_123, fi_123_30, kd_133, ln_133, fi_123_59, kd_155, ln_155, fi_123_66, kd_157, ln_157, ↓reduceIte, gd_t, hK_p, hN_p, hF_p, hI_p, hJ_p, hR_p, stI_p, stJ_p, stR_p, stA_p, va_rf_s, va_rf_n, clr_i, clr_l, clr_r, clr_n, clr_o, w8_0, w8_1i, w8_1r, w8_2ii, w8_2ri, w8_2ir, w8_2rr, w8_3, beq_self_eq_true, Bool.and_self, Bool.and_true, Bool.true_and, decide_true, Option.toList_some, Option.toList_none, List.cons_append, List.nil_append, Option.bind_some, if_true, if_false, Nat.reduceLeDiff, Nat.reduceLT, Nat.reduceBEq, Bool.or_false, Bool.false_or, Bool.or_true, Bool.true_or, c0, z', m20, not_true_eq_false]
theorem men_eq {c k : Nat} {y : Int32} : ∀ (q i : Nat) (s : Int32 × Int32), i + q = 19 → ¬ s.1 = -2147483648 → itf (menS I t lL lG n c k y) q i s = itf (menT I t lL lG n c k y) q i s
  | 0, _, _, _, _ => rfl
  | q + 1, i, s, hi, hs => by
    unfold itf
    have e : menT I t lL lG n c k y i s = menS I t lL lG n c k y i s := by
      unfold menT menS
      rw [if_neg hs]
    rw [e]
    refine men_eq q (i + 1) _ (by omega) ?_
    unfold menS
    have := chD_no i (by omega)
    split
    · exact hs
    · split
      · split
        · exact this
        · exact hs
      · exact hs
theorem mend_p (h : cAll I R t t' n nb nm fL lL fG lG st) {x y z : Int32} : askP MX11_mend MX12_mend [.int x, .int y, .int z] I J R := by
  have n1 : ¬ (1 : Int32) = 0 := by decide
  rcases ic_or (x := x) h.n6 with ⟨c, hc, rfl, e⟩ | e
  · rcases ruR_or (x := y) with ⟨k, hk, rfl, er⟩ | er
    · by_cases hz : ¬ z < 0 ∧ ¬ 999 < z
      · have hb : bi (¬ z < 0 ∧ ¬ 999 < z) = 1 := if_pos hz
        have hz3 : z ≤ 999 := Int32.not_lt.mp hz.2
        obtain ⟨I1, J1, R1, e1, k1, r1⟩ := men_c (d := 4) (y := z) h hc hk 19 0 0 2147483647 I J R none none none (by omega) tk.rf rk.rf
        obtain ⟨w, hw, rfl⟩ := nI_of2 (M := 999) (n := 999) (by decide) hz.1 hz3
        obtain ⟨I2, J2, e2, k2⟩ := men_m (d := 4) (R1 := R1) h hc hk hw 19 0 (-2147483648) 0 (va_up I1 123 (upd (I1 123) 2 0)) J1 none none (by omega) (k1.kp.tr (kp.thr (v := 0)))
        have hnd : I1 123 13 = nI n := by rw [k1 123 (Or.inr (by omega))]; exact h.nd
        rw [nI_0] at e1 e2
        have hv : (itf (menS I t lL lG n c k (nI w)) 19 0 (0, 2147483647)).1 = (itf (menT I t lL lG n c k (nI w)) 19 0 (-2147483648, 0)).1 := by
          obtain ⟨p, p1, p2, p3⟩ := (h.txt.2.2.2.2.2.1 c hc).2.2.2.1
          have hs : I (t + 10) c + chD 0 = nI p := by
            rw [(h.txt.2.2.2.2.1 c hc).2.2.2.2.1, p3, show chD 0 = 0 from by decide, Int32.add_zero]
          have v1 : ¬ I (t + 10) c + chD 0 < 1 := by
            rw [hs]
            exact fun q => absurd ((nI_ltI (b := 1) (by omega) (by omega)).mp q) (by omega)
          have v2 : I (t + 10) c + chD 0 ≤ 99 := by
            rw [hs]
            exact (nI_leI (b := 99) (by omega) (by omega)).mpr p2
          have v3 : menV I t lL lG n c k (nI w) (chD 0) < 2147483647 := by
            obtain ⟨q, h1, h2⟩ := rnG_ct (P := menP I t lL lG c (chD 0)) (n := n) (c := c) k
            unfold menV disF
            rw [h2]
            by_cases u : nI w ≤ nI q
            · rw [if_pos u, pk_sub ((nI_leI (by omega) (by omega)).mp u)]
              exact (nI_ltI (b := 2147483647) (by omega) (by omega)).mpr (by omega)
            · rw [if_neg u, pk_sub (by
                rcases Nat.le_total w q with g | g
                · exact absurd ((nI_leI (by omega) (by omega)).mpr g) u
                · exact g)]
              exact (nI_ltI (b := 2147483647) (by omega) (by omega)).mpr (by omega)
          have a1 : itf (menS I t lL lG n c k (nI w)) 19 0 (0, 2147483647) = itf (menS I t lL lG n c k (nI w)) 18 1 (menS I t lL lG n c k (nI w) 0 (0, 2147483647)) := rfl
          have a2 : itf (menT I t lL lG n c k (nI w)) 19 0 (-2147483648, 0) = itf (menT I t lL lG n c k (nI w)) 18 1 (menT I t lL lG n c k (nI w) 0 (-2147483648, 0)) := rfl
          have b1 : menS I t lL lG n c k (nI w) 0 (0, 2147483647) = (chD 0, menV I t lL lG n c k (nI w) (chD 0)) := by
            unfold menS
            rw [if_neg v1, if_pos v2, if_pos v3]
          have b2 : menT I t lL lG n c k (nI w) 0 (-2147483648, 0) = (chD 0, menV I t lL lG n c k (nI w) (chD 0)) := by
            unfold menT
            rw [if_neg v1, if_pos v2, if_pos rfl]
          rw [a1, a2, b1, b2, men_eq 18 1 _ (by omega) (chD_no 0 (by omega))]
        refine ⟨(itf (menS I t lL lG n c k (nI w)) 19 0 (0, 2147483647)).1, I1, J1, R1, I2, J2, ?_, ?_, k2, r1 _ (by decide), r1 _ (by decide), r1 _ (by decide)⟩
        · rw [eX11_mend]
          simp (disch := omega) only [xX11_mend_0, xX11_mend_1, xX11_mend_2, xX11_mend_5, xX11_mend_8, xX11_mend_9, xX11_mend_12, xX11_mend_15, xX11_mend_16, xX11_mend_19, xX11_mend_20, xX11_mend_23, xX11_mend_26, xX11_mend_28, xX11_mend_29, xX11_mend_30, xX11_mend_32, xX11_mend_35, xX11_mend_37, xX11_mend_38, kd_0, kd_0, ↓reduceIte, gd_t, hK_p, hN_p, hF_p, hI_p, hJ_p, hR_p, stI_p, stJ_p, stR_p, stA_p, va_rf_s, va_rf_n, clr_i, clr_l, clr_r, clr_n, clr_o, w8_0, w8_1i, w8_1r, w8_2ii, w8_2ri, w8_2ir, w8_2rr, w8_3, beq_self_eq_true, Bool.and_self, Bool.and_true, Bool.true_and, decide_true, Option.toList_some, Option.toList_none, List.cons_append, List.nil_append, Option.bind_some, if_true, if_false, Nat.reduceLeDiff, Nat.reduceLT, Nat.reduceBEq, Bool.or_false, Bool.false_or, Bool.or_true, Bool.true_or, icl_c h.te h.r3, h.nc, e, n1, isR_c, er, hz.1, hz3]
          exact e1
        · rw [eX12_mend]
          simp (disch := omega) only [xX12_mend_0, xX12_mend_1, xX12_mend_2, xX12_mend_5, xX12_mend_6, xX12_mend_7, xX12_mend_10, xX12_mend_13, xX12_mend_14, xX12_mend_17, xX12_mend_20, xX12_mend_21, xX12_mend_22, xX12_mend_25, xX12_mend_28, xX12_mend_31, xX12_mend_34, xX12_mend_35, xX12_mend_38, xX12_mend_40, xX12_mend_41, xX12_mend_43, xX12_mend_44, kd_123, fi_123_30, kd_133, ln_133, fi_123_59, kd_155, ln_155, fi_123_66, kd_157, ln_157, kd_123, ↓reduceIte, gd_t, hK_p, hN_p, hF_p, hI_p, hJ_p, hR_p, stI_p, stJ_p, stR_p, stA_p, va_rf_s, va_rf_n, clr_i, clr_l, clr_r, clr_n, clr_o, w8_0, w8_1i, w8_1r, w8_2ii, w8_2ri, w8_2ir, w8_2rr, w8_3, beq_self_eq_true, Bool.and_self, Bool.and_true, Bool.true_and, decide_true, Option.toList_some, Option.toList_none, List.cons_append, List.nil_append, Option.bind_some, if_true, if_false, Nat.reduceLeDiff, Nat.reduceLT, Nat.reduceBEq, Bool.or_false, Bool.false_or, Bool.or_true, Bool.true_or, icl_m, up_s, pk_un, hnd, e, n1, isR_m, er, isI_spec, hb, not_false_eq_true]
          rw [hv]
          exact e2
      · have hb : bi (¬ z < 0 ∧ ¬ 999 < z) = 0 := if_neg hz
        refine askP.mk0 (v := -2147483648) (w := -2147483648) ?_ ?_ rfl
        · rw [eX11_mend]
          by_cases z0 : z < 0
          · simp (disch := omega) only [xX11_mend_0, xX11_mend_1, xX11_mend_2, xX11_mend_5, xX11_mend_8, xX11_mend_9, xX11_mend_12, xX11_mend_15, xX11_mend_16, xX11_mend_19, xX11_mend_20, xX11_mend_23, xX11_mend_26, xX11_mend_28, xX11_mend_29, xX11_mend_30, xX11_mend_32, xX11_mend_35, xX11_mend_37, xX11_mend_38, kd_0, kd_0, ↓reduceIte, gd_t, hK_p, hN_p, hF_p, hI_p, hJ_p, hR_p, stI_p, stJ_p, stR_p, stA_p, va_rf_s, va_rf_n, clr_i, clr_l, clr_r, clr_n, clr_o, w8_0, w8_1i, w8_1r, w8_2ii, w8_2ri, w8_2ir, w8_2rr, w8_3, beq_self_eq_true, Bool.and_self, Bool.and_true, Bool.true_and, decide_true, Option.toList_some, Option.toList_none, List.cons_append, List.nil_append, Option.bind_some, if_true, if_false, Nat.reduceLeDiff, Nat.reduceLT, Nat.reduceBEq, Bool.or_false, Bool.false_or, Bool.or_true, Bool.true_or, nI_leI, nI_ltI, nI_eq, nI_clamp, inb_n, up_s, up_n, bx_uu, nI_1, ix6, nI_0n, pk_us, pk_un, ge_0n, icl_c h.te h.r3, h.nc, e, n1, isR_c, er, z0]
          · have z1 : ¬ z ≤ 999 := fun q => hz ⟨z0, Int32.not_lt.mpr q⟩
            simp (disch := omega) only [xX11_mend_0, xX11_mend_1, xX11_mend_2, xX11_mend_5, xX11_mend_8, xX11_mend_9, xX11_mend_12, xX11_mend_15, xX11_mend_16, xX11_mend_19, xX11_mend_20, xX11_mend_23, xX11_mend_26, xX11_mend_28, xX11_mend_29, xX11_mend_30, xX11_mend_32, xX11_mend_35, xX11_mend_37, xX11_mend_38, kd_0, kd_0, ↓reduceIte, gd_t, hK_p, hN_p, hF_p, hI_p, hJ_p, hR_p, stI_p, stJ_p, stR_p, stA_p, va_rf_s, va_rf_n, clr_i, clr_l, clr_r, clr_n, clr_o, w8_0, w8_1i, w8_1r, w8_2ii, w8_2ri, w8_2ir, w8_2rr, w8_3, beq_self_eq_true, Bool.and_self, Bool.and_true, Bool.true_and, decide_true, Option.toList_some, Option.toList_none, List.cons_append, List.nil_append, Option.bind_some, if_true, if_false, Nat.reduceLeDiff, Nat.reduceLT, Nat.reduceBEq, Bool.or_false, Bool.false_or, Bool.or_true, Bool.true_or, nI_leI, nI_ltI, nI_eq, nI_clamp, inb_n, up_s, up_n, bx_uu, nI_1, ix6, nI_0n, pk_us, pk_un, ge_0n, icl_c h.te h.r3, h.nc, e, n1, isR_c, er, z0, z1]
        · rw [eX12_mend]
          simp (disch := omega) only [xX12_mend_0, xX12_mend_1, xX12_mend_2, xX12_mend_5, xX12_mend_6, xX12_mend_7, xX12_mend_10, xX12_mend_13, xX12_mend_14, xX12_mend_17, xX12_mend_20, xX12_mend_21, xX12_mend_22, xX12_mend_25, xX12_mend_28, xX12_mend_31, xX12_mend_34, xX12_mend_35, xX12_mend_38, xX12_mend_40, xX12_mend_41, xX12_mend_43, xX12_mend_44, kd_123, fi_123_30, kd_133, ln_133, fi_123_59, kd_155, ln_155, fi_123_66, kd_157, ln_157, kd_123, ↓reduceIte, gd_t, hK_p, hN_p, hF_p, hI_p, hJ_p, hR_p, stI_p, stJ_p, stR_p, stA_p, va_rf_s, va_rf_n, clr_i, clr_l, clr_r, clr_n, clr_o, w8_0, w8_1i, w8_1r, w8_2ii, w8_2ri, w8_2ir, w8_2rr, w8_3, beq_self_eq_true, Bool.and_self, Bool.and_true, Bool.true_and, decide_true, Option.toList_some, Option.toList_none, List.cons_append, List.nil_append, Option.bind_some, if_true, if_false, Nat.reduceLeDiff, Nat.reduceLT, Nat.reduceBEq, Bool.or_false, Bool.false_or, Bool.or_true, Bool.true_or, nI_leI, nI_ltI, nI_eq, nI_clamp, inb_n, up_s, up_n, bx_uu, nI_1, ix6, nI_0n, pk_us, pk_un, ge_0n, icl_m, h.nd, e, n1, isR_m, er, isI_spec, hb, not_true_eq_false]
    · refine askP.mk0 (v := -2147483648) (w := -2147483648) ?_ ?_ rfl
      · rw [eX11_mend]
        simp (disch := omega) only [xX11_mend_0, xX11_mend_1, xX11_mend_2, xX11_mend_5, xX11_mend_8, xX11_mend_9, xX11_mend_12, xX11_mend_15, xX11_mend_16, xX11_mend_19, xX11_mend_20, xX11_mend_23, xX11_mend_26, xX11_mend_28, xX11_mend_29, xX11_mend_30, xX11_mend_32, xX11_mend_35, xX11_mend_37, xX11_mend_38, kd_0, kd_0, ↓reduceIte, gd_t, hK_p, hN_p, hF_p, hI_p, hJ_p, hR_p, stI_p, stJ_p, stR_p, stA_p, va_rf_s, va_rf_n, clr_i, clr_l, clr_r, clr_n, clr_o, w8_0, w8_1i, w8_1r, w8_2ii, w8_2ri, w8_2ir, w8_2rr, w8_3, beq_self_eq_true, Bool.and_self, Bool.and_true, Bool.true_and, decide_true, Option.toList_some, Option.toList_none, List.cons_append, List.nil_append, Option.bind_some, if_true, if_false, Nat.reduceLeDiff, Nat.reduceLT, Nat.reduceBEq, Bool.or_false, Bool.false_or, Bool.or_true, Bool.true_or, nI_leI, nI_ltI, nI_eq, nI_clamp, inb_n, up_s, up_n, bx_uu, nI_1, ix6, nI_0n, pk_us, pk_un, ge_0n, icl_c h.te h.r3, h.nc, e, n1, isR_c, er]
      · rw [eX12_mend]
        simp (disch := omega) only [xX12_mend_0, xX12_mend_1, xX12_mend_2, xX12_mend_5, xX12_mend_6, xX12_mend_7, xX12_mend_10, xX12_mend_13, xX12_mend_14, xX12_mend_17, xX12_mend_20, xX12_mend_21, xX12_mend_22, xX12_mend_25, xX12_mend_28, xX12_mend_31, xX12_mend_34, xX12_mend_35, xX12_mend_38, xX12_mend_40, xX12_mend_41, xX12_mend_43, xX12_mend_44, kd_123, fi_123_30, kd_133, ln_133, fi_123_59, kd_155, ln_155, fi_123_66, kd_157, ln_157, kd_123, ↓reduceIte, gd_t, hK_p, hN_p, hF_p, hI_p, hJ_p, hR_p, stI_p, stJ_p, stR_p, stA_p, va_rf_s, va_rf_n, clr_i, clr_l, clr_r, clr_n, clr_o, w8_0, w8_1i, w8_1r, w8_2ii, w8_2ri, w8_2ir, w8_2rr, w8_3, beq_self_eq_true, Bool.and_self, Bool.and_true, Bool.true_and, decide_true, Option.toList_some, Option.toList_none, List.cons_append, List.nil_append, Option.bind_some, if_true, if_false, Nat.reduceLeDiff, Nat.reduceLT, Nat.reduceBEq, Bool.or_false, Bool.false_or, Bool.or_true, Bool.true_or, nI_leI, nI_ltI, nI_eq, nI_clamp, inb_n, up_s, up_n, bx_uu, nI_1, ix6, nI_0n, pk_us, pk_un, ge_0n, icl_m, h.nd, e, n1, isR_m, er]
  · refine askP.mk0 (v := -2147483648) (w := -2147483648) ?_ ?_ rfl
    · rw [eX11_mend]
      simp (disch := omega) only [xX11_mend_0, xX11_mend_1, xX11_mend_2, xX11_mend_5, xX11_mend_8, xX11_mend_9, xX11_mend_12, xX11_mend_15, xX11_mend_16, xX11_mend_19, xX11_mend_20, xX11_mend_23, xX11_mend_26, xX11_mend_28, xX11_mend_29, xX11_mend_30, xX11_mend_32, xX11_mend_35, xX11_mend_37, xX11_mend_38, kd_0, kd_0, ↓reduceIte, gd_t, hK_p, hN_p, hF_p, hI_p, hJ_p, hR_p, stI_p, stJ_p, stR_p, stA_p, va_rf_s, va_rf_n, clr_i, clr_l, clr_r, clr_n, clr_o, w8_0, w8_1i, w8_1r, w8_2ii, w8_2ri, w8_2ir, w8_2rr, w8_3, beq_self_eq_true, Bool.and_self, Bool.and_true, Bool.true_and, decide_true, Option.toList_some, Option.toList_none, List.cons_append, List.nil_append, Option.bind_some, if_true, if_false, Nat.reduceLeDiff, Nat.reduceLT, Nat.reduceBEq, Bool.or_false, Bool.false_or, Bool.or_true, Bool.true_or, nI_leI, nI_ltI, nI_eq, nI_clamp, inb_n, up_s, up_n, bx_uu, nI_1, ix6, nI_0n, pk_us, pk_un, ge_0n, icl_c h.te h.r3, h.nc, e]
    · rw [eX12_mend]
      simp (disch := omega) only [xX12_mend_0, xX12_mend_1, xX12_mend_2, xX12_mend_5, xX12_mend_6, xX12_mend_7, xX12_mend_10, xX12_mend_13, xX12_mend_14, xX12_mend_17, xX12_mend_20, xX12_mend_21, xX12_mend_22, xX12_mend_25, xX12_mend_28, xX12_mend_31, xX12_mend_34, xX12_mend_35, xX12_mend_38, xX12_mend_40, xX12_mend_41, xX12_mend_43, xX12_mend_44, kd_123, fi_123_30, kd_133, ln_133, fi_123_59, kd_155, ln_155, fi_123_66, kd_157, ln_157, kd_123, ↓reduceIte, gd_t, hK_p, hN_p, hF_p, hI_p, hJ_p, hR_p, stI_p, stJ_p, stR_p, stA_p, va_rf_s, va_rf_n, clr_i, clr_l, clr_r, clr_n, clr_o, w8_0, w8_1i, w8_1r, w8_2ii, w8_2ri, w8_2ir, w8_2rr, w8_3, beq_self_eq_true, Bool.and_self, Bool.and_true, Bool.true_and, decide_true, Option.toList_some, Option.toList_none, List.cons_append, List.nil_append, Option.bind_some, if_true, if_false, Nat.reduceLeDiff, Nat.reduceLT, Nat.reduceBEq, Bool.or_false, Bool.false_or, Bool.or_true, Bool.true_or, nI_leI, nI_ltI, nI_eq, nI_clamp, inb_n, up_s, up_n, bx_uu, nI_1, ix6, nI_0n, pk_us, pk_un, ge_0n, icl_m, h.nd, e]
end MEN

-- MOTION, 6: begin, take, go, leaveAlone
theorem up_31 {α : Type} {f : Nat → α} {a b : Nat} {x y z : α} (h : a ≠ b) : va_up (va_up (va_up f a x) b y) a z = va_up (va_up f a z) b y := by
  funext q
  unfold va_up
  by_cases h1 : q = a
  · subst h1
    simp [h]
  · simp [h1]
def zerF (r : Nat → Int32) (n : Nat) : Nat → Int32 := fun k => if k < n then 0 else r k
def begO (I : Mem) (m t : Nat) : Nat → Int32 := upd (upd (upd (upd (upd (I m) 1 (I (t + 5) 1)) 2 0) 3 (I t 12)) 4 0) 18 0
/-- the memory behind begin, but for the bonds -/
def begA (I : Mem) (m t b p : Nat) : Mem := va_up (va_up (va_up (va_up (va_up (va_up (va_up (va_up (va_up (va_up (va_up I m (begO I m t)) (m + 1) (cpF (I (t + 4)) (I (m + 1)) 3)) (m + 2) (cpF (I b) (I (m + 2)) 6)) (m + 3) (cpF (I p) (I (m + 3)) 6)) (m + 4) (cpF (I (t + 9)) (I (m + 4)) 6)) (m + 5) (cpF (I (t + 10)) (I (m + 5)) 6)) (m + 6) (cpF (I (t + 14)) (I (m + 6)) 6)) (m + 7) (cpF (I (t + 11)) (I (m + 7)) 6)) (m + 8) (cpF (I (t + 13)) (I (m + 8)) 6)) (m + 9) (zerF (I (m + 9)) 6)) (m + 10) (zerF (I (m + 10)) 6)
def begM (I : Mem) (m t b p n : Nat) : Mem := va_up (begA I m t b p) (m + 11) (mesF n (bonF (cpF (I (t + 9)) (I (m + 4)) 6) (I (t + 3)) (cpF (I (t + 4)) (I (m + 1)) 3) (cpF (I p) (I (m + 3)) 6) (cpF (I b) (I (m + 2)) 6) (I t 12)) (I (m + 11)))
theorem beg_loop {d m : Nat} {X : Mem} {J : MemL} {R : MemR} {l1 l2 : Option Value} {p : Nat} (hm : isMo m) (ct sa : Nat → Int32) : E (C d) MX4_begin 124 [some (.ref m), l1, l2, some (.ref p), some (.int (nI 0))] [] (hp (va_up (va_up X (m + 9) ct) (m + 10) sa) J R) = E (C d) MX4_begin 153 [some (.ref m), l1, l2, some (.ref p), some (.int (nI 6))] [] (hp (va_up (va_up X (m + 9) (zerF ct 6)) (m + 10) (zerF sa 6)) J R) := by
  have hm2 := mo_lo hm
  have h := for_0 (P := fun i (s : (Nat → Int32) × (Nat → Int32)) => E (C d) MX4_begin 124 [some (.ref m), l1, l2, some (.ref p), some (.int (nI i))] [] (hp (va_up (va_up X (m + 9) s.1) (m + 10) s.2) J R)) (f := fun i s => (upd s.1 i 0, upd s.2 i 0)) (fin := fun s => E (C d) MX4_begin 153 [some (.ref m), l1, l2, some (.ref p), some (.int (nI 6))] [] (hp (va_up (va_up X (m + 9) s.1) (m + 10) s.2) J R)) (n := 6) (s := (ct, sa)) (by
    intro i s hi
    have c0 : ¬ (6 : Int32) ≤ nI i := nI_ge (b := 6) hi (by omega)
    rw [xX4_begin_124]
    simp (disch := omega) only [xX4_begin_126, xX4_begin_128, xX4_begin_131, xX4_begin_132, xX4_begin_135, xX4_begin_137, xX4_begin_138, xX4_begin_139, xX4_begin_140, xX4_begin_143, xX4_begin_145, xX4_begin_146, xX4_begin_147, xX4_begin_150, mo_k0 hm, mo_f0_5 hm, mo_k1 hm, mo_n1 hm, mo_f0_6 hm, mo_k2 hm, mo_n2 hm, mo_f0_7 hm, mo_k3 hm, mo_n3 hm, mo_f0_8 hm, mo_k4 hm, mo_n4 hm, mo_f0_9 hm, mo_k5 hm, mo_n5 hm, mo_f0_10 hm, mo_k6 hm, mo_n6 hm, mo_f0_11 hm, mo_k7 hm, mo_n7 hm, mo_f0_12 hm, mo_k8 hm, mo_n8 hm, mo_f0_13 hm, mo_k9 hm, mo_n9 hm, mo_f0_14 hm, mo_k10 hm, mo_n10 hm, ↓reduceIte, gd_t, hK_p, hN_p, hF_p, hI_p, hJ_p, hR_p, stI_p, stJ_p, stR_p, stA_p, va_rf_s, va_rf_n, clr_i, clr_l, clr_r, clr_n, clr_o, w8_0, w8_1i, w8_1r, w8_2ii, w8_2ri, w8_2ir, w8_2rr, w8_3, beq_self_eq_true, Bool.and_self, Bool.and_true, Bool.true_and, decide_true, Option.toList_some, Option.toList_none, List.cons_append, List.nil_append, Option.bind_some, if_true, if_false, Nat.reduceLeDiff, Nat.reduceLT, Nat.reduceBEq, Bool.or_false, Bool.false_or, Bool.or_true, Bool.true_or, nI_leI, nI_ltI, nI_eq, nI_clamp, inb_n, up_s, up_n, bx_uu, nI_1, ix6, nI_0n, pk_us, pk_un, ge_0n, c0, up_31]) (by
    intro s
    have c0 : (6 : Int32) ≤ nI 6 := by decide
    rw [xX4_begin_124]
    simp (disch := omega) only [xX4_begin_126, xX4_begin_128, xX4_begin_131, xX4_begin_132, xX4_begin_135, xX4_begin_137, xX4_begin_138, xX4_begin_139, xX4_begin_140, xX4_begin_143, xX4_begin_145, xX4_begin_146, xX4_begin_147, xX4_begin_150, mo_k0 hm, mo_f0_5 hm, mo_k1 hm, mo_n1 hm, mo_f0_6 hm, mo_k2 hm, mo_n2 hm, mo_f0_7 hm, mo_k3 hm, mo_n3 hm, mo_f0_8 hm, mo_k4 hm, mo_n4 hm, mo_f0_9 hm, mo_k5 hm, mo_n5 hm, mo_f0_10 hm, mo_k6 hm, mo_n6 hm, mo_f0_11 hm, mo_k7 hm, mo_n7 hm, mo_f0_12 hm, mo_k8 hm, mo_n8 hm, mo_f0_13 hm, mo_k9 hm, mo_n9 hm, mo_f0_14 hm, mo_k10 hm, mo_n10 hm, ↓reduceIte, gd_t, hK_p, hN_p, hF_p, hI_p, hJ_p, hR_p, stI_p, stJ_p, stR_p, stA_p, va_rf_s, va_rf_n, clr_i, clr_l, clr_r, clr_n, clr_o, w8_0, w8_1i, w8_1r, w8_2ii, w8_2ri, w8_2ir, w8_2rr, w8_3, beq_self_eq_true, Bool.and_self, Bool.and_true, Bool.true_and, decide_true, Option.toList_some, Option.toList_none, List.cons_append, List.nil_append, Option.bind_some, if_true, if_false, Nat.reduceLeDiff, Nat.reduceLT, Nat.reduceBEq, Bool.or_false, Bool.false_or, Bool.or_true, Bool.true_or, nI_leI, nI_ltI, nI_eq, nI_clamp, inb_n, up_s, up_n, bx_uu, nI_1, ix6, nI_0n, pk_us, pk_un, ge_0n, c0])
  refine Eq.trans h ?_
  have hi : ∀ (s : (Nat → Int32) × (Nat → Int32)), itf (fun i (s : (Nat → Int32) × (Nat → Int32)) => (upd s.1 i 0, upd s.2 i 0)) 6 0 s = (zerF s.1 6, zerF s.2 6) := by
    intro s
    have h1 := itf_fill (v := fun _ => 0) s.1 6
    have h2 := itf_fill (v := fun _ => 0) s.2 6
    unfold zerF
    rw [← h1, ← h2]
    rfl
  rw [hi]
theorem z01 : ((0 : Int32) == 0 || (0 : Int32) == 1) = true := rfl
theorem beg_spec {d m t b p n : Nat} {I : Mem} {J : MemL} {R : MemR} (hm : isMo m) (ht : isTe t) (kb : kd0 b = 14) (nb : ln0 b = 6) (kp : kd0 p = 14) (np : ln0 p = 6) (hb : b < m ∨ m + 14 ≤ b) (hp' : p < m ∨ m + 14 ≤ p) (hn : I (t + 5) 1 = nI n) (hn6 : n ≤ 6) :
    C (d + 4) MX4_begin [.ref m, .ref t, .ref b, .ref p] (hp I J R) = some (none, hp (begM I m t b p n) J (va_up R m (va_up (R m) 0 (some t)))) := by
  have hm2 := mo_lo hm
  have ht2 := te_hi ht
  have hmes := mes_spec (d := d) (I := begA I m t b p) (J := J) (R := va_up R m (va_up (R m) 0 (some t))) (n := n) hm ht (by rw [up_s, up_s]) (by
    unfold begA begO
    simp (disch := omega) only [up_s, up_n, pk_us, pk_un]
    exact hn) hn6
  have hmem : va_up (begA I m t b p) (m + 11) (mesF n (bonF (begA I m t b p (m + 4)) (begA I m t b p (t + 3)) (begA I m t b p (m + 1)) (begA I m t b p (m + 3)) (begA I m t b p (m + 2)) (begA I m t b p m 3)) (begA I m t b p (m + 11))) = begM I m t b p n := by
    unfold begM begA begO
    simp (disch := omega) only [up_s, up_n, pk_us, pk_un]
  rw [hmem] at hmes
  have hl := beg_loop (d := d + 3) (X := va_up (va_up (va_up (va_up (va_up (va_up (va_up (va_up (va_up I m (begO I m t)) (m + 1) (cpF (I (t + 4)) (I (m + 1)) 3)) (m + 2) (cpF (I b) (I (m + 2)) 6)) (m + 3) (cpF (I p) (I (m + 3)) 6)) (m + 4) (cpF (I (t + 9)) (I (m + 4)) 6)) (m + 5) (cpF (I (t + 10)) (I (m + 5)) 6)) (m + 6) (cpF (I (t + 14)) (I (m + 6)) 6)) (m + 7) (cpF (I (t + 11)) (I (m + 7)) 6)) (m + 8) (cpF (I (t + 13)) (I (m + 8)) 6)) (J := J) (R := va_up R m (va_up (R m) 0 (some t))) (l1 := some (.ref t)) (l2 := some (.ref b)) (p := p) hm (I (m + 9)) (I (m + 10))
  have hs9 : va_up (va_up (va_up (va_up (va_up (va_up (va_up (va_up (va_up (va_up (va_up I m (begO I m t)) (m + 1) (cpF (I (t + 4)) (I (m + 1)) 3)) (m + 2) (cpF (I b) (I (m + 2)) 6)) (m + 3) (cpF (I p) (I (m + 3)) 6)) (m + 4) (cpF (I (t + 9)) (I (m + 4)) 6)) (m + 5) (cpF (I (t + 10)) (I (m + 5)) 6)) (m + 6) (cpF (I (t + 14)) (I (m + 6)) 6)) (m + 7) (cpF (I (t + 11)) (I (m + 7)) 6)) (m + 8) (cpF (I (t + 13)) (I (m + 8)) 6)) (m + 9) (I (m + 9))) (m + 10) (I (m + 10)) = va_up (va_up (va_up (va_up (va_up (va_up (va_up (va_up (va_up I m (begO I m t)) (m + 1) (cpF (I (t + 4)) (I (m + 1)) 3)) (m + 2) (cpF (I b) (I (m + 2)) 6)) (m + 3) (cpF (I p) (I (m + 3)) 6)) (m + 4) (cpF (I (t + 9)) (I (m + 4)) 6)) (m + 5) (cpF (I (t + 10)) (I (m + 5)) 6)) (m + 6) (cpF (I (t + 14)) (I (m + 6)) 6)) (m + 7) (cpF (I (t + 11)) (I (m + 7)) 6)) (m + 8) (cpF (I (t + 13)) (I (m + 8)) 6) := by
    funext a
    by_cases h1 : a = m + 10
    · subst h1
      simp (disch := omega) only [up_s, up_n]
    · rw [up_n h1]
      by_cases h2 : a = m + 9
      · subst h2
        simp (disch := omega) only [up_s, up_n]
      · rw [up_n h2]
  rw [hs9, nI_0] at hl
  unfold begO at hl
  rw [eX4_begin]
  simp (disch := omega) only [xX4_begin_0, xX4_begin_1, xX4_begin_2, xX4_begin_5, xX4_begin_6, xX4_begin_7, xX4_begin_10, xX4_begin_13, xX4_begin_16, xX4_begin_17, xX4_begin_18, xX4_begin_21, xX4_begin_22, xX4_begin_23, xX4_begin_26, xX4_begin_29, xX4_begin_30, xX4_begin_31, xX4_begin_34, xX4_begin_35, xX4_begin_36, xX4_begin_39, xX4_begin_40, xX4_begin_43, xX4_begin_44, xX4_begin_47, xX4_begin_50, xX4_begin_51, xX4_begin_52, xX4_begin_55, xX4_begin_58, xX4_begin_59, xX4_begin_60, xX4_begin_63, xX4_begin_66, xX4_begin_67, xX4_begin_70, xX4_begin_71, xX4_begin_74, xX4_begin_77, xX4_begin_78, xX4_begin_81, xX4_begin_82, xX4_begin_85, xX4_begin_88, xX4_begin_89, xX4_begin_92, xX4_begin_93, xX4_begin_96, xX4_begin_99, xX4_begin_100, xX4_begin_103, xX4_begin_104, xX4_begin_107, xX4_begin_110, xX4_begin_111, xX4_begin_114, xX4_begin_115, xX4_begin_118, xX4_begin_121, xX4_begin_122, mo_k0 hm, mo_f0_5 hm, mo_k1 hm, mo_n1 hm, mo_f0_6 hm, mo_k2 hm, mo_n2 hm, mo_f0_7 hm, mo_k3 hm, mo_n3 hm, mo_f0_8 hm, mo_k4 hm, mo_n4 hm, mo_f0_9 hm, mo_k5 hm, mo_n5 hm, mo_f0_10 hm, mo_k6 hm, mo_n6 hm, mo_f0_11 hm, mo_k7 hm, mo_n7 hm, mo_f0_12 hm, mo_k8 hm, mo_n8 hm, mo_f0_13 hm, mo_k9 hm, mo_n9 hm, mo_f0_14 hm, mo_k10 hm, mo_n10 hm, te_k0 ht, te_f0_2 ht, te_k4 ht, te_n4 ht, te_f0_3 ht, te_k5 ht, te_f0_6 ht, te_k9 ht, te_n9 ht, te_f0_7 ht, te_k10 ht, te_n10 ht, te_f0_8 ht, te_k11 ht, te_n11 ht, te_f0_10 ht, te_k13 ht, te_n13 ht, te_f0_11 ht, te_k14 ht, te_n14 ht, te_k1 ht, te_k15 ht, ↓reduceIte, gd_t, hK_p, hN_p, hF_p, hI_p, hJ_p, hR_p, stI_p, stJ_p, stR_p, stA_p, va_rf_s, va_rf_n, clr_i, clr_l, clr_r, clr_n, clr_o, w8_0, w8_1i, w8_1r, w8_2ii, w8_2ri, w8_2ir, w8_2rr, w8_3, beq_self_eq_true, Bool.and_self, Bool.and_true, Bool.true_and, decide_true, Option.toList_some, Option.toList_none, List.cons_append, List.nil_append, Option.bind_some, if_true, if_false, Nat.reduceLeDiff, Nat.reduceLT, Nat.reduceBEq, Bool.or_false, Bool.false_or, Bool.or_true, Bool.true_or, nI_leI, nI_ltI, nI_eq, nI_clamp, inb_n, up_s, up_n, bx_uu, nI_1, ix6, nI_0n, pk_us, pk_un, ge_0n, copy_spec (te_k4 ht) (mo_k1 hm) (te_n4 ht) (mo_n1 hm) (show 3 < 2 ^ 31 by omega), copy_spec kb (mo_k2 hm) nb (mo_n2 hm) (show 6 < 2 ^ 31 by omega), copy_spec kp (mo_k3 hm) np (mo_n3 hm) (show 6 < 2 ^ 31 by omega), copy_spec (te_k9 ht) (mo_k4 hm) (te_n9 ht) (mo_n4 hm) (show 6 < 2 ^ 31 by omega), copy_spec (te_k10 ht) (mo_k5 hm) (te_n10 ht) (mo_n5 hm) (show 6 < 2 ^ 31 by omega), copy_spec (te_k14 ht) (mo_k6 hm) (te_n14 ht) (mo_n6 hm) (show 6 < 2 ^ 31 by omega), copy_spec (te_k11 ht) (mo_k7 hm) (te_n11 ht) (mo_n7 hm) (show 6 < 2 ^ 31 by omega), copy_spec (te_k13 ht) (mo_k8 hm) (te_n13 ht) (mo_n8 hm) (show 6 < 2 ^ 31 by omega), z01]
  rw [hl]
  have hbA : va_up (va_up (va_up (va_up (va_up (va_up (va_up (va_up (va_up (va_up (va_up I m (begO I m t)) (m + 1) (cpF (I (t + 4)) (I (m + 1)) 3)) (m + 2) (cpF (I b) (I (m + 2)) 6)) (m + 3) (cpF (I p) (I (m + 3)) 6)) (m + 4) (cpF (I (t + 9)) (I (m + 4)) 6)) (m + 5) (cpF (I (t + 10)) (I (m + 5)) 6)) (m + 6) (cpF (I (t + 14)) (I (m + 6)) 6)) (m + 7) (cpF (I (t + 11)) (I (m + 7)) 6)) (m + 8) (cpF (I (t + 13)) (I (m + 8)) 6)) (m + 9) (zerF (I (m + 9)) 6)) (m + 10) (zerF (I (m + 10)) 6) = begA I m t b p := rfl
  unfold begO at hbA
  simp (disch := omega) only [xX4_begin_153, xX4_begin_154, xX4_begin_157, mo_k0 hm, mo_f0_5 hm, mo_k1 hm, mo_n1 hm, mo_f0_6 hm, mo_k2 hm, mo_n2 hm, mo_f0_7 hm, mo_k3 hm, mo_n3 hm, mo_f0_8 hm, mo_k4 hm, mo_n4 hm, mo_f0_9 hm, mo_k5 hm, mo_n5 hm, mo_f0_10 hm, mo_k6 hm, mo_n6 hm, mo_f0_11 hm, mo_k7 hm, mo_n7 hm, mo_f0_12 hm, mo_k8 hm, mo_n8 hm, mo_f0_13 hm, mo_k9 hm, mo_n9 hm, mo_f0_14 hm, mo_k10 hm, mo_n10 hm, te_k0 ht, te_f0_2 ht, te_k4 ht, te_n4 ht, te_f0_3 ht, te_k5 ht, te_f0_6 ht, te_k9 ht, te_n9 ht, te_f0_7 ht, te_k10 ht, te_n10 ht, te_f0_8 ht, te_k11 ht, te_n11 ht, te_f0_10 ht, te_k13 ht, te_n13 ht, te_f0_11 ht, te_k14 ht, te_n14 ht, te_k1 ht, te_k15 ht, ↓reduceIte, gd_t, hK_p, hN_p, hF_p, hI_p, hJ_p, hR_p, stI_p, stJ_p, stR_p, stA_p, va_rf_s, va_rf_n, clr_i, clr_l, clr_r, clr_n, clr_o, w8_0, w8_1i, w8_1r, w8_2ii, w8_2ri, w8_2ir, w8_2rr, w8_3, beq_self_eq_true, Bool.and_self, Bool.and_true, Bool.true_and, decide_true, Option.toList_some, Option.toList_none, List.cons_append, List.nil_append, Option.bind_some, if_true, if_false, Nat.reduceLeDiff, Nat.reduceLT, Nat.reduceBEq, Bool.or_false, Bool.false_or, Bool.or_true, Bool.true_or, hbA, hmes]

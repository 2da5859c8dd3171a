-- MOTION, 5: a step
def staF (n : Nat) (t : Int32) (st sa : Nat → Int32) : Nat → Int32 := itf (fun i sa => if sa i = 0 then (if st i = t then upd sa i 1 else sa) else sa) n 0 sa
def runS (lose : (Nat → Int64) → Int32) (go : (Nat → Int64) → Int32 → Int32) (dr sp we pl pu : Nat → Int32) (t : Int32) (n : Nat) (s : S5) : S5 := itf (fun i s => if s.2.2.2.1 i = 1 then movS lose go dr sp we pl pu t i s else s) n 0 s
/-- the pulls, and the state, behind a step -/
def advP (I : Mem) (m n : Nat) : Nat → Int32 := weiF n (staF n (I m 2) (I (m + 6)) (I (m + 10))) (I (m + 7)) (I (m + 11)) (I (m + 12))
def advS (I : Mem) (m t n lenL lenG : Nat) : S5 := runS (losC I t lenL (I m 4)) (goC I t lenG) (I (t + 12)) (I (m + 5)) (I (m + 4)) (I (m + 3)) (advP I m n) (I m 2) n (I (m + 7), I (m + 8), I (m + 9), staF n (I m 2) (I (m + 6)) (I (m + 10)), 0)
def advM (I : Mem) (m t n lenL lenG : Nat) : Mem := moM (va_up I (m + 12) (advP I m n)) m (upd (upd (I m) 18 (advS I m t n lenL lenG).2.2.2.2) 2 (I m 2 + 1)) (advS I m t n lenL lenG).1 (advS I m t n lenL lenG).2.1 (advS I m t n lenL lenG).2.2.1 (advS I m t n lenL lenG).2.2.2.1
theorem upd_self {f : Nat → Int32} {k : Nat} {v : Int32} (h : f k = v) : upd f k v = f := by
  funext j
  by_cases hj : j = k
  · rw [hj, pk_us, h]
  · rw [pk_un hj]
theorem adv_spec {d m t n lenL lenG : Nat} {I : Mem} {J : MemL} {R : MemR} (hm : isMo m) (ht : isTe t) (hR : R m 0 = some t) (hn : I m 1 = nI n) (hn6 : n ≤ 6) (hw : okL I t lenL lenG) :
    ∃ J', C (d + 4) MX4_advance [.ref m] (hp I J R) = some (none, hp (advM I m t n lenL lenG) J' R) := by
  have hm2 := mo_lo hm
  have ht2 := te_hi ht
  have h1 : ∀ sa, E (C (d + 3)) MX4_advance 2 [some (.ref m), some (.int (nI 0))] [] (hp (va_up I (m + 10) sa) J R) = E (C (d + 3)) MX4_advance 45 [some (.ref m), some (.int (nI n))] [] (hp (va_up I (m + 10) (staF n (I m 2) (I (m + 6)) sa)) J R) := by
    intro sa
    refine for_0 (P := fun i sa => E (C (d + 3)) MX4_advance 2 [some (.ref m), some (.int (nI i))] [] (hp (va_up I (m + 10) sa) J R)) (fin := fun sa => E (C (d + 3)) MX4_advance 45 [some (.ref m), some (.int (nI n))] [] (hp (va_up I (m + 10) sa) J R)) ?_ ?_
    · intro i sa hi
      have c0 : ¬ n ≤ i := by omega
      rw [xX4_advance_2]
      by_cases z : sa i = 0
      · by_cases y : I (m + 6) i = I m 2 <;> simp (disch := omega) only [xX4_advance_3, xX4_advance_4, xX4_advance_7, xX4_advance_10, xX4_advance_11, xX4_advance_14, xX4_advance_15, xX4_advance_16, xX4_advance_19, xX4_advance_20, xX4_advance_23, xX4_advance_24, xX4_advance_25, xX4_advance_26, xX4_advance_29, xX4_advance_32, xX4_advance_33, xX4_advance_36, xX4_advance_37, xX4_advance_38, xX4_advance_39, xX4_advance_42, mo_k0 hm, mo_f0_10 hm, mo_k6 hm, mo_n6 hm, mo_f0_14 hm, mo_k10 hm, mo_n10 hm, ↓reduceIte, gd_t, hK_p, hN_p, hF_p, hI_p, hJ_p, hR_p, stI_p, stJ_p, stR_p, stA_p, va_rf_s, va_rf_n, clr_i, clr_l, clr_r, clr_n, clr_o, w8_0, w8_1i, w8_1r, w8_2ii, w8_2ri, w8_2ir, w8_2rr, w8_3, beq_self_eq_true, Bool.and_self, Bool.and_true, Bool.true_and, decide_true, Option.toList_some, Option.toList_none, List.cons_append, List.nil_append, Option.bind_some, if_true, if_false, Nat.reduceLeDiff, Nat.reduceLT, Nat.reduceBEq, Bool.or_false, Bool.false_or, Bool.or_true, Bool.true_or, nI_leI, nI_ltI, nI_eq, nI_clamp, inb_n, up_s, up_n, bx_uu, nI_1, ix6, nI_0n, pk_us, pk_un, ge_0n, hn, c0, z, y, not_true_eq_false, not_false_eq_true]
      · simp (disch := omega) only [xX4_advance_3, xX4_advance_4, xX4_advance_7, xX4_advance_10, xX4_advance_11, xX4_advance_14, xX4_advance_15, xX4_advance_16, xX4_advance_19, xX4_advance_20, xX4_advance_23, xX4_advance_24, xX4_advance_25, xX4_advance_26, xX4_advance_29, xX4_advance_32, xX4_advance_33, xX4_advance_36, xX4_advance_37, xX4_advance_38, xX4_advance_39, xX4_advance_42, mo_k0 hm, mo_f0_10 hm, mo_k6 hm, mo_n6 hm, mo_f0_14 hm, mo_k10 hm, mo_n10 hm, ↓reduceIte, gd_t, hK_p, hN_p, hF_p, hI_p, hJ_p, hR_p, stI_p, stJ_p, stR_p, stA_p, va_rf_s, va_rf_n, clr_i, clr_l, clr_r, clr_n, clr_o, w8_0, w8_1i, w8_1r, w8_2ii, w8_2ri, w8_2ir, w8_2rr, w8_3, beq_self_eq_true, Bool.and_self, Bool.and_true, Bool.true_and, decide_true, Option.toList_some, Option.toList_none, List.cons_append, List.nil_append, Option.bind_some, if_true, if_false, Nat.reduceLeDiff, Nat.reduceLT, Nat.reduceBEq, Bool.or_false, Bool.false_or, Bool.or_true, Bool.true_or, nI_leI, nI_ltI, nI_eq, nI_clamp, inb_n, up_s, up_n, bx_uu, nI_1, ix6, nI_0n, pk_us, pk_un, ge_0n, hn, c0, z, not_false_eq_true]
    · intro sa
      have c0 : n ≤ n := Nat.le_refl n
      rw [xX4_advance_2]
      simp (disch := omega) only [xX4_advance_3, xX4_advance_4, xX4_advance_7, xX4_advance_10, xX4_advance_11, xX4_advance_14, xX4_advance_15, xX4_advance_16, xX4_advance_19, xX4_advance_20, xX4_advance_23, xX4_advance_24, xX4_advance_25, xX4_advance_26, xX4_advance_29, xX4_advance_32, xX4_advance_33, xX4_advance_36, xX4_advance_37, xX4_advance_38, xX4_advance_39, xX4_advance_42, mo_k0 hm, mo_f0_10 hm, mo_k6 hm, mo_n6 hm, mo_f0_14 hm, mo_k10 hm, mo_n10 hm, ↓reduceIte, gd_t, hK_p, hN_p, hF_p, hI_p, hJ_p, hR_p, stI_p, stJ_p, stR_p, stA_p, va_rf_s, va_rf_n, clr_i, clr_l, clr_r, clr_n, clr_o, w8_0, w8_1i, w8_1r, w8_2ii, w8_2ri, w8_2ir, w8_2rr, w8_3, beq_self_eq_true, Bool.and_self, Bool.and_true, Bool.true_and, decide_true, Option.toList_some, Option.toList_none, List.cons_append, List.nil_append, Option.bind_some, if_true, if_false, Nat.reduceLeDiff, Nat.reduceLT, Nat.reduceBEq, Bool.or_false, Bool.false_or, Bool.or_true, Bool.true_or, nI_leI, nI_ltI, nI_eq, nI_clamp, inb_n, up_s, up_n, bx_uu, nI_1, ix6, nI_0n, pk_us, pk_un, ge_0n, hn, c0]
  have hgo : ∀ (I2 : Mem) (o : Nat → Int32), o 1 = nI n → okL I2 t lenL lenG → ∀ (k i : Nat) (s : S5) (J : MemL), i + k = n → ∃ J', E (C (d + 3)) MX4_advance 56 [some (.ref m), some (.int (nI i))] [] (hp (mo5 I2 m o s) J R) =
      E (C (d + 3)) MX4_advance 85 [some (.ref m), some (.int (nI n))] [] (hp (mo5 I2 m o (itf (fun i s => if s.2.2.2.1 i = 1 then movS (losC I2 t lenL (o 4)) (goC I2 t lenG) (I2 (t + 12)) (I2 (m + 5)) (I2 (m + 4)) (I2 (m + 3)) (I2 (m + 12)) (o 2) i s else s) k i s)) J' R) := by
    intro I2 o ho hok
    refine for_j (P := fun i (s : S5) (J : MemL) => E (C (d + 3)) MX4_advance 56 [some (.ref m), some (.int (nI i))] [] (hp (mo5 I2 m o s) J R)) (F := fun (s : S5) (J' : MemL) => E (C (d + 3)) MX4_advance 85 [some (.ref m), some (.int (nI n))] [] (hp (mo5 I2 m o s) J' R)) (n := n) ?_ ?_
    · intro i s J hi
      obtain ⟨ph, sw, ct, sa, kk⟩ := s
      have c0 : ¬ n ≤ i := by omega
      by_cases z : sa i = 1
      · obtain ⟨J', e⟩ := mov_spec (d := d) (I := I2) (J := J) (R := R) (o := upd o 18 kk) (ph := ph) (sw := sw) (ct := ct) (sa := sa) hm ht hR (show i < 6 by omega) hok
        refine ⟨J', ?_⟩
        rw [pk_un (show (4 : Nat) ≠ 18 by decide), pk_un (show (2 : Nat) ≠ 18 by decide), pk_us] at e
        unfold mo5 at e ⊢
        dsimp only at e ⊢
        rw [uu] at e
        rw [xX4_advance_56, if_pos z]
        simp (disch := omega) only [xX4_advance_57, xX4_advance_58, xX4_advance_61, xX4_advance_64, xX4_advance_65, xX4_advance_68, xX4_advance_69, xX4_advance_70, xX4_advance_71, xX4_advance_74, xX4_advance_75, xX4_advance_76, xX4_advance_79, xX4_advance_82, mo_k0 hm, mo_f0_10 hm, mo_k6 hm, mo_n6 hm, mo_f0_14 hm, mo_k10 hm, mo_n10 hm, ↓reduceIte, gd_t, hK_p, hN_p, hF_p, hI_p, hJ_p, hR_p, stI_p, stJ_p, stR_p, stA_p, va_rf_s, va_rf_n, clr_i, clr_l, clr_r, clr_n, clr_o, w8_0, w8_1i, w8_1r, w8_2ii, w8_2ri, w8_2ir, w8_2rr, w8_3, beq_self_eq_true, Bool.and_self, Bool.and_true, Bool.true_and, decide_true, Option.toList_some, Option.toList_none, List.cons_append, List.nil_append, Option.bind_some, if_true, if_false, Nat.reduceLeDiff, Nat.reduceLT, Nat.reduceBEq, Bool.or_false, Bool.false_or, Bool.or_true, Bool.true_or, nI_leI, nI_ltI, nI_eq, nI_clamp, inb_n, up_s, up_n, bx_uu, nI_1, ix6, nI_0n, pk_us, pk_un, ge_0n, moM_0, moM_7, moM_8, moM_9, moM_10, moM_o, ho, c0, z, e, not_true_eq_false]
      · refine ⟨J, ?_⟩
        rw [if_neg z]
        unfold mo5
        dsimp only
        rw [xX4_advance_56]
        simp (disch := omega) only [xX4_advance_57, xX4_advance_58, xX4_advance_61, xX4_advance_64, xX4_advance_65, xX4_advance_68, xX4_advance_69, xX4_advance_70, xX4_advance_71, xX4_advance_74, xX4_advance_75, xX4_advance_76, xX4_advance_79, xX4_advance_82, mo_k0 hm, mo_f0_10 hm, mo_k6 hm, mo_n6 hm, mo_f0_14 hm, mo_k10 hm, mo_n10 hm, ↓reduceIte, gd_t, hK_p, hN_p, hF_p, hI_p, hJ_p, hR_p, stI_p, stJ_p, stR_p, stA_p, va_rf_s, va_rf_n, clr_i, clr_l, clr_r, clr_n, clr_o, w8_0, w8_1i, w8_1r, w8_2ii, w8_2ri, w8_2ir, w8_2rr, w8_3, beq_self_eq_true, Bool.and_self, Bool.and_true, Bool.true_and, decide_true, Option.toList_some, Option.toList_none, List.cons_append, List.nil_append, Option.bind_some, if_true, if_false, Nat.reduceLeDiff, Nat.reduceLT, Nat.reduceBEq, Bool.or_false, Bool.false_or, Bool.or_true, Bool.true_or, nI_leI, nI_ltI, nI_eq, nI_clamp, inb_n, up_s, up_n, bx_uu, nI_1, ix6, nI_0n, pk_us, pk_un, ge_0n, moM_0, moM_7, moM_8, moM_9, moM_10, moM_o, ho, c0, z, not_false_eq_true]
    · intro s J
      refine ⟨J, ?_⟩
      have c0 : n ≤ n := Nat.le_refl n
      unfold mo5
      rw [xX4_advance_56]
      simp (disch := omega) only [xX4_advance_57, xX4_advance_58, xX4_advance_61, xX4_advance_64, xX4_advance_65, xX4_advance_68, xX4_advance_69, xX4_advance_70, xX4_advance_71, xX4_advance_74, xX4_advance_75, xX4_advance_76, xX4_advance_79, xX4_advance_82, mo_k0 hm, mo_f0_10 hm, mo_k6 hm, mo_n6 hm, mo_f0_14 hm, mo_k10 hm, mo_n10 hm, ↓reduceIte, gd_t, hK_p, hN_p, hF_p, hI_p, hJ_p, hR_p, stI_p, stJ_p, stR_p, stA_p, va_rf_s, va_rf_n, clr_i, clr_l, clr_r, clr_n, clr_o, w8_0, w8_1i, w8_1r, w8_2ii, w8_2ri, w8_2ir, w8_2rr, w8_3, beq_self_eq_true, Bool.and_self, Bool.and_true, Bool.true_and, decide_true, Option.toList_some, Option.toList_none, List.cons_append, List.nil_append, Option.bind_some, if_true, if_false, Nat.reduceLeDiff, Nat.reduceLT, Nat.reduceBEq, Bool.or_false, Bool.false_or, Bool.or_true, Bool.true_or, nI_leI, nI_ltI, nI_eq, nI_clamp, inb_n, up_s, up_n, bx_uu, nI_1, ix6, nI_0n, pk_us, pk_un, ge_0n, moM_0, ho, c0]
  have h2 := h1 (I (m + 10))
  rw [up_self] at h2
  have hwei := wei_spec (d := d + 1) (I := va_up I (m + 10) (staF n (I m 2) (I (m + 6)) (I (m + 10)))) (J := J) (R := R) hm (by rw [up_n (by omega)]; exact hn) hn6
  rw [up_s, up_n (by omega), up_n (by omega), up_n (by omega)] at hwei
  have hokI : okL (va_up I (m + 12) (advP I m n)) t lenL lenG := by
    unfold okL at hw ⊢
    simp (disch := omega) only [up_n]
    exact hw
  obtain ⟨J', hq⟩ := hgo (va_up I (m + 12) (advP I m n)) (upd (I m) 18 0) (by rw [pk_un (by decide)]; exact hn) hokI n 0 (I (m + 7), I (m + 8), I (m + 9), staF n (I m 2) (I (m + 6)) (I (m + 10)), 0) J (by omega)
  refine ⟨J', ?_⟩
  have hmem : mo5 (va_up I (m + 12) (advP I m n)) m (upd (I m) 18 0) (I (m + 7), I (m + 8), I (m + 9), staF n (I m 2) (I (m + 6)) (I (m + 10)), 0) = va_up (va_up (va_up I (m + 10) (staF n (I m 2) (I (m + 6)) (I (m + 10)))) (m + 12) (advP I m n)) m (upd (I m) 18 0) := by
    unfold mo5
    dsimp only
    rw [uu]
    funext a
    unfold moM va_up
    repeat' split
    all_goals first | rfl | omega | (subst_vars; rfl)
  rw [hmem] at hq
  rw [eX4_advance]
  simp only [xX4_advance_0, xX4_advance_1, clr_r]
  rw [← nI_0, h2]
  have hst : weiF n (staF n (I m 2) (I (m + 6)) (I (m + 10))) (I (m + 7)) (I (m + 11)) (I (m + 12)) = advP I m n := rfl
  rw [hst] at hwei
  simp (disch := omega) only [xX4_advance_45, xX4_advance_46, xX4_advance_49, xX4_advance_50, xX4_advance_51, xX4_advance_54, xX4_advance_55, mo_k0 hm, mo_f0_10 hm, mo_k6 hm, mo_n6 hm, mo_f0_14 hm, mo_k10 hm, mo_n10 hm, ↓reduceIte, gd_t, hK_p, hN_p, hF_p, hI_p, hJ_p, hR_p, stI_p, stJ_p, stR_p, stA_p, va_rf_s, va_rf_n, clr_i, clr_l, clr_r, clr_n, clr_o, w8_0, w8_1i, w8_1r, w8_2ii, w8_2ri, w8_2ir, w8_2rr, w8_3, beq_self_eq_true, Bool.and_self, Bool.and_true, Bool.true_and, decide_true, Option.toList_some, Option.toList_none, List.cons_append, List.nil_append, Option.bind_some, if_true, if_false, Nat.reduceLeDiff, Nat.reduceLT, Nat.reduceBEq, Bool.or_false, Bool.false_or, Bool.or_true, Bool.true_or, nI_leI, nI_ltI, nI_eq, nI_clamp, inb_n, up_s, up_n, bx_uu, nI_1, ix6, nI_0n, pk_us, pk_un, ge_0n, hwei]
  have hl : losC (va_up I (m + 12) (advP I m n)) t lenL (I m 4) = losC I t lenL (I m 4) := by
    funext nm
    unfold losC
    simp (disch := omega) only [up_n]
  have hg : goC (va_up I (m + 12) (advP I m n)) t lenG = goC I t lenG := by
    funext nm sp
    unfold goC
    simp (disch := omega) only [up_n]
  rw [nI_0] at hq
  rw [hq]
  have e4 : upd (I m) 18 0 4 = I m 4 := pk_un (by decide)
  have e2 : upd (I m) 18 0 2 = I m 2 := pk_un (by decide)
  rw [e4, e2, hl, hg, up_s, up_n (show t + 12 ≠ m + 12 by omega), up_n (show m + 5 ≠ m + 12 by omega), up_n (show m + 4 ≠ m + 12 by omega), up_n (show m + 3 ≠ m + 12 by omega)]
  have hs : itf (fun i s => if s.2.2.2.1 i = 1 then movS (losC I t lenL (I m 4)) (goC I t lenG) (I (t + 12)) (I (m + 5)) (I (m + 4)) (I (m + 3)) (advP I m n) (I m 2) i s else s) n 0 (I (m + 7), I (m + 8), I (m + 9), staF n (I m 2) (I (m + 6)) (I (m + 10)), 0) = advS I m t n lenL lenG := rfl
  rw [hs]
  unfold advM
  generalize advS I m t n lenL lenG = s
  generalize advP I m n = pu
  obtain ⟨ph, sw, ct, sa, kk⟩ := s
  unfold mo5
  dsimp only
  rw [uu]
  have e3 : upd (I m) 18 kk 2 = I m 2 := pk_un (by decide)
  simp (disch := omega) only [xX4_advance_85, xX4_advance_86, xX4_advance_86I, xX4_advance_87, xX4_advance_90, xX4_advance_91, xX4_advance_92, xX4_advance_95, mo_k0 hm, mo_f0_10 hm, mo_k6 hm, mo_n6 hm, mo_f0_14 hm, mo_k10 hm, mo_n10 hm, ↓reduceIte, gd_t, hK_p, hN_p, hF_p, hI_p, hJ_p, hR_p, stI_p, stJ_p, stR_p, stA_p, va_rf_s, va_rf_n, clr_i, clr_l, clr_r, clr_n, clr_o, w8_0, w8_1i, w8_1r, w8_2ii, w8_2ri, w8_2ir, w8_2rr, w8_3, beq_self_eq_true, Bool.and_self, Bool.and_true, Bool.true_and, decide_true, Option.toList_some, Option.toList_none, List.cons_append, List.nil_append, Option.bind_some, if_true, if_false, Nat.reduceLeDiff, Nat.reduceLT, Nat.reduceBEq, Bool.or_false, Bool.false_or, Bool.or_true, Bool.true_or, nI_leI, nI_ltI, nI_eq, nI_clamp, inb_n, up_s, up_n, bx_uu, nI_1, ix6, nI_0n, pk_us, pk_un, ge_0n, moM_0, moM_w0, e3]

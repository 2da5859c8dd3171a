-- MOTION, 4: one clock moves
def moM (I : Mem) (m : Nat) (o ph sw ct sa : Nat → Int32) : Mem := fun a => if a = m then o else if a = m + 7 then ph else if a = m + 8 then sw else if a = m + 9 then ct else if a = m + 10 then sa else I a
section MOM
variable {I : Mem} {m a : Nat} {o ph sw ct sa r : Nat → Int32}
theorem moM_0 : moM I m o ph sw ct sa m = o := by simp [moM]
theorem moM_7 : moM I m o ph sw ct sa (m + 7) = ph := by simp [moM]
theorem moM_8 : moM I m o ph sw ct sa (m + 8) = sw := by simp [moM]
theorem moM_9 : moM I m o ph sw ct sa (m + 9) = ct := by simp [moM]
theorem moM_10 : moM I m o ph sw ct sa (m + 10) = sa := by simp [moM]
theorem moM_o (h0 : a ≠ m) (h7 : a ≠ m + 7) (h8 : a ≠ m + 8) (h9 : a ≠ m + 9) (h10 : a ≠ m + 10) : moM I m o ph sw ct sa a = I a := by simp [moM, h0, h7, h8, h9, h10]
theorem moM_w0 : va_up (moM I m o ph sw ct sa) m r = moM I m r ph sw ct sa := by
  funext a
  by_cases h : a = m
  · subst h; rw [up_s, moM_0]
  · rw [up_n h]; simp [moM, h]
theorem moM_w7 : va_up (moM I m o ph sw ct sa) (m + 7) r = moM I m o r sw ct sa := by
  funext a
  by_cases h : a = m + 7
  · subst h; rw [up_s, moM_7]
  · rw [up_n h]; simp [moM, h]
theorem moM_w8 : va_up (moM I m o ph sw ct sa) (m + 8) r = moM I m o ph r ct sa := by
  funext a
  by_cases h : a = m + 8
  · subst h; rw [up_s, moM_8]
  · rw [up_n h]; simp [moM, h]
theorem moM_w9 : va_up (moM I m o ph sw ct sa) (m + 9) r = moM I m o ph sw r sa := by
  funext a
  by_cases h : a = m + 9
  · subst h; rw [up_s, moM_9]
  · rw [up_n h]; simp [moM, h]
theorem moM_w10 : va_up (moM I m o ph sw ct sa) (m + 10) r = moM I m o ph sw ct r := by
  funext a
  by_cases h : a = m + 10
  · subst h; rw [up_s, moM_10]
  · rw [up_n h]; simp [moM, h]
theorem moM_self : moM I m (I m) (I (m + 7)) (I (m + 8)) (I (m + 9)) (I (m + 10)) = I := by
  funext a
  unfold moM
  repeat' split
  all_goals first | rfl | (subst_vars; rfl)
end MOM
theorem w8_4 {u v w x : Value} : w8 [u, v, w, x] = true := by
  have h1 : ∀ v : Value, v.category ≤ 2 := fun v => by rcases lv_cat v with q | q <;> omega
  have := h1 u
  have := h1 v
  have := h1 w
  have := h1 x
  unfold w8
  simp only [List.map_cons, List.map_nil, List.sum_cons, List.sum_nil]
  exact decide_eq_true (by omega)
theorem uu {f : Nat → Int32} {k : Nat} {v w : Int32} : upd (upd f k v) k w = upd f k w := by
  funext j
  by_cases h : j = k
  · subst h; rw [pk_us, pk_us]
  · rw [pk_un h, pk_un h, pk_un h]
def nmr (r : Nat → Int64) (x0 x1 x2 x3 x4 x5 x6 : Int32) : Nat → Int64 := vp_updL (vp_updL (vp_updL (vp_updL (vp_updL (vp_updL (vp_updL r 0 x0.toInt64) 1 x1.toInt64) 2 x2.toInt64) 3 x3.toInt64) 4 x4.toInt64) 5 x5.toInt64) 6 x6.toInt64
def namF (x0 x1 x2 x3 x4 x5 x6 : Int32) : Nat → Int64 := fun k => if k = 0 then x0.toInt64 else if k = 1 then x1.toInt64 else if k = 2 then x2.toInt64 else if k = 3 then x3.toInt64 else if k = 4 then x4.toInt64 else if k = 5 then x5.toInt64 else x6.toInt64
theorem nmr_at {r : Nat → Int64} {x0 x1 x2 x3 x4 x5 x6 : Int32} : ∀ j, j < 7 → nmr r x0 x1 x2 x3 x4 x5 x6 j = namF x0 x1 x2 x3 x4 x5 x6 j := by
  intro j hj
  rcases (show j = 0 ∨ j = 1 ∨ j = 2 ∨ j = 3 ∨ j = 4 ∨ j = 5 ∨ j = 6 by omega) with rfl | rfl | rfl | rfl | rfl | rfl | rfl <;> simp [nmr, namF, vp_updL]
theorem nmr_sw {r : Nat → Int64} {x0 x1 x2 x3 x4 x5 x6 y : Int32} : ∀ j, j < 7 → vp_updL (nmr r x0 x1 x2 x3 x4 x5 x6) 1 y.toInt64 j = namF x0 y x2 x3 x4 x5 x6 j := by
  intro j hj
  rcases (show j = 0 ∨ j = 1 ∨ j = 2 ∨ j = 3 ∨ j = 4 ∨ j = 5 ∨ j = 6 by omega) with rfl | rfl | rfl | rfl | rfl | rfl | rfl <;> simp [nmr, namF, vp_updL]
theorem il_0 : inb 0 7 = true := rfl
theorem il_1 : inb 1 7 = true := rfl
theorem il_2 : inb 2 7 = true := rfl
theorem il_3 : inb 3 7 = true := rfl
theorem il_4 : inb 4 7 = true := rfl
theorem il_5 : inb 5 7 = true := rfl
theorem il_6 : inb 6 7 = true := rfl
theorem cl_1 : (1 : Int32).toNatClampNeg = 1 := rfl
theorem cl_2 : (2 : Int32).toNatClampNeg = 2 := rfl
theorem cl_3 : (3 : Int32).toNatClampNeg = 3 := rfl
theorem cl_4 : (4 : Int32).toNatClampNeg = 4 := rfl
theorem cl_5 : (5 : Int32).toNatClampNeg = 5 := rfl
theorem cl_6 : (6 : Int32).toNatClampNeg = 6 := rfl
theorem lw_te {t : Nat} (h : isTe t) : isLw (t + 19) ∧ isLw (t + 23) := by
  rcases h with rfl | rfl
  · exact ⟨Or.inl rfl, Or.inr (Or.inl rfl)⟩
  · exact ⟨Or.inr (Or.inr (Or.inl rfl)), Or.inr (Or.inr (Or.inr rfl))⟩
abbrev S5 : Type := (Nat → Int32) × (Nat → Int32) × (Nat → Int32) × (Nat → Int32) × Int32
/-- one clock goes (phases, swings, counts, states, who struck) -/
def movS (lose : (Nat → Int64) → Int32) (go : (Nat → Int64) → Int32 → Int32) (dr sp we pl pu : Nat → Int32) (t : Int32) (i : Nat) (s : S5) : S5 :=
  match s with
  | (ph, sw, ct, sa, k) =>
    if btwF 0 (sw i + dr i - lose (namF (sp i) (sw i) (pu i / 1000) (we i) (pl i) t (ct i))) 999 = 0 then (ph, upd sw i 0, ct, upd sa i 2, k)
    else if ph i + btwF 0 (go (namF (sp i) (btwF 0 (sw i + dr i - lose (namF (sp i) (sw i) (pu i / 1000) (we i) (pl i) t (ct i))) 999) (pu i / 1000) (we i) (pl i) t (ct i)) (sp i) + (if 1000 * we i = 0 then 0 else pu i / (1000 * we i))) 499 < 1000
      then (upd ph i (ph i + btwF 0 (go (namF (sp i) (btwF 0 (sw i + dr i - lose (namF (sp i) (sw i) (pu i / 1000) (we i) (pl i) t (ct i))) 999) (pu i / 1000) (we i) (pl i) t (ct i)) (sp i) + (if 1000 * we i = 0 then 0 else pu i / (1000 * we i))) 499), upd sw i (btwF 0 (sw i + dr i - lose (namF (sp i) (sw i) (pu i / 1000) (we i) (pl i) t (ct i))) 999), ct, sa, k)
      else (upd ph i (ph i + btwF 0 (go (namF (sp i) (btwF 0 (sw i + dr i - lose (namF (sp i) (sw i) (pu i / 1000) (we i) (pl i) t (ct i))) 999) (pu i / 1000) (we i) (pl i) t (ct i)) (sp i) + (if 1000 * we i = 0 then 0 else pu i / (1000 * we i))) 499 - 1000), upd sw i (btwF 0 (sw i + dr i - lose (namF (sp i) (sw i) (pu i / 1000) (we i) (pl i) t (ct i))) 999), upd ct i (ct i + 1), sa, k ||| 1 <<< (nI i &&& 31))
def losC (I : Mem) (t lenL : Nat) (ll : Int32) (nm : Nat → Int64) : Int32 := if ll = 0 then lawF (I (t + 19) 0) (I (t + 20)) (I (t + 21)) nm lenL 999 0 else 0
def goC (I : Mem) (t lenG : Nat) (nm : Nat → Int64) (sp : Int32) : Int32 := lawF (I (t + 23) 0) (I (t + 24)) (I (t + 25)) nm lenG 99 sp
/-- the laws of a telling are well-formed -/
def okL (I : Mem) (t lenL lenG : Nat) : Prop := I (t + 19) 1 = nI lenL ∧ lenL ≤ 64 ∧ (I (t + 19) 0 = 0 ∨ wfP (I (t + 20)) lenL) ∧ I (t + 23) 1 = nI lenG ∧ lenG ≤ 64 ∧ (I (t + 23) 0 = 0 ∨ wfP (I (t + 24)) lenG)
theorem mov_a {d m t i lenL lenG : Nat} {I : Mem} {J : MemL} {R : MemR} {o ph sw ct sa : Nat → Int32} (hm : isMo m) (ht : isTe t) (hR : R m 0 = some t) (hi : i < 6) (hw : okL I t lenL lenG) :
    ∃ J', E (C (d + 2)) MX4_move 0 [some (.ref m), some (.int (nI i)), none, none, none] [] (hp (moM I m o ph sw ct sa) J R) =
      E (C (d + 2)) MX4_move 123 [some (.ref m), some (.int (nI i)), none, none, none] [.int (losC I t lenL (o 4) (namF (I (m + 5) i) (sw i) (I (m + 12) i / 1000) (I (m + 4) i) (I (m + 3) i) (o 2) (ct i)))] (hp (moM I m o ph sw ct sa) J' R)
      ∧ J' (m + 13) = nmr (J (m + 13)) (I (m + 5) i) (sw i) (I (m + 12) i / 1000) (I (m + 4) i) (I (m + 3) i) (o 2) (ct i) := by
  have hm2 := mo_lo hm
  have ht2 := te_hi ht
  obtain ⟨l1, l2, l3, g1, g2, g3⟩ := hw
  have hlw := (lw_te ht).1
  have k1 : ¬ (1000 : Int32) = 0 := by decide
  by_cases z : o 4 = 0
  · obtain ⟨S1, e1⟩ := wor_spec (d := d) (a := t + 19) (q := m + 13) (most := 999) (oth := 0) (len := lenL) (I := moM I m o ph sw ct sa) (J := va_up J (m + 13) (nmr (J (m + 13)) (I (m + 5) i) (sw i) (I (m + 12) i / 1000) (I (m + 4) i) (I (m + 3) i) (o 2) (ct i))) (R := R) hlw (mo_k13 hm) (mo_n13 hm) (by omega) (by rw [moM_o (by omega) (by omega) (by omega) (by omega) (by omega)]; exact l1) l2
    rw [moM_o (by omega) (by omega) (by omega) (by omega) (by omega), moM_o (by omega) (by omega) (by omega) (by omega) (by omega), moM_o (by omega) (by omega) (by omega) (by omega) (by omega), up_s, wor_law nmr_at l3] at e1
    refine ⟨va_up (va_up J (m + 13) (nmr (J (m + 13)) (I (m + 5) i) (sw i) (I (m + 12) i / 1000) (I (m + 4) i) (I (m + 3) i) (o 2) (ct i))) (t + 19 + 3) S1, ?_, ?_⟩
    · unfold losC
      unfold nmr at e1
      rw [if_pos z]
      simp (disch := omega) only [xX4_move_0, xX4_move_1, xX4_move_4, xX4_move_5, xX4_move_6, xX4_move_9, xX4_move_10, xX4_move_11, xX4_move_12, xX4_move_13, xX4_move_14, xX4_move_17, xX4_move_18, xX4_move_19, xX4_move_22, xX4_move_23, xX4_move_24, xX4_move_25, xX4_move_26, xX4_move_27, xX4_move_30, xX4_move_31, xX4_move_32, xX4_move_35, xX4_move_36, xX4_move_37, xX4_move_40, xX4_move_41, xX4_move_42, xX4_move_43, xX4_move_44, xX4_move_47, xX4_move_48, xX4_move_49, xX4_move_52, xX4_move_53, xX4_move_54, xX4_move_55, xX4_move_56, xX4_move_57, xX4_move_60, xX4_move_61, xX4_move_62, xX4_move_65, xX4_move_66, xX4_move_67, xX4_move_68, xX4_move_69, xX4_move_70, xX4_move_73, xX4_move_74, xX4_move_75, xX4_move_78, xX4_move_79, xX4_move_80, xX4_move_81, xX4_move_84, xX4_move_86, xX4_move_87, xX4_move_90, xX4_move_91, xX4_move_92, xX4_move_93, xX4_move_94, xX4_move_95, xX4_move_98, xX4_move_101, xX4_move_102, xX4_move_105, xX4_move_106, xX4_move_109, xX4_move_112, xX4_move_113, xX4_move_116, xX4_move_119, xX4_move_120, mo_k0 hm, mo_f0_7 hm, mo_k3 hm, mo_n3 hm, mo_f0_8 hm, mo_k4 hm, mo_n4 hm, mo_f0_9 hm, mo_k5 hm, mo_n5 hm, mo_f0_11 hm, mo_k7 hm, mo_n7 hm, mo_f0_12 hm, mo_k8 hm, mo_n8 hm, mo_f0_13 hm, mo_k9 hm, mo_n9 hm, mo_f0_14 hm, mo_k10 hm, mo_n10 hm, mo_f0_16 hm, mo_k12 hm, mo_n12 hm, mo_f0_17 hm, mo_k13 hm, mo_n13 hm, te_k0 ht, te_f0_9 ht, te_k12 ht, te_n12 ht, te_f0_16 ht, te_k19 ht, te_f0_17 ht, te_k23 ht, ↓reduceIte, gd_t, hK_p, hN_p, hF_p, hI_p, hJ_p, hR_p, stI_p, stJ_p, stR_p, stA_p, va_rf_s, va_rf_n, clr_i, clr_l, clr_r, clr_n, clr_o, w8_0, w8_1i, w8_1r, w8_2ii, w8_2ri, w8_2ir, w8_2rr, w8_3, beq_self_eq_true, Bool.and_self, Bool.and_true, Bool.true_and, decide_true, Option.toList_some, Option.toList_none, List.cons_append, List.nil_append, Option.bind_some, if_true, if_false, Nat.reduceLeDiff, Nat.reduceLT, Nat.reduceBEq, Bool.or_false, Bool.false_or, Bool.or_true, Bool.true_or, nI_leI, nI_ltI, nI_eq, nI_clamp, inb_n, up_s, up_n, bx_uu, nI_1, ix6, nI_0n, pk_us, pk_un, ge_0n, moM_0, moM_7, moM_8, moM_9, moM_10, moM_o, il_0, il_1, il_2, il_3, il_4, il_5, il_6, sb_cl0, cl_1, cl_2, cl_3, cl_4, cl_5, cl_6, k1, decide_false, Bool.not_false, z, hR, e1]
      rfl
    · rw [up_n (by omega), up_s]
  · refine ⟨va_up J (m + 13) (nmr (J (m + 13)) (I (m + 5) i) (sw i) (I (m + 12) i / 1000) (I (m + 4) i) (I (m + 3) i) (o 2) (ct i)), ?_, up_s _ _ _⟩
    unfold losC
    rw [if_neg z]
    simp (disch := omega) only [xX4_move_0, xX4_move_1, xX4_move_4, xX4_move_5, xX4_move_6, xX4_move_9, xX4_move_10, xX4_move_11, xX4_move_12, xX4_move_13, xX4_move_14, xX4_move_17, xX4_move_18, xX4_move_19, xX4_move_22, xX4_move_23, xX4_move_24, xX4_move_25, xX4_move_26, xX4_move_27, xX4_move_30, xX4_move_31, xX4_move_32, xX4_move_35, xX4_move_36, xX4_move_37, xX4_move_40, xX4_move_41, xX4_move_42, xX4_move_43, xX4_move_44, xX4_move_47, xX4_move_48, xX4_move_49, xX4_move_52, xX4_move_53, xX4_move_54, xX4_move_55, xX4_move_56, xX4_move_57, xX4_move_60, xX4_move_61, xX4_move_62, xX4_move_65, xX4_move_66, xX4_move_67, xX4_move_68, xX4_move_69, xX4_move_70, xX4_move_73, xX4_move_74, xX4_move_75, xX4_move_78, xX4_move_79, xX4_move_80, xX4_move_81, xX4_move_84, xX4_move_86, xX4_move_87, xX4_move_90, xX4_move_91, xX4_move_92, xX4_move_93, xX4_move_94, xX4_move_95, xX4_move_98, xX4_move_101, xX4_move_102, xX4_move_105, xX4_move_106, xX4_move_109, xX4_move_112, xX4_move_113, xX4_move_116, xX4_move_119, xX4_move_120, mo_k0 hm, mo_f0_7 hm, mo_k3 hm, mo_n3 hm, mo_f0_8 hm, mo_k4 hm, mo_n4 hm, mo_f0_9 hm, mo_k5 hm, mo_n5 hm, mo_f0_11 hm, mo_k7 hm, mo_n7 hm, mo_f0_12 hm, mo_k8 hm, mo_n8 hm, mo_f0_13 hm, mo_k9 hm, mo_n9 hm, mo_f0_14 hm, mo_k10 hm, mo_n10 hm, mo_f0_16 hm, mo_k12 hm, mo_n12 hm, mo_f0_17 hm, mo_k13 hm, mo_n13 hm, te_k0 ht, te_f0_9 ht, te_k12 ht, te_n12 ht, te_f0_16 ht, te_k19 ht, te_f0_17 ht, te_k23 ht, ↓reduceIte, gd_t, hK_p, hN_p, hF_p, hI_p, hJ_p, hR_p, stI_p, stJ_p, stR_p, stA_p, va_rf_s, va_rf_n, clr_i, clr_l, clr_r, clr_n, clr_o, w8_0, w8_1i, w8_1r, w8_2ii, w8_2ri, w8_2ir, w8_2rr, w8_3, beq_self_eq_true, Bool.and_self, Bool.and_true, Bool.true_and, decide_true, Option.toList_some, Option.toList_none, List.cons_append, List.nil_append, Option.bind_some, if_true, if_false, Nat.reduceLeDiff, Nat.reduceLT, Nat.reduceBEq, Bool.or_false, Bool.false_or, Bool.or_true, Bool.true_or, nI_leI, nI_ltI, nI_eq, nI_clamp, inb_n, up_s, up_n, bx_uu, nI_1, ix6, nI_0n, pk_us, pk_un, ge_0n, moM_0, moM_7, moM_8, moM_9, moM_10, moM_o, il_0, il_1, il_2, il_3, il_4, il_5, il_6, sb_cl0, cl_1, cl_2, cl_3, cl_4, cl_5, cl_6, k1, decide_false, Bool.not_false, z, hR]
    rfl
/-- the motion's part of a memory -/
def mo5 (I : Mem) (m : Nat) (o : Nat → Int32) (s : S5) : Mem := moM I m (upd o 18 s.2.2.2.2) s.1 s.2.1 s.2.2.1 s.2.2.2.1
theorem mov_spec {d m t i lenL lenG : Nat} {I : Mem} {J : MemL} {R : MemR} {o ph sw ct sa : Nat → Int32} (hm : isMo m) (ht : isTe t) (hR : R m 0 = some t) (hi : i < 6) (hw : okL I t lenL lenG) :
    ∃ J', C (d + 3) MX4_move [.ref m, .int (nI i)] (hp (moM I m o ph sw ct sa) J R) =
      some (none, hp (mo5 I m o (movS (losC I t lenL (o 4)) (goC I t lenG) (I (t + 12)) (I (m + 5)) (I (m + 4)) (I (m + 3)) (I (m + 12)) (o 2) i (ph, sw, ct, sa, o 18))) J' R) := by
  have hm2 := mo_lo hm
  have ht2 := te_hi ht
  obtain ⟨J1, e1, e2⟩ := mov_a (d := d) (J := J) (R := R) (o := o) (ph := ph) (sw := sw) (ct := ct) (sa := sa) hm ht hR hi hw
  obtain ⟨l1, l2, l3, g1, g2, g3⟩ := hw
  have hlw := (lw_te ht).2
  rw [eX4_move, e1]
  unfold movS mo5
  dsimp only
  generalize hx : btwF 0 (sw i + I (t + 12) i - losC I t lenL (o 4) (namF (I (m + 5) i) (sw i) (I (m + 12) i / 1000) (I (m + 4) i) (I (m + 3) i) (o 2) (ct i))) 999 = x
  have hself : upd o 18 (o 18) = o := by
    funext k
    by_cases h : k = 18
    · rw [h, pk_us]
    · rw [pk_un h]
  by_cases z : x = 0
  · subst z
    refine ⟨J1, ?_⟩
    rw [if_pos rfl]
    dsimp only
    simp (disch := omega) only [xX4_move_123, xX4_move_124, xX4_move_125, xX4_move_128, xX4_move_129, xX4_move_130, xX4_move_131, xX4_move_134, xX4_move_135, xX4_move_136, xX4_move_137, xX4_move_140, xX4_move_143, xX4_move_144, xX4_move_145, xX4_move_146, xX4_move_147, xX4_move_148, xX4_move_151, xX4_move_154, xX4_move_155, xX4_move_156, xX4_move_159, xX4_move_160, xX4_move_161, xX4_move_164, xX4_move_165, xX4_move_168, xX4_move_169, xX4_move_170, xX4_move_171, mo_k0 hm, mo_f0_7 hm, mo_k3 hm, mo_n3 hm, mo_f0_8 hm, mo_k4 hm, mo_n4 hm, mo_f0_9 hm, mo_k5 hm, mo_n5 hm, mo_f0_11 hm, mo_k7 hm, mo_n7 hm, mo_f0_12 hm, mo_k8 hm, mo_n8 hm, mo_f0_13 hm, mo_k9 hm, mo_n9 hm, mo_f0_14 hm, mo_k10 hm, mo_n10 hm, mo_f0_16 hm, mo_k12 hm, mo_n12 hm, mo_f0_17 hm, mo_k13 hm, mo_n13 hm, te_k0 ht, te_f0_9 ht, te_k12 ht, te_n12 ht, te_f0_16 ht, te_k19 ht, te_f0_17 ht, te_k23 ht, ↓reduceIte, gd_t, hK_p, hN_p, hF_p, hI_p, hJ_p, hR_p, stI_p, stJ_p, stR_p, stA_p, va_rf_s, va_rf_n, clr_i, clr_l, clr_r, clr_n, clr_o, w8_0, w8_1i, w8_1r, w8_2ii, w8_2ri, w8_2ir, w8_2rr, w8_3, beq_self_eq_true, Bool.and_self, Bool.and_true, Bool.true_and, decide_true, Option.toList_some, Option.toList_none, List.cons_append, List.nil_append, Option.bind_some, if_true, if_false, Nat.reduceLeDiff, Nat.reduceLT, Nat.reduceBEq, Bool.or_false, Bool.false_or, Bool.or_true, Bool.true_or, nI_leI, nI_ltI, nI_eq, nI_clamp, inb_n, up_s, up_n, bx_uu, nI_1, ix6, nI_0n, pk_us, pk_un, ge_0n, moM_0, moM_7, moM_8, moM_9, moM_10, moM_o, moM_w0, moM_w7, moM_w8, moM_w9, moM_w10, uu, pk_us, sb_cl0, cl_1, il_1, hR, btw_spec, hx, hself, not_true_eq_false]
  · have hwo := wor_spec (d := d) (a := t + 23) (q := m + 13) (most := 99) (oth := I (m + 5) i) (len := lenG) (I := moM I m o ph (upd sw i x) ct sa) (J := va_up J1 (m + 13) (vp_updL (nmr (J (m + 13)) (I (m + 5) i) (sw i) (I (m + 12) i / 1000) (I (m + 4) i) (I (m + 3) i) (o 2) (ct i)) 1 x.toInt64)) (R := R) hlw (mo_k13 hm) (mo_n13 hm) (by omega) (by rw [moM_o (by omega) (by omega) (by omega) (by omega) (by omega)]; exact g1) g2
    obtain ⟨S2, e3⟩ := hwo
    rw [moM_o (by omega) (by omega) (by omega) (by omega) (by omega), moM_o (by omega) (by omega) (by omega) (by omega) (by omega), moM_o (by omega) (by omega) (by omega) (by omega) (by omega), up_s, wor_law nmr_sw g3] at e3
    refine ⟨va_up (va_up J1 (m + 13) (vp_updL (nmr (J (m + 13)) (I (m + 5) i) (sw i) (I (m + 12) i / 1000) (I (m + 4) i) (I (m + 3) i) (o 2) (ct i)) 1 x.toInt64)) (t + 23 + 3) S2, ?_⟩
    rw [if_neg z]
    unfold goC
    by_cases y : 1000 * I (m + 4) i = 0
    · by_cases w : ph i + btwF 0 (lawF (I (t + 23) 0) (I (t + 24)) (I (t + 25)) (namF (I (m + 5) i) x (I (m + 12) i / 1000) (I (m + 4) i) (I (m + 3) i) (o 2) (ct i)) lenG 99 (I (m + 5) i) + 0) 499 < 1000
      · simp (disch := omega) only [xX4_move_123, xX4_move_124, xX4_move_125, xX4_move_128, xX4_move_129, xX4_move_130, xX4_move_131, xX4_move_134, xX4_move_135, xX4_move_136, xX4_move_137, xX4_move_140, xX4_move_143, xX4_move_144, xX4_move_145, xX4_move_146, xX4_move_147, xX4_move_148, xX4_move_151, xX4_move_154, xX4_move_155, xX4_move_156, xX4_move_159, xX4_move_160, xX4_move_161, xX4_move_164, xX4_move_165, xX4_move_168, xX4_move_169, xX4_move_170, xX4_move_171, xX4_move_172, xX4_move_173, xX4_move_176, xX4_move_177, xX4_move_178, xX4_move_181, xX4_move_182, xX4_move_183, xX4_move_184, xX4_move_185, xX4_move_188, xX4_move_189, xX4_move_192, xX4_move_193, xX4_move_194, xX4_move_195, xX4_move_196, xX4_move_197, xX4_move_200, xX4_move_201, xX4_move_204, xX4_move_205, xX4_move_208, xX4_move_209, xX4_move_210, xX4_move_211, xX4_move_212, xX4_move_214, xX4_move_215, xX4_move_218, xX4_move_219, xX4_move_220, xX4_move_221, xX4_move_222, xX4_move_223, xX4_move_226, xX4_move_229, xX4_move_230, xX4_move_233, xX4_move_235, xX4_move_236, xX4_move_239, xX4_move_240, xX4_move_241, xX4_move_244, xX4_move_246, xX4_move_247, xX4_move_250, xX4_move_253, xX4_move_254, xX4_move_255, xX4_move_256, xX4_move_259, xX4_move_260, xX4_move_261, xX4_move_264, xX4_move_267, xX4_move_268, xX4_move_271, xX4_move_272, xX4_move_273, xX4_move_274, xX4_move_277, xX4_move_278, xX4_move_279, xX4_move_280, xX4_move_283, xX4_move_284, xX4_move_285, xX4_move_286, xX4_move_287, xX4_move_288, xX4_move_289, xX4_move_290, xX4_move_290I, xX4_move_291, xX4_move_294, xX4_move_295, xX4_move_296, xX4_move_297, xX4_move_298, xX4_move_301, mo_k0 hm, mo_f0_7 hm, mo_k3 hm, mo_n3 hm, mo_f0_8 hm, mo_k4 hm, mo_n4 hm, mo_f0_9 hm, mo_k5 hm, mo_n5 hm, mo_f0_11 hm, mo_k7 hm, mo_n7 hm, mo_f0_12 hm, mo_k8 hm, mo_n8 hm, mo_f0_13 hm, mo_k9 hm, mo_n9 hm, mo_f0_14 hm, mo_k10 hm, mo_n10 hm, mo_f0_16 hm, mo_k12 hm, mo_n12 hm, mo_f0_17 hm, mo_k13 hm, mo_n13 hm, te_k0 ht, te_f0_9 ht, te_k12 ht, te_n12 ht, te_f0_16 ht, te_k19 ht, te_f0_17 ht, te_k23 ht, ↓reduceIte, gd_t, hK_p, hN_p, hF_p, hI_p, hJ_p, hR_p, stI_p, stJ_p, stR_p, stA_p, va_rf_s, va_rf_n, clr_i, clr_l, clr_r, clr_n, clr_o, w8_0, w8_1i, w8_1r, w8_2ii, w8_2ri, w8_2ir, w8_2rr, w8_3, beq_self_eq_true, Bool.and_self, Bool.and_true, Bool.true_and, decide_true, Option.toList_some, Option.toList_none, List.cons_append, List.nil_append, Option.bind_some, if_true, if_false, Nat.reduceLeDiff, Nat.reduceLT, Nat.reduceBEq, Bool.or_false, Bool.false_or, Bool.or_true, Bool.true_or, nI_leI, nI_ltI, nI_eq, nI_clamp, inb_n, up_s, up_n, bx_uu, nI_1, ix6, nI_0n, pk_us, pk_un, ge_0n, moM_0, moM_7, moM_8, moM_9, moM_10, moM_o, moM_w0, moM_w7, moM_w8, moM_w9, moM_w10, uu, pk_us, sb_cl0, cl_1, il_1, hR, btw_spec, w8_4, hx, z, y, w, e2, e3, hself, not_true_eq_false, not_false_eq_true]
        try rfl
      · simp (disch := omega) only [xX4_move_123, xX4_move_124, xX4_move_125, xX4_move_128, xX4_move_129, xX4_move_130, xX4_move_131, xX4_move_134, xX4_move_135, xX4_move_136, xX4_move_137, xX4_move_140, xX4_move_143, xX4_move_144, xX4_move_145, xX4_move_146, xX4_move_147, xX4_move_148, xX4_move_151, xX4_move_154, xX4_move_155, xX4_move_156, xX4_move_159, xX4_move_160, xX4_move_161, xX4_move_164, xX4_move_165, xX4_move_168, xX4_move_169, xX4_move_170, xX4_move_171, xX4_move_172, xX4_move_173, xX4_move_176, xX4_move_177, xX4_move_178, xX4_move_181, xX4_move_182, xX4_move_183, xX4_move_184, xX4_move_185, xX4_move_188, xX4_move_189, xX4_move_192, xX4_move_193, xX4_move_194, xX4_move_195, xX4_move_196, xX4_move_197, xX4_move_200, xX4_move_201, xX4_move_204, xX4_move_205, xX4_move_208, xX4_move_209, xX4_move_210, xX4_move_211, xX4_move_212, xX4_move_214, xX4_move_215, xX4_move_218, xX4_move_219, xX4_move_220, xX4_move_221, xX4_move_222, xX4_move_223, xX4_move_226, xX4_move_229, xX4_move_230, xX4_move_233, xX4_move_235, xX4_move_236, xX4_move_239, xX4_move_240, xX4_move_241, xX4_move_244, xX4_move_246, xX4_move_247, xX4_move_250, xX4_move_253, xX4_move_254, xX4_move_255, xX4_move_256, xX4_move_259, xX4_move_260, xX4_move_261, xX4_move_264, xX4_move_267, xX4_move_268, xX4_move_271, xX4_move_272, xX4_move_273, xX4_move_274, xX4_move_277, xX4_move_278, xX4_move_279, xX4_move_280, xX4_move_283, xX4_move_284, xX4_move_285, xX4_move_286, xX4_move_287, xX4_move_288, xX4_move_289, xX4_move_290, xX4_move_290I, xX4_move_291, xX4_move_294, xX4_move_295, xX4_move_296, xX4_move_297, xX4_move_298, xX4_move_301, mo_k0 hm, mo_f0_7 hm, mo_k3 hm, mo_n3 hm, mo_f0_8 hm, mo_k4 hm, mo_n4 hm, mo_f0_9 hm, mo_k5 hm, mo_n5 hm, mo_f0_11 hm, mo_k7 hm, mo_n7 hm, mo_f0_12 hm, mo_k8 hm, mo_n8 hm, mo_f0_13 hm, mo_k9 hm, mo_n9 hm, mo_f0_14 hm, mo_k10 hm, mo_n10 hm, mo_f0_16 hm, mo_k12 hm, mo_n12 hm, mo_f0_17 hm, mo_k13 hm, mo_n13 hm, te_k0 ht, te_f0_9 ht, te_k12 ht, te_n12 ht, te_f0_16 ht, te_k19 ht, te_f0_17 ht, te_k23 ht, ↓reduceIte, gd_t, hK_p, hN_p, hF_p, hI_p, hJ_p, hR_p, stI_p, stJ_p, stR_p, stA_p, va_rf_s, va_rf_n, clr_i, clr_l, clr_r, clr_n, clr_o, w8_0, w8_1i, w8_1r, w8_2ii, w8_2ri, w8_2ir, w8_2rr, w8_3, beq_self_eq_true, Bool.and_self, Bool.and_true, Bool.true_and, decide_true, Option.toList_some, Option.toList_none, List.cons_append, List.nil_append, Option.bind_some, if_true, if_false, Nat.reduceLeDiff, Nat.reduceLT, Nat.reduceBEq, Bool.or_false, Bool.false_or, Bool.or_true, Bool.true_or, nI_leI, nI_ltI, nI_eq, nI_clamp, inb_n, up_s, up_n, bx_uu, nI_1, ix6, nI_0n, pk_us, pk_un, ge_0n, moM_0, moM_7, moM_8, moM_9, moM_10, moM_o, moM_w0, moM_w7, moM_w8, moM_w9, moM_w10, uu, pk_us, sb_cl0, cl_1, il_1, hR, btw_spec, w8_4, hx, z, y, w, e2, e3, hself, not_true_eq_false, not_false_eq_true]
        try rfl
    · by_cases w : ph i + btwF 0 (lawF (I (t + 23) 0) (I (t + 24)) (I (t + 25)) (namF (I (m + 5) i) x (I (m + 12) i / 1000) (I (m + 4) i) (I (m + 3) i) (o 2) (ct i)) lenG 99 (I (m + 5) i) + I (m + 12) i / (1000 * I (m + 4) i)) 499 < 1000
      · simp (disch := omega) only [xX4_move_123, xX4_move_124, xX4_move_125, xX4_move_128, xX4_move_129, xX4_move_130, xX4_move_131, xX4_move_134, xX4_move_135, xX4_move_136, xX4_move_137, xX4_move_140, xX4_move_143, xX4_move_144, xX4_move_145, xX4_move_146, xX4_move_147, xX4_move_148, xX4_move_151, xX4_move_154, xX4_move_155, xX4_move_156, xX4_move_159, xX4_move_160, xX4_move_161, xX4_move_164, xX4_move_165, xX4_move_168, xX4_move_169, xX4_move_170, xX4_move_171, xX4_move_172, xX4_move_173, xX4_move_176, xX4_move_177, xX4_move_178, xX4_move_181, xX4_move_182, xX4_move_183, xX4_move_184, xX4_move_185, xX4_move_188, xX4_move_189, xX4_move_192, xX4_move_193, xX4_move_194, xX4_move_195, xX4_move_196, xX4_move_197, xX4_move_200, xX4_move_201, xX4_move_204, xX4_move_205, xX4_move_208, xX4_move_209, xX4_move_210, xX4_move_211, xX4_move_212, xX4_move_214, xX4_move_215, xX4_move_218, xX4_move_219, xX4_move_220, xX4_move_221, xX4_move_222, xX4_move_223, xX4_move_226, xX4_move_229, xX4_move_230, xX4_move_233, xX4_move_235, xX4_move_236, xX4_move_239, xX4_move_240, xX4_move_241, xX4_move_244, xX4_move_246, xX4_move_247, xX4_move_250, xX4_move_253, xX4_move_254, xX4_move_255, xX4_move_256, xX4_move_259, xX4_move_260, xX4_move_261, xX4_move_264, xX4_move_267, xX4_move_268, xX4_move_271, xX4_move_272, xX4_move_273, xX4_move_274, xX4_move_277, xX4_move_278, xX4_move_279, xX4_move_280, xX4_move_283, xX4_move_284, xX4_move_285, xX4_move_286, xX4_move_287, xX4_move_288, xX4_move_289, xX4_move_290, xX4_move_290I, xX4_move_291, xX4_move_294, xX4_move_295, xX4_move_296, xX4_move_297, xX4_move_298, xX4_move_301, mo_k0 hm, mo_f0_7 hm, mo_k3 hm, mo_n3 hm, mo_f0_8 hm, mo_k4 hm, mo_n4 hm, mo_f0_9 hm, mo_k5 hm, mo_n5 hm, mo_f0_11 hm, mo_k7 hm, mo_n7 hm, mo_f0_12 hm, mo_k8 hm, mo_n8 hm, mo_f0_13 hm, mo_k9 hm, mo_n9 hm, mo_f0_14 hm, mo_k10 hm, mo_n10 hm, mo_f0_16 hm, mo_k12 hm, mo_n12 hm, mo_f0_17 hm, mo_k13 hm, mo_n13 hm, te_k0 ht, te_f0_9 ht, te_k12 ht, te_n12 ht, te_f0_16 ht, te_k19 ht, te_f0_17 ht, te_k23 ht, ↓reduceIte, gd_t, hK_p, hN_p, hF_p, hI_p, hJ_p, hR_p, stI_p, stJ_p, stR_p, stA_p, va_rf_s, va_rf_n, clr_i, clr_l, clr_r, clr_n, clr_o, w8_0, w8_1i, w8_1r, w8_2ii, w8_2ri, w8_2ir, w8_2rr, w8_3, beq_self_eq_true, Bool.and_self, Bool.and_true, Bool.true_and, decide_true, Option.toList_some, Option.toList_none, List.cons_append, List.nil_append, Option.bind_some, if_true, if_false, Nat.reduceLeDiff, Nat.reduceLT, Nat.reduceBEq, Bool.or_false, Bool.false_or, Bool.or_true, Bool.true_or, nI_leI, nI_ltI, nI_eq, nI_clamp, inb_n, up_s, up_n, bx_uu, nI_1, ix6, nI_0n, pk_us, pk_un, ge_0n, moM_0, moM_7, moM_8, moM_9, moM_10, moM_o, moM_w0, moM_w7, moM_w8, moM_w9, moM_w10, uu, pk_us, sb_cl0, cl_1, il_1, hR, btw_spec, w8_4, hx, z, y, w, e2, e3, hself, not_true_eq_false, not_false_eq_true, decide_false, Bool.not_false]
        try rfl
      · simp (disch := omega) only [xX4_move_123, xX4_move_124, xX4_move_125, xX4_move_128, xX4_move_129, xX4_move_130, xX4_move_131, xX4_move_134, xX4_move_135, xX4_move_136, xX4_move_137, xX4_move_140, xX4_move_143, xX4_move_144, xX4_move_145, xX4_move_146, xX4_move_147, xX4_move_148, xX4_move_151, xX4_move_154, xX4_move_155, xX4_move_156, xX4_move_159, xX4_move_160, xX4_move_161, xX4_move_164, xX4_move_165, xX4_move_168, xX4_move_169, xX4_move_170, xX4_move_171, xX4_move_172, xX4_move_173, xX4_move_176, xX4_move_177, xX4_move_178, xX4_move_181, xX4_move_182, xX4_move_183, xX4_move_184, xX4_move_185, xX4_move_188, xX4_move_189, xX4_move_192, xX4_move_193, xX4_move_194, xX4_move_195, xX4_move_196, xX4_move_197, xX4_move_200, xX4_move_201, xX4_move_204, xX4_move_205, xX4_move_208, xX4_move_209, xX4_move_210, xX4_move_211, xX4_move_212, xX4_move_214, xX4_move_215, xX4_move_218, xX4_move_219, xX4_move_220, xX4_move_221, xX4_move_222, xX4_move_223, xX4_move_226, xX4_move_229, xX4_move_230, xX4_move_233, xX4_move_235, xX4_move_236, xX4_move_239, xX4_move_240, xX4_move_241, xX4_move_244, xX4_move_246, xX4_move_247, xX4_move_250, xX4_move_253, xX4_move_254, xX4_move_255, xX4_move_256, xX4_move_259, xX4_move_260, xX4_move_261, xX4_move_264, xX4_move_267, xX4_move_268, xX4_move_271, xX4_move_272, xX4_move_273, xX4_move_274, xX4_move_277, xX4_move_278, xX4_move_279, xX4_move_280, xX4_move_283, xX4_move_284, xX4_move_285, xX4_move_286, xX4_move_287, xX4_move_288, xX4_move_289, xX4_move_290, xX4_move_290I, xX4_move_291, xX4_move_294, xX4_move_295, xX4_move_296, xX4_move_297, xX4_move_298, xX4_move_301, mo_k0 hm, mo_f0_7 hm, mo_k3 hm, mo_n3 hm, mo_f0_8 hm, mo_k4 hm, mo_n4 hm, mo_f0_9 hm, mo_k5 hm, mo_n5 hm, mo_f0_11 hm, mo_k7 hm, mo_n7 hm, mo_f0_12 hm, mo_k8 hm, mo_n8 hm, mo_f0_13 hm, mo_k9 hm, mo_n9 hm, mo_f0_14 hm, mo_k10 hm, mo_n10 hm, mo_f0_16 hm, mo_k12 hm, mo_n12 hm, mo_f0_17 hm, mo_k13 hm, mo_n13 hm, te_k0 ht, te_f0_9 ht, te_k12 ht, te_n12 ht, te_f0_16 ht, te_k19 ht, te_f0_17 ht, te_k23 ht, ↓reduceIte, gd_t, hK_p, hN_p, hF_p, hI_p, hJ_p, hR_p, stI_p, stJ_p, stR_p, stA_p, va_rf_s, va_rf_n, clr_i, clr_l, clr_r, clr_n, clr_o, w8_0, w8_1i, w8_1r, w8_2ii, w8_2ri, w8_2ir, w8_2rr, w8_3, beq_self_eq_true, Bool.and_self, Bool.and_true, Bool.true_and, decide_true, Option.toList_some, Option.toList_none, List.cons_append, List.nil_append, Option.bind_some, if_true, if_false, Nat.reduceLeDiff, Nat.reduceLT, Nat.reduceBEq, Bool.or_false, Bool.false_or, Bool.or_true, Bool.true_or, nI_leI, nI_ltI, nI_eq, nI_clamp, inb_n, up_s, up_n, bx_uu, nI_1, ix6, nI_0n, pk_us, pk_un, ge_0n, moM_0, moM_7, moM_8, moM_9, moM_10, moM_o, moM_w0, moM_w7, moM_w8, moM_w9, moM_w10, uu, pk_us, sb_cl0, cl_1, il_1, hR, btw_spec, w8_4, hx, z, y, w, e2, e3, hself, not_true_eq_false, not_false_eq_true, decide_false, Bool.not_false]
        try rfl

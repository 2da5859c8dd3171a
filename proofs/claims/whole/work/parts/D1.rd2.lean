-- TEXT, 9: names
/-- names of both: m of them -/
def nmR (X Y : Mem) (a b fr m : Nat) : Prop := X a 1 = nI m ∧ ∀ i, i < m → X (a + 1) i = Y b (fr + i)
theorem fdF_or {r : Nat → Int32} {n : Nat} {x : Int32} (hn : n < 2 ^ 31) : fdF r n x = -1 ∨ ∃ i, i < n ∧ fdF r n x = nI i := by
  unfold fdF
  cases e : (srF (fun i (_ : Unit) => decide (r i = x)) (fun _ s => s) n 0 ()).1 with
  | none => exact Or.inl rfl
  | some i =>
    have := srF_lt e
    exact Or.inr ⟨i, by omega, rfl⟩
/-- which names there are: beams, clocks, mays of a telling, and the model's rows -/
def isNm (s a b fr : Nat) : Prop := (a = s + 1 ∧ b = 126 ∧ fr = 3) ∨ (a = s + 5 ∧ b = 129 ∧ fr = 6) ∨ (a = s + 15 ∧ b = 138 ∧ fr = 4)
section NM
variable {X Y : Mem} {J J2 : MemL} {R R2 : MemR} {L p s a b fr m : Nat} {u : Nat → Nat}
theorem isNm_k (ht : isTe s) (h : isNm s a b fr) : kd0 a = 5 ∧ fi0 a 0 = some (a + 1) ∧ kd0 (a + 1) = 14 ∧ ln0 (a + 1) = fr ∧ kd0 b = 14 ∧ ln0 b = fr + fr ∧ 2 ≤ a ∧ a < 54 ∧ fr ≤ 6 ∧ 126 ≤ b ∧ b ≤ 138 := by
  have ht2 := te_hi ht
  rcases h with ⟨rfl, rfl, rfl⟩ | ⟨rfl, rfl, rfl⟩ | ⟨rfl, rfl, rfl⟩
  · exact ⟨te_k1 ht, te_f1_0 ht, te_k2 ht, te_n2 ht, kd_126, ln_126, by omega, by omega, by omega, by omega, by omega⟩
  · exact ⟨te_k5 ht, te_f5_0 ht, te_k6 ht, te_n6 ht, kd_129, ln_129, by omega, by omega, by omega, by omega, by omega⟩
  · exact ⟨te_k15 ht, te_f15_0 ht, te_k16 ht, te_n16 ht, kd_138, ln_138, by omega, by omega, by omega, by omega, by omega⟩
theorem fd_p {d : Nat} {w : Int32} (ht : isTe s) (hn : isNm s a b fr) (h : nmR X Y a b fr m) (hm : m ≤ fr) : C (d + 1) MX5_find [.ref a, .int w] (hp X J R) = some (some (.int (fdF (X (a + 1)) m w)), hp X J R) ∧ C (d + 1) MX12_find [.ref b, .int (nI fr), .int (nI m), .int w] (hp Y J2 R2) = some (some (.int (fdF (X (a + 1)) m w)), hp Y J2 R2) := by
  obtain ⟨k1, k2, k3, k4, k5, k6, k7, k8, k9, -⟩ := isNm_k ht hn
  refine ⟨fd_c k1 k2 k3 k4 (by omega) h.1 hm, ?_⟩
  rw [fdF_eq (r' := fun i => Y b (fr + i)) h.2]
  exact fd_m k5 k6 (by omega) (by omega)
/-- newName -/
theorem new_p {d : Nat} (h : psR X Y L u p) (ht : isTe s) (hn : isNm s a b fr) (hr : nmR X Y a b fr m) (hm : m < fr) : (∃ X' Y', C (d + 4) MX7_newName [.ref 56, .ref a] (hp X J R) = some (some (.int 0), hp X' J R) ∧ C (d + 4) MX12_newName [.ref 123, .ref b, .int (nI fr), .int (nI m)] (hp Y J2 R2) = some (some (.int 0), hp Y' J2 R2) ∧ faR X' Y' ∧ cF X X' ∧ mF Y Y') ∨ (∃ X' Y' p', C (d + 4) MX7_newName [.ref 56, .ref a] (hp X J R) = some (some (.int 1), hp X' J R) ∧ C (d + 4) MX12_newName [.ref 123, .ref b, .int (nI fr), .int (nI m)] (hp Y J2 R2) = some (some (.int 1), hp Y' J2 R2) ∧ psR X' Y' L u p' ∧ p ≤ p' ∧ nmR X' Y' a b fr (m + 1) ∧ (∀ c, c ≠ 57 → c ≠ a → c ≠ a + 1 → X' c = X c) ∧ (∀ c, c ≠ 123 → c ≠ b → Y' c = Y c) ∧ (∀ k, k < 7 ∨ 10 < k → Y' 123 k = Y 123 k) ∧ ∀ k, k < fr → Y' b k = Y b k) := by
  obtain ⟨k1, k2, k3, k4, k5, k6, k7, k8, k9, k10, k11⟩ := isNm_k ht hn
  obtain ⟨pl, hT⟩ : ∃ pl, tkS X Y L p pl := h.2
  obtain ⟨t1, t2, t3, t4⟩ := TR_num hT.2.2.2.2.2.2
  by_cases zk : X 57 4 = 3
  · have zm : Y 123 8 = 2 := t2.mp zk
    have hw := t4 zk
    obtain ⟨f1, f2⟩ := fd_p (d := d + 2) (J := J) (J2 := J2) (R := R) (R2 := R2) (w := X 57 7) ht hn hr (by omega)
    rcases fdF_or (r := X (a + 1)) (n := m) (x := X 57 7) (by omega) with e | ⟨i, i1, e⟩
    · -- new
      rw [e] at f1 f2
      have c0 : ¬ fr ≤ m := by omega
      have m1 : (-1 : Int32) < 0 := by decide
      have ea : C (d + 3) MX5_add [.ref a, .int (X 57 7)] (hp X J R) = some (none, hp (va_up (va_up X (a + 1) (upd (X (a + 1)) m (X 57 7))) a (upd (X a) 1 (nI (m + 1)))) J R) := by
        rw [eX5_add]
        simp (disch := omega) only [xX5_add_0, xX5_add_1, xX5_add_4, xX5_add_5, xX5_add_8, xX5_add_9, xX5_add_12, xX5_add_13, xX5_add_16, xX5_add_17, xX5_add_20, xX5_add_21, xX5_add_22, xX5_add_23, xX5_add_23I, xX5_add_24, xX5_add_27, xX5_add_28, xX5_add_29, xX5_add_32, ↓reduceIte, gd_t, hK_p, hN_p, hF_p, hI_p, hJ_p, hR_p, stI_p, stJ_p, stR_p, stA_p, va_rf_s, va_rf_n, clr_i, clr_l, clr_r, clr_n, clr_o, w8_0, w8_1i, w8_1r, w8_2ii, w8_2ri, w8_2ir, w8_2rr, w8_3, beq_self_eq_true, Bool.and_self, Bool.and_true, Bool.true_and, decide_true, Option.toList_some, Option.toList_none, List.cons_append, List.nil_append, Option.bind_some, if_true, if_false, Nat.reduceLeDiff, Nat.reduceLT, Nat.reduceBEq, Bool.or_false, Bool.false_or, Bool.or_true, Bool.true_or, nI_leI, nI_ltI, nI_eq, nI_clamp, inb_n, up_s, up_n, bx_uu, nI_1, ix6, nI_0n, pk_us, pk_un, ge_0n, k1, k2, k3, k4, hr.1, c0]
      generalize hX1 : va_up (va_up X (a + 1) (upd (X (a + 1)) m (X 57 7))) a (upd (X a) 1 (nI (m + 1))) = X1 at ea
      have x1o : ∀ c, c ≠ a → c ≠ a + 1 → X1 c = X c := fun c h1 h2 => by rw [← hX1, up_n h1, up_n h2]
      generalize hY1 : va_up Y b (upd (Y b) (fr + m) (X 57 7)) = Y1
      have y1o : ∀ c, c ≠ b → Y1 c = Y c := fun c h1 => by rw [← hY1, up_n h1]
      have h' : psR X1 Y1 L u p := psR_m (psR_c h (fun c hc => x1o c (by omega) (by omega)) (fun k _ => by rw [x1o 56 (by omega) (by omega)])) (y1o 124 (by omega)) (y1o 125 (by omega)) (fun k _ _ => by rw [y1o 123 (by omega)])
      obtain ⟨X', Y', p', e1, e2, hs, -, hle, o1, o2, o3⟩ := nxt_p (d := d) (J := J) (J2 := J2) (R := R) (R2 := R2) h'
      refine Or.inr ⟨X', Y', p', ?_, ?_, hs, hle, ⟨?_, fun i hi => ?_⟩, fun c h1 h2 h3 => ?_, fun c h1 h2 => ?_, fun k hk => ?_, fun k hk => ?_⟩
      · rw [eX7_newName]
        simp (disch := omega) only [xX7_newName_0, xX7_newName_1, xX7_newName_4, xX7_newName_7, xX7_newName_8, xX7_newName_11, xX7_newName_12, xX7_newName_13, xX7_newName_16, xX7_newName_17, xX7_newName_18, xX7_newName_19, xX7_newName_22, xX7_newName_25, xX7_newName_28, xX7_newName_29, xX7_newName_32, xX7_newName_33, xX7_newName_34, xX7_newName_37, xX7_newName_38, xX7_newName_39, xX7_newName_40, xX7_newName_43, xX7_newName_46, xX7_newName_49, xX7_newName_50, xX7_newName_53, xX7_newName_56, xX7_newName_57, kd_56, fi_56_0, kd_57, kd_57, k1, ↓reduceIte, gd_t, hK_p, hN_p, hF_p, hI_p, hJ_p, hR_p, stI_p, stJ_p, stR_p, stA_p, va_rf_s, va_rf_n, clr_i, clr_l, clr_r, clr_n, clr_o, w8_0, w8_1i, w8_1r, w8_2ii, w8_2ri, w8_2ir, w8_2rr, w8_3, beq_self_eq_true, Bool.and_self, Bool.and_true, Bool.true_and, decide_true, Option.toList_some, Option.toList_none, List.cons_append, List.nil_append, Option.bind_some, if_true, if_false, Nat.reduceLeDiff, Nat.reduceLT, Nat.reduceBEq, Bool.or_false, Bool.false_or, Bool.or_true, Bool.true_or, zk, f1, ea, e1, z11]
      · rw [eX12_newName]
        simp (disch := omega) only [xX12_newName_0, xX12_newName_1, xX12_newName_4, xX12_newName_5, xX12_newName_8, xX12_newName_9, xX12_newName_10, xX12_newName_13, xX12_newName_14, xX12_newName_15, xX12_newName_16, xX12_newName_17, xX12_newName_18, xX12_newName_21, xX12_newName_24, xX12_newName_27, xX12_newName_28, xX12_newName_29, xX12_newName_32, xX12_newName_33, xX12_newName_34, xX12_newName_35, xX12_newName_36, xX12_newName_37, xX12_newName_38, xX12_newName_41, xX12_newName_42, xX12_newName_43, xX12_newName_46, xX12_newName_47, kd_123, kd_123, k5, k6, ↓reduceIte, gd_t, hK_p, hN_p, hF_p, hI_p, hJ_p, hR_p, stI_p, stJ_p, stR_p, stA_p, va_rf_s, va_rf_n, clr_i, clr_l, clr_r, clr_n, clr_o, w8_0, w8_1i, w8_1r, w8_2ii, w8_2ri, w8_2ir, w8_2rr, w8_3, beq_self_eq_true, Bool.and_self, Bool.and_true, Bool.true_and, decide_true, Option.toList_some, Option.toList_none, List.cons_append, List.nil_append, Option.bind_some, if_true, if_false, Nat.reduceLeDiff, Nat.reduceLT, Nat.reduceBEq, Bool.or_false, Bool.false_or, Bool.or_true, Bool.true_or, w8_4, nI_add, inb_n, nI_clamp, zm, ← hw, f2, m1, hY1, e2, z11]
      · rw [o1 a (by omega), ← hX1, up_s, pk_us]
      · rw [o1 (a + 1) (by omega), o2 b (by omega), ← hX1, up_n (by omega), up_s, ← hY1, up_s]
        by_cases w : i = m
        · rw [w, pk_us, pk_us]
        · rw [pk_un w, pk_un (by omega)]; exact hr.2 i (by omega)
      · rw [o1 c h1, x1o c h2 h3]
      · rw [o2 c h1, y1o c h2]
      · rw [o3 k hk, y1o 123 (by omega)]
      · rw [o2 b (by omega), ← hY1, up_s, pk_un (by omega)]
    · -- told already
      rw [e] at f1 f2
      have c0 : ¬ nI i = -1 := fun q => nI_nm (j := i) (by omega) q.symm
      have c1 : ¬ nI i < 0 := nI_pos (by omega)
      obtain ⟨g1, g2, g3⟩ := ref_p (k := 3) h
      refine Or.inl ⟨_, _, ?_, ?_, g1, g2, g3⟩
      · rw [eX7_newName]
        simp (disch := omega) only [xX7_newName_0, xX7_newName_1, xX7_newName_4, xX7_newName_7, xX7_newName_8, xX7_newName_11, xX7_newName_12, xX7_newName_13, xX7_newName_16, xX7_newName_17, xX7_newName_18, xX7_newName_19, xX7_newName_22, xX7_newName_25, xX7_newName_28, xX7_newName_29, xX7_newName_32, xX7_newName_33, xX7_newName_34, xX7_newName_37, xX7_newName_38, xX7_newName_39, xX7_newName_40, xX7_newName_43, xX7_newName_46, xX7_newName_49, xX7_newName_50, xX7_newName_53, xX7_newName_56, xX7_newName_57, kd_56, fi_56_0, kd_57, kd_56, k1, ↓reduceIte, gd_t, hK_p, hN_p, hF_p, hI_p, hJ_p, hR_p, stI_p, stJ_p, stR_p, stA_p, va_rf_s, va_rf_n, clr_i, clr_l, clr_r, clr_n, clr_o, w8_0, w8_1i, w8_1r, w8_2ii, w8_2ri, w8_2ir, w8_2rr, w8_3, beq_self_eq_true, Bool.and_self, Bool.and_true, Bool.true_and, decide_true, Option.toList_some, Option.toList_none, List.cons_append, List.nil_append, Option.bind_some, if_true, if_false, Nat.reduceLeDiff, Nat.reduceLT, Nat.reduceBEq, Bool.or_false, Bool.false_or, Bool.or_true, Bool.true_or, zk, f1, c0, ref_c, z01]
      · rw [eX12_newName]
        simp (disch := omega) only [xX12_newName_0, xX12_newName_1, xX12_newName_4, xX12_newName_5, xX12_newName_8, xX12_newName_9, xX12_newName_10, xX12_newName_13, xX12_newName_14, xX12_newName_15, xX12_newName_16, xX12_newName_17, xX12_newName_18, xX12_newName_21, xX12_newName_24, xX12_newName_27, xX12_newName_28, xX12_newName_29, xX12_newName_32, xX12_newName_33, xX12_newName_34, xX12_newName_35, xX12_newName_36, xX12_newName_37, xX12_newName_38, xX12_newName_41, xX12_newName_42, xX12_newName_43, xX12_newName_46, xX12_newName_47, kd_123, kd_123, k5, ↓reduceIte, gd_t, hK_p, hN_p, hF_p, hI_p, hJ_p, hR_p, stI_p, stJ_p, stR_p, stA_p, va_rf_s, va_rf_n, clr_i, clr_l, clr_r, clr_n, clr_o, w8_0, w8_1i, w8_1r, w8_2ii, w8_2ri, w8_2ir, w8_2rr, w8_3, beq_self_eq_true, Bool.and_self, Bool.and_true, Bool.true_and, decide_true, Option.toList_some, Option.toList_none, List.cons_append, List.nil_append, Option.bind_some, if_true, if_false, Nat.reduceLeDiff, Nat.reduceLT, Nat.reduceBEq, Bool.or_false, Bool.false_or, Bool.or_true, Bool.true_or, w8_4, zm, ← hw, f2, c1, wro_m, z01]
  · have zm : ¬ Y 123 8 = 2 := fun q => zk (t2.mpr q)
    obtain ⟨g1, g2, g3⟩ := ref_p (k := 1) h
    refine Or.inl ⟨_, _, ?_, ?_, g1, g2, g3⟩
    · rw [eX7_newName]
      simp (disch := omega) only [xX7_newName_0, xX7_newName_1, xX7_newName_4, xX7_newName_7, xX7_newName_8, xX7_newName_11, xX7_newName_12, xX7_newName_13, xX7_newName_16, xX7_newName_17, xX7_newName_18, xX7_newName_19, xX7_newName_22, xX7_newName_25, xX7_newName_28, xX7_newName_29, xX7_newName_32, xX7_newName_33, xX7_newName_34, xX7_newName_37, xX7_newName_38, xX7_newName_39, xX7_newName_40, xX7_newName_43, xX7_newName_46, xX7_newName_49, xX7_newName_50, xX7_newName_53, xX7_newName_56, xX7_newName_57, kd_56, fi_56_0, kd_57, kd_56, ↓reduceIte, gd_t, hK_p, hN_p, hF_p, hI_p, hJ_p, hR_p, stI_p, stJ_p, stR_p, stA_p, va_rf_s, va_rf_n, clr_i, clr_l, clr_r, clr_n, clr_o, w8_0, w8_1i, w8_1r, w8_2ii, w8_2ri, w8_2ir, w8_2rr, w8_3, beq_self_eq_true, Bool.and_self, Bool.and_true, Bool.true_and, decide_true, Option.toList_some, Option.toList_none, List.cons_append, List.nil_append, Option.bind_some, if_true, if_false, Nat.reduceLeDiff, Nat.reduceLT, Nat.reduceBEq, Bool.or_false, Bool.false_or, Bool.or_true, Bool.true_or, zk, ref_c, z01]
    · rw [eX12_newName]
      simp (disch := omega) only [xX12_newName_0, xX12_newName_1, xX12_newName_4, xX12_newName_5, xX12_newName_8, xX12_newName_9, xX12_newName_10, xX12_newName_13, xX12_newName_14, xX12_newName_15, xX12_newName_16, xX12_newName_17, xX12_newName_18, xX12_newName_21, xX12_newName_24, xX12_newName_27, xX12_newName_28, xX12_newName_29, xX12_newName_32, xX12_newName_33, xX12_newName_34, xX12_newName_35, xX12_newName_36, xX12_newName_37, xX12_newName_38, xX12_newName_41, xX12_newName_42, xX12_newName_43, xX12_newName_46, xX12_newName_47, kd_123, kd_123, ↓reduceIte, gd_t, hK_p, hN_p, hF_p, hI_p, hJ_p, hR_p, stI_p, stJ_p, stR_p, stA_p, va_rf_s, va_rf_n, clr_i, clr_l, clr_r, clr_n, clr_o, w8_0, w8_1i, w8_1r, w8_2ii, w8_2ri, w8_2ir, w8_2rr, w8_3, beq_self_eq_true, Bool.and_self, Bool.and_true, Bool.true_and, decide_true, Option.toList_some, Option.toList_none, List.cons_append, List.nil_append, Option.bind_some, if_true, if_false, Nat.reduceLeDiff, Nat.reduceLT, Nat.reduceBEq, Bool.or_false, Bool.false_or, Bool.or_true, Bool.true_or, zm, wro_m, z01]
/-- toldName, oldName -/
theorem old_p {d : Nat} (h : psR X Y L u p) (ht : isTe s) (hn : isNm s a b fr) (hr : nmR X Y a b fr m) (hm : m ≤ fr) : (∃ X' Y', C (d + 4) MX7_toldName [.ref 56, .ref a] (hp X J R) = some (some (.int 0), hp X' J R) ∧ C (d + 4) MX12_oldName [.ref 123, .ref b, .int (nI fr), .int (nI m)] (hp Y J2 R2) = some (some (.int 0), hp Y' J2 R2) ∧ faR X' Y' ∧ cF X X' ∧ mF Y Y') ∨ (∃ X' Y' p' v, C (d + 4) MX7_toldName [.ref 56, .ref a] (hp X J R) = some (some (.int 1), hp X' J R) ∧ C (d + 4) MX12_oldName [.ref 123, .ref b, .int (nI fr), .int (nI m)] (hp Y J2 R2) = some (some (.int 1), hp Y' J2 R2) ∧ psR X' Y' L u p' ∧ p ≤ p' ∧ v < m ∧ X' 56 6 = nI v ∧ Y' 123 11 = nI v ∧ cF X X' ∧ mF Y Y') := by
  obtain ⟨k1, k2, k3, k4, k5, k6, k7, k8, k9, k10, k11⟩ := isNm_k ht hn
  obtain ⟨pl, hT⟩ : ∃ pl, tkS X Y L p pl := h.2
  obtain ⟨t1, t2, t3, t4⟩ := TR_num hT.2.2.2.2.2.2
  by_cases zk : X 57 4 = 3
  · have zm : Y 123 8 = 2 := t2.mp zk
    have hw := t4 zk
    obtain ⟨f1, f2⟩ := fd_p (d := d + 2) (J := J) (J2 := J2) (R := R) (R2 := R2) (w := X 57 7) ht hn hr hm
    rcases fdF_or (r := X (a + 1)) (n := m) (x := X 57 7) (by omega) with e | ⟨i, i1, e⟩
    · rw [e] at f1 f2
      have m1 : ¬ (0 : Int32) ≤ -1 := by decide
      obtain ⟨g1, g2, g3⟩ := ref_p (k := 4) h
      have hx : va_up (va_up X 56 (upd (X 56) 6 (-1))) 56 (upd (upd (upd (X 56) 6 (-1)) 2 4) 3 (X 57 5)) = va_up X 56 (upd (upd (upd (X 56) 6 (-1)) 2 4) 3 (X 57 5)) := bx_uu _ _ _ _
      refine Or.inl ⟨va_up X 56 (upd (upd (upd (X 56) 6 (-1)) 2 4) 3 (X 57 5)), _, ?_, ?_, ⟨?_, ?_⟩, ⟨fun c h1 h2 => up_n h1, fun k h1 h2 h3 => ?_⟩, g3⟩
      · rw [eX7_toldName]
        simp (disch := omega) only [xX7_toldName_0, xX7_toldName_1, xX7_toldName_4, xX7_toldName_7, xX7_toldName_8, xX7_toldName_11, xX7_toldName_12, xX7_toldName_13, xX7_toldName_16, xX7_toldName_17, xX7_toldName_18, xX7_toldName_19, xX7_toldName_20, xX7_toldName_23, xX7_toldName_26, xX7_toldName_29, xX7_toldName_32, xX7_toldName_33, xX7_toldName_36, xX7_toldName_37, xX7_toldName_40, xX7_toldName_41, xX7_toldName_42, xX7_toldName_45, xX7_toldName_46, xX7_toldName_47, xX7_toldName_50, xX7_toldName_53, xX7_toldName_54, kd_56, fi_56_0, kd_57, kd_56, k1, ↓reduceIte, gd_t, hK_p, hN_p, hF_p, hI_p, hJ_p, hR_p, stI_p, stJ_p, stR_p, stA_p, va_rf_s, va_rf_n, clr_i, clr_l, clr_r, clr_n, clr_o, w8_0, w8_1i, w8_1r, w8_2ii, w8_2ri, w8_2ir, w8_2rr, w8_3, beq_self_eq_true, Bool.and_self, Bool.and_true, Bool.true_and, decide_true, Option.toList_some, Option.toList_none, List.cons_append, List.nil_append, Option.bind_some, if_true, if_false, Nat.reduceLeDiff, Nat.reduceLT, Nat.reduceBEq, Bool.or_false, Bool.false_or, Bool.or_true, Bool.true_or, zk, f1, up_s, up_n, bx_uu, pk_us, ref_c, z01, not_true_eq_false]
      · rw [eX12_oldName]
        simp (disch := omega) only [xX12_oldName_0, xX12_oldName_1, xX12_oldName_4, xX12_oldName_5, xX12_oldName_8, xX12_oldName_9, xX12_oldName_10, xX12_oldName_13, xX12_oldName_14, xX12_oldName_15, xX12_oldName_16, xX12_oldName_17, xX12_oldName_18, xX12_oldName_21, xX12_oldName_24, xX12_oldName_26, xX12_oldName_28, xX12_oldName_31, xX12_oldName_32, xX12_oldName_33, xX12_oldName_36, xX12_oldName_37, xX12_oldName_38, xX12_oldName_40, xX12_oldName_43, xX12_oldName_44, xX12_oldName_47, xX12_oldName_48, kd_123, kd_123, k5, ↓reduceIte, gd_t, hK_p, hN_p, hF_p, hI_p, hJ_p, hR_p, stI_p, stJ_p, stR_p, stA_p, va_rf_s, va_rf_n, clr_i, clr_l, clr_r, clr_n, clr_o, w8_0, w8_1i, w8_1r, w8_2ii, w8_2ri, w8_2ir, w8_2rr, w8_3, beq_self_eq_true, Bool.and_self, Bool.and_true, Bool.true_and, decide_true, Option.toList_some, Option.toList_none, List.cons_append, List.nil_append, Option.bind_some, if_true, if_false, Nat.reduceLeDiff, Nat.reduceLT, Nat.reduceBEq, Bool.or_false, Bool.false_or, Bool.or_true, Bool.true_or, w8_4, zm, ← hw, f2, m1, wro_m, z01]
      · rw [up_s, pk_un (by decide), pk_us]
        have := g1.1
        rw [up_s, pk_un (by decide), pk_us] at this
        exact this
      · rw [up_s, pk_us]
        have := g1.2
        rw [up_s, pk_us] at this
        exact this
      · rw [up_s, pk_un h2, pk_un h1, pk_un h3]
    · rw [e] at f1 f2
      have c0 : ¬ nI i = -1 := fun q => nI_nm (j := i) (by omega) q.symm
      have c1 : (0 : Int32) ≤ nI i := nI_pos' (by omega)
      have h' : psR (va_up X 56 (upd (X 56) 6 (nI i))) (va_up Y 123 (upd (Y 123) 11 (nI i))) L u p := psR_m (psR_c h (fun a ha => up_n (by omega)) (fun k hk => by rw [up_s, pk_un (by omega)])) (up_n (by decide)) (up_n (by decide)) (fun k h1 h2 => by rw [up_s, pk_un (by omega)])
      obtain ⟨X', Y', p', e1, e2, hs, -, hle, o1, o2, o3⟩ := nxt_p (d := d) (J := J) (J2 := J2) (R := R) (R2 := R2) h'
      refine Or.inr ⟨X', Y', p', i, ?_, ?_, hs, hle, i1, ?_, ?_, ⟨fun a h1 h2 => ?_, fun k h1 h2 h3 => ?_⟩, ⟨fun a h1 => ?_, fun k hk => ?_⟩⟩
      · rw [eX7_toldName]
        simp (disch := omega) only [xX7_toldName_0, xX7_toldName_1, xX7_toldName_4, xX7_toldName_7, xX7_toldName_8, xX7_toldName_11, xX7_toldName_12, xX7_toldName_13, xX7_toldName_16, xX7_toldName_17, xX7_toldName_18, xX7_toldName_19, xX7_toldName_20, xX7_toldName_23, xX7_toldName_26, xX7_toldName_29, xX7_toldName_32, xX7_toldName_33, xX7_toldName_36, xX7_toldName_37, xX7_toldName_40, xX7_toldName_41, xX7_toldName_42, xX7_toldName_45, xX7_toldName_46, xX7_toldName_47, xX7_toldName_50, xX7_toldName_53, xX7_toldName_54, kd_56, fi_56_0, kd_57, kd_57, k1, ↓reduceIte, gd_t, hK_p, hN_p, hF_p, hI_p, hJ_p, hR_p, stI_p, stJ_p, stR_p, stA_p, va_rf_s, va_rf_n, clr_i, clr_l, clr_r, clr_n, clr_o, w8_0, w8_1i, w8_1r, w8_2ii, w8_2ri, w8_2ir, w8_2rr, w8_3, beq_self_eq_true, Bool.and_self, Bool.and_true, Bool.true_and, decide_true, Option.toList_some, Option.toList_none, List.cons_append, List.nil_append, Option.bind_some, if_true, if_false, Nat.reduceLeDiff, Nat.reduceLT, Nat.reduceBEq, Bool.or_false, Bool.false_or, Bool.or_true, Bool.true_or, zk, f1, up_s, up_n, pk_us, c0, e1, z11, not_false_eq_true]
      · rw [eX12_oldName]
        simp (disch := omega) only [xX12_oldName_0, xX12_oldName_1, xX12_oldName_4, xX12_oldName_5, xX12_oldName_8, xX12_oldName_9, xX12_oldName_10, xX12_oldName_13, xX12_oldName_14, xX12_oldName_15, xX12_oldName_16, xX12_oldName_17, xX12_oldName_18, xX12_oldName_21, xX12_oldName_24, xX12_oldName_26, xX12_oldName_28, xX12_oldName_31, xX12_oldName_32, xX12_oldName_33, xX12_oldName_36, xX12_oldName_37, xX12_oldName_38, xX12_oldName_40, xX12_oldName_43, xX12_oldName_44, xX12_oldName_47, xX12_oldName_48, kd_123, kd_123, k5, ↓reduceIte, gd_t, hK_p, hN_p, hF_p, hI_p, hJ_p, hR_p, stI_p, stJ_p, stR_p, stA_p, va_rf_s, va_rf_n, clr_i, clr_l, clr_r, clr_n, clr_o, w8_0, w8_1i, w8_1r, w8_2ii, w8_2ri, w8_2ir, w8_2rr, w8_3, beq_self_eq_true, Bool.and_self, Bool.and_true, Bool.true_and, decide_true, Option.toList_some, Option.toList_none, List.cons_append, List.nil_append, Option.bind_some, if_true, if_false, Nat.reduceLeDiff, Nat.reduceLT, Nat.reduceBEq, Bool.or_false, Bool.false_or, Bool.or_true, Bool.true_or, w8_4, zm, ← hw, f2, c1, e2, z11]
      · rw [o1 56 (by decide), up_s, pk_us]
      · rw [o3 11 (by omega), up_s, pk_us]
      · rw [o1 a h2, up_n h1]
      · rw [o1 56 (by decide), up_s, pk_un h3]
      · rw [o2 a h1, up_n h1]
      · rw [o3 k (by omega), up_s, pk_un (by omega)]
  · have zm : ¬ Y 123 8 = 2 := fun q => zk (t2.mpr q)
    obtain ⟨g1, g2, g3⟩ := ref_p (k := 1) h
    refine Or.inl ⟨_, _, ?_, ?_, g1, g2, g3⟩
    · rw [eX7_toldName]
      simp (disch := omega) only [xX7_toldName_0, xX7_toldName_1, xX7_toldName_4, xX7_toldName_7, xX7_toldName_8, xX7_toldName_11, xX7_toldName_12, xX7_toldName_13, xX7_toldName_16, xX7_toldName_17, xX7_toldName_18, xX7_toldName_19, xX7_toldName_20, xX7_toldName_23, xX7_toldName_26, xX7_toldName_29, xX7_toldName_32, xX7_toldName_33, xX7_toldName_36, xX7_toldName_37, xX7_toldName_40, xX7_toldName_41, xX7_toldName_42, xX7_toldName_45, xX7_toldName_46, xX7_toldName_47, xX7_toldName_50, xX7_toldName_53, xX7_toldName_54, kd_56, fi_56_0, kd_57, kd_56, ↓reduceIte, gd_t, hK_p, hN_p, hF_p, hI_p, hJ_p, hR_p, stI_p, stJ_p, stR_p, stA_p, va_rf_s, va_rf_n, clr_i, clr_l, clr_r, clr_n, clr_o, w8_0, w8_1i, w8_1r, w8_2ii, w8_2ri, w8_2ir, w8_2rr, w8_3, beq_self_eq_true, Bool.and_self, Bool.and_true, Bool.true_and, decide_true, Option.toList_some, Option.toList_none, List.cons_append, List.nil_append, Option.bind_some, if_true, if_false, Nat.reduceLeDiff, Nat.reduceLT, Nat.reduceBEq, Bool.or_false, Bool.false_or, Bool.or_true, Bool.true_or, zk, ref_c, z01]
    · rw [eX12_oldName]
      simp (disch := omega) only [xX12_oldName_0, xX12_oldName_1, xX12_oldName_4, xX12_oldName_5, xX12_oldName_8, xX12_oldName_9, xX12_oldName_10, xX12_oldName_13, xX12_oldName_14, xX12_oldName_15, xX12_oldName_16, xX12_oldName_17, xX12_oldName_18, xX12_oldName_21, xX12_oldName_24, xX12_oldName_26, xX12_oldName_28, xX12_oldName_31, xX12_oldName_32, xX12_oldName_33, xX12_oldName_36, xX12_oldName_37, xX12_oldName_38, xX12_oldName_40, xX12_oldName_43, xX12_oldName_44, xX12_oldName_47, xX12_oldName_48, kd_123, kd_123, ↓reduceIte, gd_t, hK_p, hN_p, hF_p, hI_p, hJ_p, hR_p, stI_p, stJ_p, stR_p, stA_p, va_rf_s, va_rf_n, clr_i, clr_l, clr_r, clr_n, clr_o, w8_0, w8_1i, w8_1r, w8_2ii, w8_2ri, w8_2ir, w8_2rr, w8_3, beq_self_eq_true, Bool.and_self, Bool.and_true, Bool.true_and, decide_true, Option.toList_some, Option.toList_none, List.cons_append, List.nil_append, Option.bind_some, if_true, if_false, Nat.reduceLeDiff, Nat.reduceLT, Nat.reduceBEq, Bool.or_false, Bool.false_or, Bool.or_true, Bool.true_or, zm, wro_m, z01]
end NM

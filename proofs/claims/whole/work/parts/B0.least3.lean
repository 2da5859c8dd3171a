-- LEAST, 3: the class moves two; hear; find
section LEC
variable {I X : Mem} {J : MemL} {R R' : MemR} {t t' n nb nm fL lL fG lG st : Nat}
def mvR2 (X : Mem) (a to b to2 : Nat) : Prop := mvR X a to ∧ X 116 3 = nI b ∧ X 116 4 = nI (to2 / 10) ∧ X 116 5 = nI (to2 % 10)
/-- one try of moveTwo -/
theorem two_t {d N k a to b to2 S : Nat} {bits : Int32} {l3 : Option Value} (h : cAll I R t t' n nb nm fL lL fG lG st) (l : lI I R t lL lG n N k bits X R') (hN : N ≤ 60) (hS : to < S) (hS2 : to2 < S) (hS3 : S ≤ 30) (ha : a < n) (hb : b < n) : ∃ X1 J1 R1, lI I R t lL lG n N k bits X1 R1 ∧ (if (mvd I a to && ok2 I t lL lG n N k bits a to b to2) = true then E (C (d + 5)) MX3_moveTwo 53 [some (.ref 112), some (.int (nI S)), some (.int (nI (a * S + to))), l3, some (.int (nI (b * S + to2)))] [] (hp X J R') = some (some (.int 1), hp X1 J1 R1) ∧ mvR2 X1 a to b to2 else E (C (d + 5)) MX3_moveTwo 53 [some (.ref 112), some (.int (nI S)), some (.int (nI (a * S + to))), l3, some (.int (nI (b * S + to2)))] [] (hp X J R') = E (C (d + 5)) MX3_moveTwo 94 [some (.ref 112), some (.int (nI S)), some (.int (nI (a * S + to))), l3, some (.int (nI (b * S + to2)))] [] (hp X1 J1 R1)) := by
  have hn6 := h.n6
  have n1 : ¬ (1 : Int32) = 0 := by decide
  have n3 : (3 : Int32) = nI 3 := rfl
  have eB := ptb_c (d := d + 4) (X := X) (J := J) l.2.2.2.2.2.1
  obtain ⟨_, x62, x63⟩ := mvd_X (c := a) (to := to) l
  rw [x62, x63] at eB
  generalize hX0 : va_up (va_up X 113 (cpF (I 62) (X 113) 6)) 114 (cpF (I 63) (X 114) 6) = X0 at eB
  have o0 : ∀ a, a ≠ 113 → a ≠ 114 → X0 a = X a := fun a h1 h2 => by rw [← hX0, up_n h2, up_n h1]
  have l0 : lI I R t lL lG n N k bits X0 R' := lI_o l (fun a _ h1 h2 _ => o0 a h1 h2) (fun _ _ => rfl)
  have e113 : X0 113 = cpF (I 62) (X 113) 6 := by rw [← hX0, up_n (by decide), up_s]
  have e114 : X0 114 = cpF (I 63) (X 114) 6 := by rw [← hX0, up_s]
  have eP := put_c (d := d + 4) (c := a) (to := to) (S := S) (fr := 0) (X := X0) (J := J) l0.2.2.2.2.2.1 hS hS3 (by omega) (by omega)
  rw [(mvd_X (c := a) (to := to) l0).1, nI_0] at eP
  unfold ok2
  by_cases zm : mvd I a to = true
  · rw [if_pos zm] at eP
    simp only [zm, if_true, Bool.true_and, Nat.zero_add] at eP ⊢
    generalize hX1 : va_up (va_up (va_up X0 113 (upd (X0 113) a (nI (to / 10)))) 114 (upd (X0 114) a (nI (to % 10)))) 116 (upd (upd (upd (X0 116) 0 (nI a)) 1 (nI (to / 10))) 2 (nI (to % 10))) = X1 at eP
    have o1 : ∀ a, a ≠ 113 → a ≠ 114 → a ≠ 116 → X1 a = X a := fun a h1 h2 h3 => by rw [← hX1, up_n h3, up_n h2, up_n h1]; exact o0 a h1 h2
    have l1 : lI I R t lL lG n N k bits X1 R' := lI_o l (fun a _ h1 h2 h3 => o1 a h1 h2 h3) (fun _ _ => rfl)
    have r116 : X1 116 = upd (upd (upd (X 116) 0 (nI a)) 1 (nI (to / 10))) 2 (nI (to % 10)) := by rw [← hX1, up_s, o0 116 (by decide) (by decide)]
    have eb : eqR n (X1 113) (upd (I 62) a (nI (to / 10))) := by
      rw [← hX1, up_n (by decide), up_n (by decide), up_s, e113]
      exact eqR_up (cp_eq hn6)
    have ep : eqR n (X1 114) (upd (I 63) a (nI (to % 10))) := by
      rw [← hX1, up_n (by decide), up_s, e114]
      exact eqR_up (cp_eq hn6)
    have eP2 := put_c (d := d + 4) (c := b) (to := to2) (S := S) (fr := 3) (X := X1) (J := J) l1.2.2.2.2.2.1 hS2 hS3 (by omega) (by omega)
    rw [(mvd_X (c := b) (to := to2) l1).1, ← n3] at eP2
    by_cases zm2 : mvd I b to2 = true
    · rw [if_pos zm2] at eP2
      simp only [zm2, if_true, Bool.true_and] at eP2 ⊢
      generalize hX2 : va_up (va_up (va_up X1 113 (upd (X1 113) b (nI (to2 / 10)))) 114 (upd (X1 114) b (nI (to2 % 10)))) 116 (upd (upd (upd (X1 116) 3 (nI b)) (3 + 1) (nI (to2 / 10))) (3 + 2) (nI (to2 % 10))) = X2 at eP2
      have o2 : ∀ a, a ≠ 113 → a ≠ 114 → a ≠ 116 → X2 a = X1 a := fun a h1 h2 h3 => by rw [← hX2, up_n h3, up_n h2, up_n h1]
      have l2 : lI I R t lL lG n N k bits X2 R' := lI_o l1 (fun a _ h1 h2 h3 => o2 a h1 h2 h3) (fun _ _ => rfl)
      have s116 : X2 116 = upd (upd (upd (X1 116) 3 (nI b)) (3 + 1) (nI (to2 / 10))) (3 + 2) (nI (to2 % 10)) := by rw [← hX2, up_s]
      have eb2 : eqR n (X2 113) (upd (upd (I 62) a (nI (to / 10))) b (nI (to2 / 10))) := by
        rw [← hX2, up_n (by decide), up_n (by decide), up_s]
        exact eqR_up eb
      have ep2 : eqR n (X2 114) (upd (upd (I 63) a (nI (to % 10))) b (nI (to2 % 10))) := by
        rw [← hX2, up_n (by decide), up_s]
        exact eqR_up ep
      obtain ⟨eF, X3, J3, R3, eK, o3, r3⟩ := fk_c (d := d) (J := J) h l2 hN eb2 ep2
      have hm : mvR2 X2 a to b to2 := by
        unfold mvR2 mvR
        rw [s116, r116]
        refine ⟨⟨?_, ?_, ?_⟩, ?_, ?_, ?_⟩ <;> simp (disch := omega) only [pk_un, pk_us]
      by_cases zf : frV n (upd (upd (I 62) a (nI (to / 10))) b (nI (to2 / 10))) (upd (upd (I 63) a (nI (to % 10))) b (nI (to2 % 10))) = 0
      · refine ⟨X2, J, R', l2, ?_⟩
        rw [if_neg (by simp [zf])]
        simp (disch := omega) only [xX3_moveTwo_53, xX3_moveTwo_54, xX3_moveTwo_57, xX3_moveTwo_58, xX3_moveTwo_59, xX3_moveTwo_60, xX3_moveTwo_61, xX3_moveTwo_64, xX3_moveTwo_67, xX3_moveTwo_68, xX3_moveTwo_70, xX3_moveTwo_71, xX3_moveTwo_72, xX3_moveTwo_75, xX3_moveTwo_78, xX3_moveTwo_79, xX3_moveTwo_82, xX3_moveTwo_85, xX3_moveTwo_86, xX3_moveTwo_89, xX3_moveTwo_92, xX3_moveTwo_93, kd_112, kd_112, ↓reduceIte, gd_t, hK_p, hN_p, hF_p, hI_p, hJ_p, hR_p, stI_p, stJ_p, stR_p, stA_p, va_rf_s, va_rf_n, clr_i, clr_l, clr_r, clr_n, clr_o, w8_0, w8_1i, w8_1r, w8_2ii, w8_2ri, w8_2ir, w8_2rr, w8_3, beq_self_eq_true, Bool.and_self, Bool.and_true, Bool.true_and, decide_true, Option.toList_some, Option.toList_none, List.cons_append, List.nil_append, Option.bind_some, if_true, if_false, Nat.reduceLeDiff, Nat.reduceLT, Nat.reduceBEq, Bool.or_false, Bool.false_or, Bool.or_true, Bool.true_or, w8_4, eB, eP, eP2, eF, zf, n1]
      · have l3' : lI I R t lL lG n N k bits X3 R3 := lI_o l2 (fun a h1 _ _ _ => o3 a h1) r3
        by_cases zk : kK I t lL lG n N k bits (upd (upd (I 62) a (nI (to / 10))) b (nI (to2 / 10))) (upd (upd (I 63) a (nI (to % 10))) b (nI (to2 % 10))) = 0
        · refine ⟨X3, J3, R3, l3', ?_⟩
          rw [if_neg (by simp [zk])]
          simp (disch := omega) only [xX3_moveTwo_53, xX3_moveTwo_54, xX3_moveTwo_57, xX3_moveTwo_58, xX3_moveTwo_59, xX3_moveTwo_60, xX3_moveTwo_61, xX3_moveTwo_64, xX3_moveTwo_67, xX3_moveTwo_68, xX3_moveTwo_70, xX3_moveTwo_71, xX3_moveTwo_72, xX3_moveTwo_75, xX3_moveTwo_78, xX3_moveTwo_79, xX3_moveTwo_82, xX3_moveTwo_85, xX3_moveTwo_86, xX3_moveTwo_89, xX3_moveTwo_92, xX3_moveTwo_93, kd_112, kd_112, ↓reduceIte, gd_t, hK_p, hN_p, hF_p, hI_p, hJ_p, hR_p, stI_p, stJ_p, stR_p, stA_p, va_rf_s, va_rf_n, clr_i, clr_l, clr_r, clr_n, clr_o, w8_0, w8_1i, w8_1r, w8_2ii, w8_2ri, w8_2ir, w8_2rr, w8_3, beq_self_eq_true, Bool.and_self, Bool.and_true, Bool.true_and, decide_true, Option.toList_some, Option.toList_none, List.cons_append, List.nil_append, Option.bind_some, if_true, if_false, Nat.reduceLeDiff, Nat.reduceLT, Nat.reduceBEq, Bool.or_false, Bool.false_or, Bool.or_true, Bool.true_or, w8_4, eB, eP, eP2, eF, zf, eK, zk, n1]
        · refine ⟨X3, J3, R3, l3', ?_⟩
          rw [if_pos (by simp [zf, zk])]
          refine ⟨?_, ?_⟩
          · simp (disch := omega) only [xX3_moveTwo_53, xX3_moveTwo_54, xX3_moveTwo_57, xX3_moveTwo_58, xX3_moveTwo_59, xX3_moveTwo_60, xX3_moveTwo_61, xX3_moveTwo_64, xX3_moveTwo_67, xX3_moveTwo_68, xX3_moveTwo_70, xX3_moveTwo_71, xX3_moveTwo_72, xX3_moveTwo_75, xX3_moveTwo_78, xX3_moveTwo_79, xX3_moveTwo_82, xX3_moveTwo_85, xX3_moveTwo_86, xX3_moveTwo_89, xX3_moveTwo_92, xX3_moveTwo_93, kd_112, kd_112, ↓reduceIte, gd_t, hK_p, hN_p, hF_p, hI_p, hJ_p, hR_p, stI_p, stJ_p, stR_p, stA_p, va_rf_s, va_rf_n, clr_i, clr_l, clr_r, clr_n, clr_o, w8_0, w8_1i, w8_1r, w8_2ii, w8_2ri, w8_2ir, w8_2rr, w8_3, beq_self_eq_true, Bool.and_self, Bool.and_true, Bool.true_and, decide_true, Option.toList_some, Option.toList_none, List.cons_append, List.nil_append, Option.bind_some, if_true, if_false, Nat.reduceLeDiff, Nat.reduceLT, Nat.reduceBEq, Bool.or_false, Bool.false_or, Bool.or_true, Bool.true_or, w8_4, eB, eP, eP2, eF, zf, eK, zk, n1, z11]
          · unfold mvR2 mvR
            rw [o3 116 (by omega)]
            exact hm
    · rw [if_neg zm2] at eP2
      rw [if_neg zm2] at eP2
      have zm2' : mvd I b to2 = false := by simpa using zm2
      refine ⟨X1, J, R', l1, ?_⟩
      rw [if_neg (by simp [zm2'])]
      simp (disch := omega) only [xX3_moveTwo_53, xX3_moveTwo_54, xX3_moveTwo_57, xX3_moveTwo_58, xX3_moveTwo_59, xX3_moveTwo_60, xX3_moveTwo_61, xX3_moveTwo_64, xX3_moveTwo_67, xX3_moveTwo_68, xX3_moveTwo_70, xX3_moveTwo_71, xX3_moveTwo_72, xX3_moveTwo_75, xX3_moveTwo_78, xX3_moveTwo_79, xX3_moveTwo_82, xX3_moveTwo_85, xX3_moveTwo_86, xX3_moveTwo_89, xX3_moveTwo_92, xX3_moveTwo_93, kd_112, kd_112, ↓reduceIte, gd_t, hK_p, hN_p, hF_p, hI_p, hJ_p, hR_p, stI_p, stJ_p, stR_p, stA_p, va_rf_s, va_rf_n, clr_i, clr_l, clr_r, clr_n, clr_o, w8_0, w8_1i, w8_1r, w8_2ii, w8_2ri, w8_2ir, w8_2rr, w8_3, beq_self_eq_true, Bool.and_self, Bool.and_true, Bool.true_and, decide_true, Option.toList_some, Option.toList_none, List.cons_append, List.nil_append, Option.bind_some, if_true, if_false, Nat.reduceLeDiff, Nat.reduceLT, Nat.reduceBEq, Bool.or_false, Bool.false_or, Bool.or_true, Bool.true_or, w8_4, eB, eP, eP2, n1]
  · rw [if_neg zm] at eP
    rw [if_neg zm] at eP
    have zm' : mvd I a to = false := by simpa using zm
    refine ⟨X0, J, R', l0, ?_⟩
    rw [if_neg (by simp [zm'])]
    simp (disch := omega) only [xX3_moveTwo_53, xX3_moveTwo_54, xX3_moveTwo_57, xX3_moveTwo_58, xX3_moveTwo_59, xX3_moveTwo_60, xX3_moveTwo_61, xX3_moveTwo_64, xX3_moveTwo_67, xX3_moveTwo_68, xX3_moveTwo_70, xX3_moveTwo_71, xX3_moveTwo_72, xX3_moveTwo_75, xX3_moveTwo_78, xX3_moveTwo_79, xX3_moveTwo_82, xX3_moveTwo_85, xX3_moveTwo_86, xX3_moveTwo_89, xX3_moveTwo_92, xX3_moveTwo_93, kd_112, kd_112, ↓reduceIte, gd_t, hK_p, hN_p, hF_p, hI_p, hJ_p, hR_p, stI_p, stJ_p, stR_p, stA_p, va_rf_s, va_rf_n, clr_i, clr_l, clr_r, clr_n, clr_o, w8_0, w8_1i, w8_1r, w8_2ii, w8_2ri, w8_2ir, w8_2rr, w8_3, beq_self_eq_true, Bool.and_self, Bool.and_true, Bool.true_and, decide_true, Option.toList_some, Option.toList_none, List.cons_append, List.nil_append, Option.bind_some, if_true, if_false, Nat.reduceLeDiff, Nat.reduceLT, Nat.reduceBEq, Bool.or_false, Bool.false_or, Bool.or_true, Bool.true_or, w8_4, eB, eP]
/-- the tests of the class for two -/
def ok2C (I : Mem) (t lL lG n N k : Nat) (bits : Int32) (a to b to2 : Nat) : Option (Nat × Nat × Nat × Nat) := if (mvd I a to && ok2 I t lL lG n N k bits a to b to2) = true then some (a, to, b, to2) else none
theorem mo2_1 {d N k a to b S : Nat} {bits y : Int32} (h : cAll I R t t' n nb nm fL lL fG lG st) (hN : N ≤ 60) (hS : to < S) (hS3 : S ≤ 30) (ha : a < n) (hb : b < n) : ∀ (q to2 : Nat) (X : Mem) (J : MemL) (R' : MemR), to2 + q = S → lI I R t lL lG n N k bits X R' → ∃ X1 J1 R1, lI I R t lL lG n N k bits X1 R1 ∧ match sT (ok2C I t lL lG n N k bits a to b) q to2 with
    | some r => E (C (d + 5)) MX3_moveTwo 39 [some (.ref 112), some (.int (nI S)), some (.int (nI (a * S + to))), some (.int y), some (.int (nI (b * S + to2)))] [] (hp X J R') = some (some (.int 1), hp X1 J1 R1) ∧ mvR2 X1 r.1 r.2.1 r.2.2.1 r.2.2.2
    | none => E (C (d + 5)) MX3_moveTwo 39 [some (.ref 112), some (.int (nI S)), some (.int (nI (a * S + to))), some (.int y), some (.int (nI (b * S + to2)))] [] (hp X J R') = E (C (d + 5)) MX3_moveTwo 39 [some (.ref 112), some (.int (nI S)), some (.int (nI (a * S + to))), some (.int y), some (.int (nI ((b + 1) * S)))] [] (hp X1 J1 R1) := by
  have hn6 := h.n6
  intro q
  induction q with
  | zero =>
    intro to2 X J R' hq l
    obtain rfl : to2 = S := by omega
    refine ⟨X, J, R', l, ?_⟩
    unfold sT
    dsimp only
    rw [Nat.add_mul, Nat.one_mul]
  | succ q ih =>
    intro to2 X J R' hq l
    have x60 : X 60 1 = nI n := by rw [l.1 60 (Or.inl ⟨by unfold kpA; omega, by omega, by omega⟩)]; exact h.now.2.1
    have hcS : b * S + to2 < n * S := by
      have : (b + 1) * S ≤ n * S := Nat.mul_le_mul_right S (by omega)
      rw [Nat.add_mul, Nat.one_mul] at this
      omega
    have hnS : n * S ≤ 6 * 30 := Nat.mul_le_mul hn6 hS3
    have c0 : ¬ n * S ≤ b * S + to2 := by omega
    have eh : E (C (d + 5)) MX3_moveTwo 39 [some (.ref 112), some (.int (nI S)), some (.int (nI (a * S + to))), some (.int y), some (.int (nI (b * S + to2)))] [] (hp X J R') = E (C (d + 5)) MX3_moveTwo 53 [some (.ref 112), some (.int (nI S)), some (.int (nI (a * S + to))), some (.int y), some (.int (nI (b * S + to2)))] [] (hp X J R') := by
      rw [xX3_moveTwo_39]
      simp (disch := omega) only [xX3_moveTwo_41, xX3_moveTwo_42, xX3_moveTwo_45, xX3_moveTwo_48, xX3_moveTwo_49, xX3_moveTwo_50, kd_112, kd_60, ↓reduceIte, gd_t, hK_p, hN_p, hF_p, hI_p, hJ_p, hR_p, stI_p, stJ_p, stR_p, stA_p, va_rf_s, va_rf_n, clr_i, clr_l, clr_r, clr_n, clr_o, w8_0, w8_1i, w8_1r, w8_2ii, w8_2ri, w8_2ir, w8_2rr, w8_3, beq_self_eq_true, Bool.and_self, Bool.and_true, Bool.true_and, decide_true, Option.toList_some, Option.toList_none, List.cons_append, List.nil_append, Option.bind_some, if_true, if_false, Nat.reduceLeDiff, Nat.reduceLT, Nat.reduceBEq, Bool.or_false, Bool.false_or, Bool.or_true, Bool.true_or, l.2.2.2.2.2.1, x60, pk_mul, nI_leI, c0]
    obtain ⟨X1, J1, R1, l1, e1⟩ := two_t (d := d) (J := J) (l3 := some (.int y)) h l hN hS (to2 := to2) (by omega) hS3 ha hb
    unfold sT
    have hC : ok2C I t lL lG n N k bits a to b to2 = if (mvd I a to && ok2 I t lL lG n N k bits a to b to2) = true then some (a, to, b, to2) else none := rfl
    rw [hC]
    by_cases z : (mvd I a to && ok2 I t lL lG n N k bits a to b to2) = true
    · rw [if_pos z] at e1
      rw [if_pos z]
      exact ⟨X1, J1, R1, l1, eh.trans e1.1, e1.2⟩
    · rw [if_neg z] at e1
      rw [if_neg z]
      obtain ⟨X2, J2, R2, l2, e2⟩ := ih (to2 + 1) X1 J1 R1 (by omega) l1
      refine ⟨X2, J2, R2, l2, ?_⟩
      have en : E (C (d + 5)) MX3_moveTwo 39 [some (.ref 112), some (.int (nI S)), some (.int (nI (a * S + to))), some (.int y), some (.int (nI (b * S + to2)))] [] (hp X J R') = E (C (d + 5)) MX3_moveTwo 39 [some (.ref 112), some (.int (nI S)), some (.int (nI (a * S + to))), some (.int y), some (.int (nI (b * S + (to2 + 1))))] [] (hp X1 J1 R1) := by
        rw [eh, e1]
        simp (disch := omega) only [xX3_moveTwo_94, xX3_moveTwo_97, ↓reduceIte, gd_t, hK_p, hN_p, hF_p, hI_p, hJ_p, hR_p, stI_p, stJ_p, stR_p, stA_p, va_rf_s, va_rf_n, clr_i, clr_l, clr_r, clr_n, clr_o, w8_0, w8_1i, w8_1r, w8_2ii, w8_2ri, w8_2ir, w8_2rr, w8_3, beq_self_eq_true, Bool.and_self, Bool.and_true, Bool.true_and, decide_true, Option.toList_some, Option.toList_none, List.cons_append, List.nil_append, Option.bind_some, if_true, if_false, Nat.reduceLeDiff, Nat.reduceLT, Nat.reduceBEq, Bool.or_false, Bool.false_or, Bool.or_true, Bool.true_or, nI_1, Nat.add_assoc]
      dsimp only
      rw [en]
      exact e2
theorem mo2_2 {d N k a to S : Nat} {bits y : Int32} (h : cAll I R t t' n nb nm fL lL fG lG st) (hN : N ≤ 60) (hS : to < S) (hS3 : S ≤ 30) (ha : a < n) : ∀ (q b : Nat) (X : Mem) (J : MemL) (R' : MemR), b + q = n → lI I R t lL lG n N k bits X R' → ∃ X1 J1 R1, lI I R t lL lG n N k bits X1 R1 ∧ match sT (fun b => sT (ok2C I t lL lG n N k bits a to b) S 0) q b with
    | some r => E (C (d + 5)) MX3_moveTwo 39 [some (.ref 112), some (.int (nI S)), some (.int (nI (a * S + to))), some (.int y), some (.int (nI (b * S)))] [] (hp X J R') = some (some (.int 1), hp X1 J1 R1) ∧ mvR2 X1 r.1 r.2.1 r.2.2.1 r.2.2.2
    | none => E (C (d + 5)) MX3_moveTwo 39 [some (.ref 112), some (.int (nI S)), some (.int (nI (a * S + to))), some (.int y), some (.int (nI (b * S)))] [] (hp X J R') = E (C (d + 5)) MX3_moveTwo 7 [some (.ref 112), some (.int (nI S)), some (.int (nI (a * S + (to + 1)))), some (.int y), some (.int (nI (n * S)))] [] (hp X1 J1 R1) := by
  have hn6 := h.n6
  intro q
  induction q with
  | zero =>
    intro b X J R' hq l
    obtain rfl : b = n := by omega
    have x60 : X 60 1 = nI b := by rw [l.1 60 (Or.inl ⟨by unfold kpA; omega, by omega, by omega⟩)]; exact h.now.2.1
    have hnS : b * S ≤ 6 * 30 := Nat.mul_le_mul hn6 hS3
    have c0 : b * S ≤ b * S := Nat.le_refl _
    refine ⟨X, J, R', l, ?_⟩
    unfold sT
    dsimp only
    rw [xX3_moveTwo_39]
    simp (disch := omega) only [xX3_moveTwo_41, xX3_moveTwo_42, xX3_moveTwo_45, xX3_moveTwo_48, xX3_moveTwo_49, xX3_moveTwo_50, kd_112, kd_60, xX3_moveTwo_100, xX3_moveTwo_103, ↓reduceIte, gd_t, hK_p, hN_p, hF_p, hI_p, hJ_p, hR_p, stI_p, stJ_p, stR_p, stA_p, va_rf_s, va_rf_n, clr_i, clr_l, clr_r, clr_n, clr_o, w8_0, w8_1i, w8_1r, w8_2ii, w8_2ri, w8_2ir, w8_2rr, w8_3, beq_self_eq_true, Bool.and_self, Bool.and_true, Bool.true_and, decide_true, Option.toList_some, Option.toList_none, List.cons_append, List.nil_append, Option.bind_some, if_true, if_false, Nat.reduceLeDiff, Nat.reduceLT, Nat.reduceBEq, Bool.or_false, Bool.false_or, Bool.or_true, Bool.true_or, l.2.2.2.2.2.1, x60, pk_mul, nI_leI, nI_1, c0, Nat.add_assoc]
  | succ q ih =>
    intro b X J R' hq l
    obtain ⟨X1, J1, R1, l1, e1⟩ := mo2_1 (d := d) (k := k) (bits := bits) (y := y) h hN hS hS3 ha (b := b) (by omega) S 0 X J R' (by omega) l
    simp only [Nat.add_zero] at e1
    unfold sT
    cases hs : sT (ok2C I t lL lG n N k bits a to b) S 0 with
    | some r =>
      rw [hs] at e1
      exact ⟨X1, J1, R1, l1, e1⟩
    | none =>
      rw [hs] at e1
      dsimp only at e1 ⊢
      obtain ⟨X2, J2, R2, l2, e2⟩ := ih (b + 1) X1 J1 R1 (by omega) l1
      refine ⟨X2, J2, R2, l2, ?_⟩
      rw [e1]
      exact e2
theorem mo2_3 {d N k a S : Nat} {bits : Int32} (h : cAll I R t t' n nb nm fL lL fG lG st) (hN : N ≤ 60) (hS3 : S ≤ 30) (ha : a < n) : ∀ (q to : Nat) (X : Mem) (J : MemL) (R' : MemR) (l3 l4 : Option Value), to + q = S → lI I R t lL lG n N k bits X R' → ∃ X1 J1 R1 l3' l4', lI I R t lL lG n N k bits X1 R1 ∧ match sT (fun to => sT (fun b => sT (ok2C I t lL lG n N k bits a to b) S 0) (n - (a + 1)) (a + 1)) q to with
    | some r => E (C (d + 5)) MX3_moveTwo 7 [some (.ref 112), some (.int (nI S)), some (.int (nI (a * S + to))), l3, l4] [] (hp X J R') = some (some (.int 1), hp X1 J1 R1) ∧ mvR2 X1 r.1 r.2.1 r.2.2.1 r.2.2.2
    | none => E (C (d + 5)) MX3_moveTwo 7 [some (.ref 112), some (.int (nI S)), some (.int (nI (a * S + to))), l3, l4] [] (hp X J R') = E (C (d + 5)) MX3_moveTwo 7 [some (.ref 112), some (.int (nI S)), some (.int (nI ((a + 1) * S))), l3', l4'] [] (hp X1 J1 R1) := by
  have hn6 := h.n6
  intro q
  induction q with
  | zero =>
    intro to X J R' l3 l4 hq l
    obtain rfl : to = S := by omega
    refine ⟨X, J, R', l3, l4, l, ?_⟩
    unfold sT
    dsimp only
    rw [Nat.add_mul, Nat.one_mul]
  | succ q ih =>
    intro to X J R' l3 l4 hq l
    have x60 : X 60 1 = nI n := by rw [l.1 60 (Or.inl ⟨by unfold kpA; omega, by omega, by omega⟩)]; exact h.now.2.1
    have hcS : a * S + to < n * S := by
      have : (a + 1) * S ≤ n * S := Nat.mul_le_mul_right S (by omega)
      rw [Nat.add_mul, Nat.one_mul] at this
      omega
    have hnS : n * S ≤ 6 * 30 := Nat.mul_le_mul hn6 hS3
    have c0 : ¬ n * S ≤ a * S + to := by omega
    have s0 : ¬ nI S = 0 := fun q => absurd ((nI_eq (b := 0) (by omega) (by omega)).mp q) (by omega)
    have s0' : (!(decide (nI S = 0))) = true := by rw [decide_eq_false s0]; rfl
    have d1 : nI (a * S + to) / nI S = nI a := by
      rw [pk_div (by omega) (by omega) (by omega)]
      congr 1
      rw [Nat.mul_comm, Nat.mul_add_div (by omega), Nat.div_eq_of_lt (by omega), Nat.add_zero]
    have eh : E (C (d + 5)) MX3_moveTwo 7 [some (.ref 112), some (.int (nI S)), some (.int (nI (a * S + to))), l3, l4] [] (hp X J R') = E (C (d + 5)) MX3_moveTwo 39 [some (.ref 112), some (.int (nI S)), some (.int (nI (a * S + to))), some (.int (nI ((a + 1) * S))), some (.int (nI ((a + 1) * S)))] [] (hp X J R') := by
      rw [xX3_moveTwo_7]
      simp (disch := omega) only [xX3_moveTwo_8, xX3_moveTwo_9, xX3_moveTwo_12, xX3_moveTwo_15, xX3_moveTwo_16, xX3_moveTwo_17, xX3_moveTwo_20, xX3_moveTwo_21, xX3_moveTwo_24, xX3_moveTwo_25, xX3_moveTwo_28, xX3_moveTwo_29, xX3_moveTwo_30, xX3_moveTwo_31, xX3_moveTwo_32, xX3_moveTwo_33, xX3_moveTwo_34, xX3_moveTwo_35, xX3_moveTwo_36, xX3_moveTwo_37, kd_112, kd_60, ↓reduceIte, gd_t, hK_p, hN_p, hF_p, hI_p, hJ_p, hR_p, stI_p, stJ_p, stR_p, stA_p, va_rf_s, va_rf_n, clr_i, clr_l, clr_r, clr_n, clr_o, w8_0, w8_1i, w8_1r, w8_2ii, w8_2ri, w8_2ir, w8_2rr, w8_3, beq_self_eq_true, Bool.and_self, Bool.and_true, Bool.true_and, decide_true, Option.toList_some, Option.toList_none, List.cons_append, List.nil_append, Option.bind_some, if_true, if_false, Nat.reduceLeDiff, Nat.reduceLT, Nat.reduceBEq, Bool.or_false, Bool.false_or, Bool.or_true, Bool.true_or, l.2.2.2.2.2.1, x60, pk_mul, nI_leI, nI_1, c0, s0, d1, decide_false, Bool.not_false, not_false_eq_true]
    obtain ⟨X1, J1, R1, l1, e1⟩ := mo2_2 (d := d) (k := k) (bits := bits) (y := nI ((a + 1) * S)) h hN (to := to) (by omega) hS3 ha (n - (a + 1)) (a + 1) X J R' (by omega) l
    unfold sT
    cases hs : sT (fun b => sT (ok2C I t lL lG n N k bits a to b) S 0) (n - (a + 1)) (a + 1) with
    | some r =>
      rw [hs] at e1
      exact ⟨X1, J1, R1, none, none, l1, eh.trans e1.1, e1.2⟩
    | none =>
      rw [hs] at e1
      dsimp only at e1 ⊢
      obtain ⟨X2, J2, R2, m3, m4, l2, e2⟩ := ih (to + 1) X1 J1 R1 (some (.int (nI ((a + 1) * S)))) (some (.int (nI (n * S)))) (by omega) l1
      refine ⟨X2, J2, R2, m3, m4, l2, ?_⟩
      rw [eh, e1]
      exact e2
theorem mo2_4 {d N k S : Nat} {bits : Int32} (h : cAll I R t t' n nb nm fL lL fG lG st) (hN : N ≤ 60) (hS3 : S ≤ 30) : ∀ (q a : Nat) (X : Mem) (J : MemL) (R' : MemR) (l3 l4 : Option Value), a + q = n → lI I R t lL lG n N k bits X R' → ∃ X1 J1 R1, lI I R t lL lG n N k bits X1 R1 ∧ match sT (fun a => sT (fun to => sT (fun b => sT (ok2C I t lL lG n N k bits a to b) S 0) (n - (a + 1)) (a + 1)) S 0) q a with
    | some r => E (C (d + 5)) MX3_moveTwo 7 [some (.ref 112), some (.int (nI S)), some (.int (nI (a * S))), l3, l4] [] (hp X J R') = some (some (.int 1), hp X1 J1 R1) ∧ mvR2 X1 r.1 r.2.1 r.2.2.1 r.2.2.2
    | none => E (C (d + 5)) MX3_moveTwo 7 [some (.ref 112), some (.int (nI S)), some (.int (nI (a * S))), l3, l4] [] (hp X J R') = some (some (.int 0), hp X1 J1 R1) := by
  have hn6 := h.n6
  intro q
  induction q with
  | zero =>
    intro a X J R' l3 l4 hq l
    obtain rfl : a = n := by omega
    have x60 : X 60 1 = nI a := by rw [l.1 60 (Or.inl ⟨by unfold kpA; omega, by omega, by omega⟩)]; exact h.now.2.1
    have hnS : a * S ≤ 6 * 30 := Nat.mul_le_mul hn6 hS3
    have c0 : a * S ≤ a * S := Nat.le_refl _
    refine ⟨X, J, R', l, ?_⟩
    unfold sT
    dsimp only
    rw [xX3_moveTwo_7]
    simp (disch := omega) only [xX3_moveTwo_8, xX3_moveTwo_9, xX3_moveTwo_12, xX3_moveTwo_15, xX3_moveTwo_16, xX3_moveTwo_17, kd_112, kd_60, xX3_moveTwo_106, xX3_moveTwo_107, ↓reduceIte, gd_t, hK_p, hN_p, hF_p, hI_p, hJ_p, hR_p, stI_p, stJ_p, stR_p, stA_p, va_rf_s, va_rf_n, clr_i, clr_l, clr_r, clr_n, clr_o, w8_0, w8_1i, w8_1r, w8_2ii, w8_2ri, w8_2ir, w8_2rr, w8_3, beq_self_eq_true, Bool.and_self, Bool.and_true, Bool.true_and, decide_true, Option.toList_some, Option.toList_none, List.cons_append, List.nil_append, Option.bind_some, if_true, if_false, Nat.reduceLeDiff, Nat.reduceLT, Nat.reduceBEq, Bool.or_false, Bool.false_or, Bool.or_true, Bool.true_or, l.2.2.2.2.2.1, x60, pk_mul, nI_leI, c0, z01]
  | succ q ih =>
    intro a X J R' l3 l4 hq l
    obtain ⟨X1, J1, R1, m3, m4, l1, e1⟩ := mo2_3 (d := d) (k := k) (bits := bits) h hN hS3 (a := a) (by omega) S 0 X J R' l3 l4 (by omega) l
    simp only [Nat.add_zero] at e1
    unfold sT
    cases hs : sT (fun to => sT (fun b => sT (ok2C I t lL lG n N k bits a to b) S 0) (n - (a + 1)) (a + 1)) S 0 with
    | some r =>
      rw [hs] at e1
      exact ⟨X1, J1, R1, l1, e1⟩
    | none =>
      rw [hs] at e1
      dsimp only at e1 ⊢
      obtain ⟨X2, J2, R2, l2, e2⟩ := ih (a + 1) X1 J1 R1 m3 m4 (by omega) l1
      refine ⟨X2, J2, R2, l2, ?_⟩
      rw [e1]
      exact e2
/-- hear: the own times of told ones -/
theorem her_c {d N : Nat} {bits : Int32} (h : cAll I R t t' n nb nm fL lL fG lG st) (hN : N ≤ 60) : ∀ (q c : Nat) (X : Mem) (J : MemL) (R' : MemR), c + q = n → tkL I X → X 112 8 = bits → X 112 9 = nI N → R' 112 1 = some 60 → rk R R' → (∀ i, i < c → isB bits (nI i) → X 115 i = owF I t lL lG n N i) → ∃ X1 J1 R1, E (C (d + 5)) MX3_hear 2 [some (.ref 112), some (.int (nI c))] [] (hp X J R') = some (none, hp X1 J1 R1) ∧ (∀ a, a < 88 ∨ 102 ≤ a → a ≠ 115 → X1 a = X a) ∧ (∀ a, a ≠ 88 → R1 a = R' a) ∧ ∀ i, i < n → isB bits (nI i) → X1 115 i = owF I t lL lG n N i := by
  have hn6 := h.n6
  have ht2 := te_hi h.te
  have hm : isMo 88 := Or.inr (Or.inr rfl)
  intro q
  induction q with
  | zero =>
    intro c X J R' hq kx f8 f9 hr rq ho
    obtain rfl : c = n := by omega
    have x60 : X 60 1 = nI c := by rw [kx 60 (Or.inl ⟨by unfold kpA; omega, by omega, by omega⟩)]; exact h.now.2.1
    have c0 : c ≤ c := Nat.le_refl c
    refine ⟨X, J, R', ?_, fun _ _ _ => rfl, fun _ _ => rfl, ho⟩
    rw [xX3_hear_2]
    simp (disch := omega) only [xX3_hear_3, xX3_hear_4, xX3_hear_7, xX3_hear_10, xX3_hear_13, xX3_hear_14, xX3_hear_17, xX3_hear_18, xX3_hear_19, xX3_hear_20, xX3_hear_21, xX3_hear_22, xX3_hear_25, xX3_hear_26, xX3_hear_29, xX3_hear_30, xX3_hear_33, xX3_hear_36, xX3_hear_37, xX3_hear_40, xX3_hear_43, xX3_hear_44, xX3_hear_47, xX3_hear_50, xX3_hear_53, xX3_hear_54, xX3_hear_57, xX3_hear_58, xX3_hear_61, xX3_hear_62, xX3_hear_65, xX3_hear_66, xX3_hear_69, xX3_hear_72, xX3_hear_73, xX3_hear_76, xX3_hear_77, xX3_hear_78, xX3_hear_81, xX3_hear_84, xX3_hear_85, xX3_hear_86, xX3_hear_87, xX3_hear_90, xX3_hear_93, kd_112, fi_112_0, kd_88, fi_112_4, kd_115, ln_115, kd_60, fi_60_6, kd_62, ln_62, fi_60_7, kd_63, ln_63, fi_60_13, kd_69, ln_69, ↓reduceIte, gd_t, hK_p, hN_p, hF_p, hI_p, hJ_p, hR_p, stI_p, stJ_p, stR_p, stA_p, va_rf_s, va_rf_n, clr_i, clr_l, clr_r, clr_n, clr_o, w8_0, w8_1i, w8_1r, w8_2ii, w8_2ri, w8_2ir, w8_2rr, w8_3, beq_self_eq_true, Bool.and_self, Bool.and_true, Bool.true_and, decide_true, Option.toList_some, Option.toList_none, List.cons_append, List.nil_append, Option.bind_some, if_true, if_false, Nat.reduceLeDiff, Nat.reduceLT, Nat.reduceBEq, Bool.or_false, Bool.false_or, Bool.or_true, Bool.true_or, nI_leI, nI_ltI, nI_eq, nI_clamp, inb_n, up_s, up_n, bx_uu, nI_1, ix6, nI_0n, pk_us, pk_un, ge_0n, hr, x60, c0]
  | succ q ih =>
    intro c X J R' hq kx f8 f9 hr rq ho
    have hc : c < n := by omega
    have hc6 : c < 6 := by omega
    have ox : ∀ a, a < 60 → X a = I a := fun a ha => kx a (Or.inl ⟨by unfold kpA; omega, by omega, by omega⟩)
    have x60' : X 60 = I 60 := kx 60 (Or.inl ⟨by unfold kpA; omega, by omega, by omega⟩)
    have x62 : X 62 = I 62 := kx 62 (Or.inl ⟨by unfold kpA; omega, by omega, by omega⟩)
    have x63 : X 63 = I 63 := kx 63 (Or.inl ⟨by unfold kpA; omega, by omega, by omega⟩)
    have x60 : X 60 1 = nI n := by rw [x60']; exact h.now.2.1
    have c0 : ¬ n ≤ c := by omega
    by_cases z : isB bits (nI c)
    · have z' : bits >>> (nI c &&& 31) &&& 1 = 1 := z
      have hR60 : R' 60 0 = some t := by rw [rq 60 (by decide)]; exact h.now.1
      have hnc : X (t + 5) 1 = nI n := by rw [ox _ (by omega)]; exact h.nc
      have hok : okL X t lL lG := by
        have := cLws_okL h.lws
        unfold okL at this ⊢
        simp (disch := omega) only [ox]
        exact this
      have eb := beg_spec (d := d + 1) (m := 88) (t := t) (b := 62) (p := 63) (n := n) (I := X) (J := J) (R := R') hm h.te kd_62 ln_62 kd_63 ln_63 (by omega) (by omega) hnc hn6
      have s1 := cBeg2 (R := R') (m := 88) (b := 62) (p := 63) (B := I 62) (Pl := I 63) hm h.te hnc hn6 hok (by rw [ox _ (by omega)]; exact phO_txt h) (by rw [x62]; exact eqR.rf) (by rw [x63]; exact eqR.rf)
      rw [P0_o h.te ox] at s1
      have r1 : ∀ a, a ≠ 88 → va_up R' 88 (va_up (R' 88) 0 (some t)) a = R' a := fun a ha => up_n ha
      have oq : ∀ a, a < 88 ∨ 102 ≤ a → begM X 88 t 62 63 n a = X a := fun a ha => begM_o (by omega)
      generalize va_up R' 88 (va_up (R' 88) 0 (some t)) = R1 at *
      generalize begM X 88 t 62 63 n = Q1 at *
      have ea := alo_spec (d := d + 4) (m := 88) (n := n) (c := c) (I := Q1) (J := J) (R := R1) hm s1.1.2.1 hn6 hc6
      have s2 : cSt (va_up Q1 (88 + 6) (aloF n c (Q1 (88 + 6)))) R1 88 t lL lG n (ownP I t lL lG c) 0 := by
        refine cSt_567 hm h.te s1 (fun a _ h6 _ => up_n h6) ?_ ?_ ?_ (phO_txt h)
        · rw [up_n (by decide)]; exact s1.1.2.2.2.2.2.2.1
        · intro i hi j hj
          rw [up_s, aloF_at]
          have h6 := s1.1.2.2.2.2.2.2.2.2.2.2.1 i hi j hj
          unfold acO
          by_cases z : i = c
          · subst z
            rw [if_neg (by omega), h6, decide_eq_true rfl, Bool.and_true]
            rfl
          · rw [if_pos ⟨hi, z⟩, decide_eq_false (nI_nm hj), decide_eq_false z, Bool.and_false]
        · rw [up_n (by decide)]; exact s1.2.2.1.1
      obtain ⟨I2, J2, e2, s3, o2⟩ := cSt_go (d := d) (J := J) (k := N) hm h.te hn6 (by omega) s2
      have g1 : I2 97 c = owF I t lL lG n N c := s3.2.2.1.2.2.1 c hc
      have io : ∀ a, a < 88 ∨ 102 ≤ a → I2 a = X a := fun a ha => by rw [o2 a ha, up_n (by omega), oq a ha]
      have q9 : Q1 112 9 = nI N := by rw [oq 112 (by omega)]; exact f9
      have hr1 : R1 112 1 = some 60 := by rw [r1 112 (by decide)]; exact hr
      generalize hY : va_up I2 115 (upd (I2 115) c (owF I t lL lG n N c)) = Y
      have yo : ∀ a, a < 88 ∨ 102 ≤ a → a ≠ 115 → Y a = X a := fun a ha h5 => by rw [← hY, up_n h5, io a ha]
      obtain ⟨X3, J3, R3, e3, o3, r3, w3⟩ := ih (c + 1) Y J2 R1 (by omega) (fun a ha => by rw [yo a (by unfold kpA at ha; omega) (by unfold kpA at ha; omega)]; exact kx a ha) (by rw [yo 112 (by omega) (by omega)]; exact f8) (by rw [yo 112 (by omega) (by omega)]; exact f9) hr1 (fun a ha => by rw [r1 a (by omega)]; exact rq a ha) (fun i hi hb => by
        rw [← hY, up_s]
        by_cases w : i = c
        · rw [w, pk_us]
        · rw [pk_un w, io 115 (by omega)]
          exact ho i (by omega) hb)
      refine ⟨X3, J3, R3, ?_, fun a h1 h2 => (o3 a h1 h2).trans (yo a h1 h2), fun a ha => (r3 a ha).trans (r1 a ha), w3⟩
      rw [← e3, xX3_hear_2]
      simp (disch := omega) only [xX3_hear_3, xX3_hear_4, xX3_hear_7, xX3_hear_10, xX3_hear_13, xX3_hear_14, xX3_hear_17, xX3_hear_18, xX3_hear_19, xX3_hear_20, xX3_hear_21, xX3_hear_22, xX3_hear_25, xX3_hear_26, xX3_hear_29, xX3_hear_30, xX3_hear_33, xX3_hear_36, xX3_hear_37, xX3_hear_40, xX3_hear_43, xX3_hear_44, xX3_hear_47, xX3_hear_50, xX3_hear_53, xX3_hear_54, xX3_hear_57, xX3_hear_58, xX3_hear_61, xX3_hear_62, xX3_hear_65, xX3_hear_66, xX3_hear_69, xX3_hear_72, xX3_hear_73, xX3_hear_76, xX3_hear_77, xX3_hear_78, xX3_hear_81, xX3_hear_84, xX3_hear_85, xX3_hear_86, xX3_hear_87, xX3_hear_90, kd_112, fi_112_0, kd_88, fi_112_4, kd_115, ln_115, kd_60, fi_60_6, kd_62, ln_62, fi_60_7, kd_63, ln_63, fi_60_13, kd_69, ln_69, fi_88_6, kd_90, ln_90, fi_88_7, kd_91, ln_91, fi_88_13, kd_97, ln_97, kd_88, kd_62, kd_63, ↓reduceIte, gd_t, hK_p, hN_p, hF_p, hI_p, hJ_p, hR_p, stI_p, stJ_p, stR_p, stA_p, va_rf_s, va_rf_n, clr_i, clr_l, clr_r, clr_n, clr_o, w8_0, w8_1i, w8_1r, w8_2ii, w8_2ri, w8_2ir, w8_2rr, w8_3, beq_self_eq_true, Bool.and_self, Bool.and_true, Bool.true_and, decide_true, Option.toList_some, Option.toList_none, List.cons_append, List.nil_append, Option.bind_some, if_true, if_false, Nat.reduceLeDiff, Nat.reduceLT, Nat.reduceBEq, Bool.or_false, Bool.false_or, Bool.or_true, Bool.true_or, nI_leI, nI_ltI, nI_eq, nI_clamp, inb_n, up_s, up_n, bx_uu, nI_1, ix6, nI_0n, pk_us, pk_un, ge_0n, hr, hr1, hR60, x60, f8, c0, z', w8_4, eb, ea, q9, e2, g1, hY, not_true_eq_false]
    · have z' : ¬ bits >>> (nI c &&& 31) &&& 1 = 1 := z
      obtain ⟨X3, J3, R3, e3, o3, r3, w3⟩ := ih (c + 1) X J R' (by omega) kx f8 f9 hr rq (fun i hi hb => by
        by_cases w : i = c
        · rw [w] at hb; exact absurd hb z
        · exact ho i (by omega) hb)
      refine ⟨X3, J3, R3, ?_, o3, r3, w3⟩
      rw [← e3, xX3_hear_2]
      simp (disch := omega) only [xX3_hear_3, xX3_hear_4, xX3_hear_7, xX3_hear_10, xX3_hear_13, xX3_hear_14, xX3_hear_17, xX3_hear_18, xX3_hear_19, xX3_hear_20, xX3_hear_21, xX3_hear_22, xX3_hear_25, xX3_hear_26, xX3_hear_29, xX3_hear_30, xX3_hear_33, xX3_hear_36, xX3_hear_37, xX3_hear_40, xX3_hear_43, xX3_hear_44, xX3_hear_47, xX3_hear_50, xX3_hear_53, xX3_hear_54, xX3_hear_57, xX3_hear_58, xX3_hear_61, xX3_hear_62, xX3_hear_65, xX3_hear_66, xX3_hear_69, xX3_hear_72, xX3_hear_73, xX3_hear_76, xX3_hear_77, xX3_hear_78, xX3_hear_81, xX3_hear_84, xX3_hear_85, xX3_hear_86, xX3_hear_87, xX3_hear_90, kd_112, fi_112_0, kd_88, fi_112_4, kd_115, ln_115, kd_60, fi_60_6, kd_62, ln_62, fi_60_7, kd_63, ln_63, fi_60_13, kd_69, ln_69, ↓reduceIte, gd_t, hK_p, hN_p, hF_p, hI_p, hJ_p, hR_p, stI_p, stJ_p, stR_p, stA_p, va_rf_s, va_rf_n, clr_i, clr_l, clr_r, clr_n, clr_o, w8_0, w8_1i, w8_1r, w8_2ii, w8_2ri, w8_2ir, w8_2rr, w8_3, beq_self_eq_true, Bool.and_self, Bool.and_true, Bool.true_and, decide_true, Option.toList_some, Option.toList_none, List.cons_append, List.nil_append, Option.bind_some, if_true, if_false, Nat.reduceLeDiff, Nat.reduceLT, Nat.reduceBEq, Bool.or_false, Bool.false_or, Bool.or_true, Bool.true_or, nI_leI, nI_ltI, nI_eq, nI_clamp, inb_n, up_s, up_n, bx_uu, nI_1, ix6, nI_0n, pk_us, pk_un, ge_0n, hr, x60, f8, c0, z', not_false_eq_true]
end LEC

-- LEAST, 2: the class's search
/-- a search that answers -/
def sT {α : Type} (f : Nat → Option α) : Nat → Nat → Option α
  | 0, _ => none
  | q + 1, i => match f i with
    | some r => some r
    | none => sT f q (i + 1)
theorem sT_none {α : Type} {f : Nat → Option α} (h : ∀ i, f i = none) : ∀ q i, sT f q i = none
  | 0, _ => rfl
  | q + 1, i => by
    unfold sT
    rw [h i]
    exact sT_none h q (i + 1)
def owF (I : Mem) (t lL lG n N : Nat) : Nat → Int32 := fun c => (rnG (ownP I t lL lG c) n N).2.2.1 c
def kK (I : Mem) (t lL lG n N k : Nat) (bits : Int32) (B Pl : Nat → Int32) : Int32 := kpV (P0 I t lL lG B Pl) n N bits (nI k) (owF I t lL lG n N)
def ok1 (I : Mem) (t lL lG n N k : Nat) (bits : Int32) (c to : Nat) : Bool := mvd I c to && (decide (¬ frV n (upd (I 62) c (nI (to / 10))) (upd (I 63) c (nI (to % 10))) = 0) && decide (¬ kK I t lL lG n N k bits (upd (I 62) c (nI (to / 10))) (upd (I 63) c (nI (to % 10))) = 0))
def ok2 (I : Mem) (t lL lG n N k : Nat) (bits : Int32) (a to b to2 : Nat) : Bool := mvd I b to2 && (decide (¬ frV n (upd (upd (I 62) a (nI (to / 10))) b (nI (to2 / 10))) (upd (upd (I 63) a (nI (to % 10))) b (nI (to2 % 10))) = 0) && decide (¬ kK I t lL lG n N k bits (upd (upd (I 62) a (nI (to / 10))) b (nI (to2 / 10))) (upd (upd (I 63) a (nI (to % 10))) b (nI (to2 % 10))) = 0))
section LEB
variable {I X : Mem} {J : MemL} {R R' : MemR} {t t' n nb nm fL lL fG lG st : Nat}
/-- the class in its search -/
def lI (I : Mem) (R : MemR) (t lL lG n N k : Nat) (bits : Int32) (X : Mem) (R' : MemR) : Prop := tkL I X ∧ X 112 7 = 1 ∧ X 112 8 = bits ∧ X 112 9 = nI N ∧ X 112 10 = nI k ∧ R' 112 1 = some 60 ∧ rk R R' ∧ ∀ c, c < n → isB bits (nI c) → X 115 c = owF I t lL lG n N c
theorem lI_o {N k : Nat} {bits : Int32} {X1 : Mem} {R1 : MemR} (h : lI I R t lL lG n N k bits X R') (o : ∀ a, a < 88 ∨ 102 ≤ a → a ≠ 113 → a ≠ 114 → a ≠ 116 → X1 a = X a) (r : ∀ a, a ≠ 88 → R1 a = R' a) : lI I R t lL lG n N k bits X1 R1 := by
  obtain ⟨h1, h2, h3, h4, h5, h6, h7, h8⟩ := h
  refine ⟨fun a ha => ?_, ?_, ?_, ?_, ?_, ?_, fun a ha => ?_, ?_⟩
  · rw [o a (by unfold kpA at ha; omega) (by unfold kpA at ha; omega) (by unfold kpA at ha; omega) (by omega)]; exact h1 a ha
  · rw [o 112 (by omega) (by omega) (by omega) (by omega)]; exact h2
  · rw [o 112 (by omega) (by omega) (by omega) (by omega)]; exact h3
  · rw [o 112 (by omega) (by omega) (by omega) (by omega)]; exact h4
  · rw [o 112 (by omega) (by omega) (by omega) (by omega)]; exact h5
  · rw [r 112 (by decide)]; exact h6
  · rw [r a (by omega)]; exact h7 a ha
  · rw [o 115 (by omega) (by omega) (by omega) (by omega)]; exact h8
theorem cp_eq {f g : Nat → Int32} (hn : n ≤ 6) : eqR n (cpF f g 6) f := fun c hc => cpF_at (by omega)
def mvR (X : Mem) (c to : Nat) : Prop := X 116 0 = nI c ∧ X 116 1 = nI (to / 10) ∧ X 116 2 = nI (to % 10)
/-- allApart, then keepsTime, of rows that are hung so -/
theorem fk_c {d N k : Nat} {bits : Int32} {B Pl : Nat → Int32} (h : cAll I R t t' n nb nm fL lL fG lG st) (l : lI I R t lL lG n N k bits X R') (hN : N ≤ 60) (eb : eqR n (X 113) B) (ep : eqR n (X 114) Pl) : C (d + 5) MX3_allApart [.ref 112] (hp X J R') = some (some (.int (frV n B Pl)), hp X J R') ∧ ∃ X1 J1 R1, C (d + 5) MX3_keepsTime [.ref 112] (hp X J R') = some (some (.int (kK I t lL lG n N k bits B Pl)), hp X1 J1 R1) ∧ (∀ a, a < 88 ∨ 102 ≤ a → X1 a = X a) ∧ ∀ a, a ≠ 88 → R1 a = R' a := by
  have x60 : X 60 1 = nI n := by rw [l.1 60 (Or.inl ⟨by unfold kpA; omega, by omega, by omega⟩)]; exact h.now.2.1
  have e1 := apt_c (d := d + 4) (X := X) (J := J) l.2.2.2.2.2.1 x60 h.n6
  rw [frV_eq eb ep] at e1
  exact ⟨e1, kpt_c (d := d) (J := J) h l.1 l.2.2.2.2.2.1 l.2.2.2.2.2.2.1 l.2.2.1 l.2.2.2.1 l.2.2.2.2.1 hN l.2.2.2.2.2.2.2 eb ep⟩
theorem mvd_X {c to N k : Nat} {bits : Int32} (l : lI I R t lL lG n N k bits X R') : mvd X c to = mvd I c to ∧ X 62 = I 62 ∧ X 63 = I 63 := by
  have e2 : X 62 = I 62 := l.1 62 (Or.inl ⟨by unfold kpA; omega, by omega, by omega⟩)
  have e3 : X 63 = I 63 := l.1 63 (Or.inl ⟨by unfold kpA; omega, by omega, by omega⟩)
  unfold mvd
  rw [e2, e3]
  exact ⟨rfl, rfl, rfl⟩
/-- one try of moveOne -/
theorem one_c {d N k c to S : Nat} {bits : Int32} (h : cAll I R t t' n nb nm fL lL fG lG st) (l : lI I R t lL lG n N k bits X R') (hN : N ≤ 60) (hS : to < S) (hS3 : S ≤ 30) (hc : c < n) : ∃ X1 J1 R1, lI I R t lL lG n N k bits X1 R1 ∧ (∀ j, 3 ≤ j → X1 116 j = X 116 j) ∧ (if ok1 I t lL lG n N k bits c to = true then E (C (d + 5)) MX3_moveOne 20 [some (.ref 112), some (.int (nI S)), some (.int (nI (c * S + to)))] [] (hp X J R') = some (some (.int 1), hp X1 J1 R1) ∧ mvR X1 c to else E (C (d + 5)) MX3_moveOne 20 [some (.ref 112), some (.int (nI S)), some (.int (nI (c * S + to)))] [] (hp X J R') = E (C (d + 5)) MX3_moveOne 50 [some (.ref 112), some (.int (nI S)), some (.int (nI (c * S + to)))] [] (hp X1 J1 R1)) := by
  have hn6 := h.n6
  have n1 : ¬ (1 : Int32) = 0 := by decide
  have eB := ptb_c (d := d + 4) (X := X) (J := J) l.2.2.2.2.2.1
  obtain ⟨_, x62, x63⟩ := mvd_X (c := c) (to := to) l
  rw [x62, x63] at eB
  generalize hX0 : va_up (va_up X 113 (cpF (I 62) (X 113) 6)) 114 (cpF (I 63) (X 114) 6) = X0 at eB
  have o0 : ∀ a, a ≠ 113 → a ≠ 114 → X0 a = X a := fun a h1 h2 => by rw [← hX0, up_n h2, up_n h1]
  have l0 : lI I R t lL lG n N k bits X0 R' := lI_o l (fun a _ h1 h2 _ => o0 a h1 h2) (fun _ _ => rfl)
  have e113 : X0 113 = cpF (I 62) (X 113) 6 := by rw [← hX0, up_n (by decide), up_s]
  have e114 : X0 114 = cpF (I 63) (X 114) 6 := by rw [← hX0, up_s]
  have eP := put_c (d := d + 4) (c := c) (to := to) (S := S) (fr := 0) (X := X0) (J := J) l0.2.2.2.2.2.1 hS hS3 (by omega) (by omega)
  rw [(mvd_X (c := c) (to := to) l0).1, nI_0] at eP
  unfold ok1
  by_cases zm : mvd I c to = true
  · rw [if_pos zm] at eP
    simp only [zm, if_true, Bool.true_and, Nat.zero_add] at eP ⊢
    generalize hX1 : va_up (va_up (va_up X0 113 (upd (X0 113) c (nI (to / 10)))) 114 (upd (X0 114) c (nI (to % 10)))) 116 (upd (upd (upd (X0 116) 0 (nI c)) 1 (nI (to / 10))) 2 (nI (to % 10))) = X1 at eP
    have o1 : ∀ a, a ≠ 113 → a ≠ 114 → a ≠ 116 → X1 a = X a := fun a h1 h2 h3 => by rw [← hX1, up_n h3, up_n h2, up_n h1]; exact o0 a h1 h2
    have l1 : lI I R t lL lG n N k bits X1 R' := lI_o l (fun a _ h1 h2 h3 => o1 a h1 h2 h3) (fun _ _ => rfl)
    have r116 : X1 116 = upd (upd (upd (X 116) 0 (nI c)) 1 (nI (to / 10))) 2 (nI (to % 10)) := by rw [← hX1, up_s, o0 116 (by decide) (by decide)]
    have eb : eqR n (X1 113) (upd (I 62) c (nI (to / 10))) := by
      rw [← hX1, up_n (by decide), up_n (by decide), up_s, e113]
      exact eqR_up (cp_eq hn6)
    have ep : eqR n (X1 114) (upd (I 63) c (nI (to % 10))) := by
      rw [← hX1, up_n (by decide), up_s, e114]
      exact eqR_up (cp_eq hn6)
    obtain ⟨eF, X2, J2, R2, eK, o2, r2⟩ := fk_c (d := d) (J := J) h l1 hN eb ep
    have hm : mvR X1 c to := by
      unfold mvR
      rw [r116]
      refine ⟨?_, ?_, ?_⟩
      · rw [pk_un (by decide), pk_un (by decide), pk_us]
      · rw [pk_un (by decide), pk_us]
      · rw [pk_us]
    have h3 : ∀ j, 3 ≤ j → X1 116 j = X 116 j := fun j hj => by rw [r116, pk_un (by omega), pk_un (by omega), pk_un (by omega)]
    by_cases zf : frV n (upd (I 62) c (nI (to / 10))) (upd (I 63) c (nI (to % 10))) = 0
    · refine ⟨X1, J, R', l1, h3, ?_⟩
      rw [if_neg (by simp [zf])]
      simp (disch := omega) only [xX3_moveOne_20, xX3_moveOne_21, xX3_moveOne_24, xX3_moveOne_25, xX3_moveOne_26, xX3_moveOne_27, xX3_moveOne_28, xX3_moveOne_31, xX3_moveOne_34, xX3_moveOne_35, xX3_moveOne_38, xX3_moveOne_41, xX3_moveOne_42, xX3_moveOne_45, xX3_moveOne_48, xX3_moveOne_49, kd_112, kd_112, ↓reduceIte, gd_t, hK_p, hN_p, hF_p, hI_p, hJ_p, hR_p, stI_p, stJ_p, stR_p, stA_p, va_rf_s, va_rf_n, clr_i, clr_l, clr_r, clr_n, clr_o, w8_0, w8_1i, w8_1r, w8_2ii, w8_2ri, w8_2ir, w8_2rr, w8_3, beq_self_eq_true, Bool.and_self, Bool.and_true, Bool.true_and, decide_true, Option.toList_some, Option.toList_none, List.cons_append, List.nil_append, Option.bind_some, if_true, if_false, Nat.reduceLeDiff, Nat.reduceLT, Nat.reduceBEq, Bool.or_false, Bool.false_or, Bool.or_true, Bool.true_or, w8_4, eB, eP, eF, zf, n1]
    · have l2 : lI I R t lL lG n N k bits X2 R2 := lI_o l1 (fun a h1 _ _ _ => o2 a h1) r2
      have h32 : ∀ j, 3 ≤ j → X2 116 j = X 116 j := fun j hj => by rw [o2 116 (by omega)]; exact h3 j hj
      by_cases zk : kK I t lL lG n N k bits (upd (I 62) c (nI (to / 10))) (upd (I 63) c (nI (to % 10))) = 0
      · refine ⟨X2, J2, R2, l2, h32, ?_⟩
        rw [if_neg (by simp [zk])]
        simp (disch := omega) only [xX3_moveOne_20, xX3_moveOne_21, xX3_moveOne_24, xX3_moveOne_25, xX3_moveOne_26, xX3_moveOne_27, xX3_moveOne_28, xX3_moveOne_31, xX3_moveOne_34, xX3_moveOne_35, xX3_moveOne_38, xX3_moveOne_41, xX3_moveOne_42, xX3_moveOne_45, xX3_moveOne_48, xX3_moveOne_49, kd_112, kd_112, ↓reduceIte, gd_t, hK_p, hN_p, hF_p, hI_p, hJ_p, hR_p, stI_p, stJ_p, stR_p, stA_p, va_rf_s, va_rf_n, clr_i, clr_l, clr_r, clr_n, clr_o, w8_0, w8_1i, w8_1r, w8_2ii, w8_2ri, w8_2ir, w8_2rr, w8_3, beq_self_eq_true, Bool.and_self, Bool.and_true, Bool.true_and, decide_true, Option.toList_some, Option.toList_none, List.cons_append, List.nil_append, Option.bind_some, if_true, if_false, Nat.reduceLeDiff, Nat.reduceLT, Nat.reduceBEq, Bool.or_false, Bool.false_or, Bool.or_true, Bool.true_or, w8_4, eB, eP, eF, zf, eK, zk, n1]
      · refine ⟨X2, J2, R2, l2, h32, ?_⟩
        rw [if_pos (by simp [zf, zk])]
        refine ⟨?_, ?_⟩
        · simp (disch := omega) only [xX3_moveOne_20, xX3_moveOne_21, xX3_moveOne_24, xX3_moveOne_25, xX3_moveOne_26, xX3_moveOne_27, xX3_moveOne_28, xX3_moveOne_31, xX3_moveOne_34, xX3_moveOne_35, xX3_moveOne_38, xX3_moveOne_41, xX3_moveOne_42, xX3_moveOne_45, xX3_moveOne_48, xX3_moveOne_49, kd_112, kd_112, ↓reduceIte, gd_t, hK_p, hN_p, hF_p, hI_p, hJ_p, hR_p, stI_p, stJ_p, stR_p, stA_p, va_rf_s, va_rf_n, clr_i, clr_l, clr_r, clr_n, clr_o, w8_0, w8_1i, w8_1r, w8_2ii, w8_2ri, w8_2ir, w8_2rr, w8_3, beq_self_eq_true, Bool.and_self, Bool.and_true, Bool.true_and, decide_true, Option.toList_some, Option.toList_none, List.cons_append, List.nil_append, Option.bind_some, if_true, if_false, Nat.reduceLeDiff, Nat.reduceLT, Nat.reduceBEq, Bool.or_false, Bool.false_or, Bool.or_true, Bool.true_or, w8_4, eB, eP, eF, zf, eK, zk, n1, z11]
        · unfold mvR
          rw [o2 116 (by omega)]
          exact hm
  · rw [if_neg zm] at eP
    rw [if_neg zm] at eP
    refine ⟨X0, J, R', l0, fun j _ => by rw [o0 116 (by decide) (by decide)], ?_⟩
    have zm' : mvd I c to = false := by simpa using zm
    rw [if_neg (by simp [zm'])]
    simp (disch := omega) only [xX3_moveOne_20, xX3_moveOne_21, xX3_moveOne_24, xX3_moveOne_25, xX3_moveOne_26, xX3_moveOne_27, xX3_moveOne_28, xX3_moveOne_31, xX3_moveOne_34, xX3_moveOne_35, xX3_moveOne_38, xX3_moveOne_41, xX3_moveOne_42, xX3_moveOne_45, xX3_moveOne_48, xX3_moveOne_49, kd_112, kd_112, ↓reduceIte, gd_t, hK_p, hN_p, hF_p, hI_p, hJ_p, hR_p, stI_p, stJ_p, stR_p, stA_p, va_rf_s, va_rf_n, clr_i, clr_l, clr_r, clr_n, clr_o, w8_0, w8_1i, w8_1r, w8_2ii, w8_2ri, w8_2ir, w8_2rr, w8_3, beq_self_eq_true, Bool.and_self, Bool.and_true, Bool.true_and, decide_true, Option.toList_some, Option.toList_none, List.cons_append, List.nil_append, Option.bind_some, if_true, if_false, Nat.reduceLeDiff, Nat.reduceLT, Nat.reduceBEq, Bool.or_false, Bool.false_or, Bool.or_true, Bool.true_or, w8_4, eB, eP]
theorem mo1_i {d N k c S : Nat} {bits : Int32} (h : cAll I R t t' n nb nm fL lL fG lG st) (hN : N ≤ 60) (hS3 : S ≤ 30) (hc : c < n) : ∀ (q to : Nat) (X : Mem) (J : MemL) (R' : MemR), to + q = S → lI I R t lL lG n N k bits X R' → ∃ X1 J1 R1, lI I R t lL lG n N k bits X1 R1 ∧ (∀ j, 3 ≤ j → X1 116 j = X 116 j) ∧ match sT (fun to => if ok1 I t lL lG n N k bits c to = true then some (c, to) else none) q to with
    | some r => E (C (d + 5)) MX3_moveOne 7 [some (.ref 112), some (.int (nI S)), some (.int (nI (c * S + to)))] [] (hp X J R') = some (some (.int 1), hp X1 J1 R1) ∧ mvR X1 r.1 r.2
    | none => E (C (d + 5)) MX3_moveOne 7 [some (.ref 112), some (.int (nI S)), some (.int (nI (c * S + to)))] [] (hp X J R') = E (C (d + 5)) MX3_moveOne 7 [some (.ref 112), some (.int (nI S)), some (.int (nI ((c + 1) * S)))] [] (hp X1 J1 R1) := by
  have hn6 := h.n6
  intro q
  induction q with
  | zero =>
    intro to X J R' hq l
    obtain rfl : to = S := by omega
    refine ⟨X, J, R', l, fun _ _ => rfl, ?_⟩
    unfold sT
    dsimp only
    rw [Nat.add_mul, Nat.one_mul]
  | succ q ih =>
    intro to X J R' hq l
    have x60 : X 60 1 = nI n := by rw [l.1 60 (Or.inl ⟨by unfold kpA; omega, by omega, by omega⟩)]; exact h.now.2.1
    have hcS : c * S + to < n * S := by
      have : (c + 1) * S ≤ n * S := Nat.mul_le_mul_right S (by omega)
      rw [Nat.add_mul, Nat.one_mul] at this
      omega
    have hnS : n * S ≤ 6 * 30 := Nat.mul_le_mul hn6 hS3
    have c0 : ¬ n * S ≤ c * S + to := by omega
    have eh : E (C (d + 5)) MX3_moveOne 7 [some (.ref 112), some (.int (nI S)), some (.int (nI (c * S + to)))] [] (hp X J R') = E (C (d + 5)) MX3_moveOne 20 [some (.ref 112), some (.int (nI S)), some (.int (nI (c * S + to)))] [] (hp X J R') := by
      rw [xX3_moveOne_7]
      simp (disch := omega) only [xX3_moveOne_8, xX3_moveOne_9, xX3_moveOne_12, xX3_moveOne_15, xX3_moveOne_16, xX3_moveOne_17, kd_112, kd_60, ↓reduceIte, gd_t, hK_p, hN_p, hF_p, hI_p, hJ_p, hR_p, stI_p, stJ_p, stR_p, stA_p, va_rf_s, va_rf_n, clr_i, clr_l, clr_r, clr_n, clr_o, w8_0, w8_1i, w8_1r, w8_2ii, w8_2ri, w8_2ir, w8_2rr, w8_3, beq_self_eq_true, Bool.and_self, Bool.and_true, Bool.true_and, decide_true, Option.toList_some, Option.toList_none, List.cons_append, List.nil_append, Option.bind_some, if_true, if_false, Nat.reduceLeDiff, Nat.reduceLT, Nat.reduceBEq, Bool.or_false, Bool.false_or, Bool.or_true, Bool.true_or, l.2.2.2.2.2.1, x60, pk_mul, nI_leI, c0]
    obtain ⟨X1, J1, R1, l1, h3, e1⟩ := one_c (d := d) (J := J) h l hN (to := to) (S := S) (by omega) hS3 hc
    unfold sT
    by_cases z : ok1 I t lL lG n N k bits c to = true
    · rw [if_pos z] at e1
      simp only [z, if_true]
      exact ⟨X1, J1, R1, l1, h3, eh.trans e1.1, e1.2⟩
    · rw [if_neg z] at e1
      rw [if_neg z]
      obtain ⟨X2, J2, R2, l2, h4, e2⟩ := ih (to + 1) X1 J1 R1 (by omega) l1
      refine ⟨X2, J2, R2, l2, fun j hj => (h4 j hj).trans (h3 j hj), ?_⟩
      have en : E (C (d + 5)) MX3_moveOne 7 [some (.ref 112), some (.int (nI S)), some (.int (nI (c * S + to)))] [] (hp X J R') = E (C (d + 5)) MX3_moveOne 7 [some (.ref 112), some (.int (nI S)), some (.int (nI (c * S + (to + 1))))] [] (hp X1 J1 R1) := by
        rw [eh, e1]
        simp (disch := omega) only [xX3_moveOne_50, xX3_moveOne_53, ↓reduceIte, gd_t, hK_p, hN_p, hF_p, hI_p, hJ_p, hR_p, stI_p, stJ_p, stR_p, stA_p, va_rf_s, va_rf_n, clr_i, clr_l, clr_r, clr_n, clr_o, w8_0, w8_1i, w8_1r, w8_2ii, w8_2ri, w8_2ir, w8_2rr, w8_3, beq_self_eq_true, Bool.and_self, Bool.and_true, Bool.true_and, decide_true, Option.toList_some, Option.toList_none, List.cons_append, List.nil_append, Option.bind_some, if_true, if_false, Nat.reduceLeDiff, Nat.reduceLT, Nat.reduceBEq, Bool.or_false, Bool.false_or, Bool.or_true, Bool.true_or, nI_1, Nat.add_assoc]
      dsimp only
      rw [en]
      exact e2
theorem mo1_o {d N k S : Nat} {bits : Int32} (h : cAll I R t t' n nb nm fL lL fG lG st) (hN : N ≤ 60) (hS3 : S ≤ 30) : ∀ (q c : Nat) (X : Mem) (J : MemL) (R' : MemR), c + q = n → lI I R t lL lG n N k bits X R' → ∃ X1 J1 R1, lI I R t lL lG n N k bits X1 R1 ∧ (∀ j, 3 ≤ j → X1 116 j = X 116 j) ∧ match sT (fun c => sT (fun to => if ok1 I t lL lG n N k bits c to = true then some (c, to) else none) S 0) q c with
    | some r => E (C (d + 5)) MX3_moveOne 7 [some (.ref 112), some (.int (nI S)), some (.int (nI (c * S)))] [] (hp X J R') = some (some (.int 1), hp X1 J1 R1) ∧ mvR X1 r.1 r.2
    | none => E (C (d + 5)) MX3_moveOne 7 [some (.ref 112), some (.int (nI S)), some (.int (nI (c * S)))] [] (hp X J R') = some (some (.int 0), hp X1 J1 R1) := by
  have hn6 := h.n6
  intro q
  induction q with
  | zero =>
    intro c X J R' hq l
    obtain rfl : c = n := by omega
    have x60 : X 60 1 = nI c := by rw [l.1 60 (Or.inl ⟨by unfold kpA; omega, by omega, by omega⟩)]; exact h.now.2.1
    have hnS : c * S ≤ 6 * 30 := Nat.mul_le_mul hn6 hS3
    have c0 : c * S ≤ c * S := Nat.le_refl _
    refine ⟨X, J, R', l, fun _ _ => rfl, ?_⟩
    unfold sT
    dsimp only
    rw [xX3_moveOne_7]
    simp (disch := omega) only [xX3_moveOne_8, xX3_moveOne_9, xX3_moveOne_12, xX3_moveOne_15, xX3_moveOne_16, xX3_moveOne_17, xX3_moveOne_20, xX3_moveOne_21, xX3_moveOne_24, xX3_moveOne_25, xX3_moveOne_26, xX3_moveOne_27, xX3_moveOne_28, xX3_moveOne_31, xX3_moveOne_34, xX3_moveOne_35, xX3_moveOne_38, xX3_moveOne_41, xX3_moveOne_42, xX3_moveOne_45, xX3_moveOne_48, xX3_moveOne_49, xX3_moveOne_50, xX3_moveOne_53, xX3_moveOne_56, xX3_moveOne_57, kd_112, kd_60, ↓reduceIte, gd_t, hK_p, hN_p, hF_p, hI_p, hJ_p, hR_p, stI_p, stJ_p, stR_p, stA_p, va_rf_s, va_rf_n, clr_i, clr_l, clr_r, clr_n, clr_o, w8_0, w8_1i, w8_1r, w8_2ii, w8_2ri, w8_2ir, w8_2rr, w8_3, beq_self_eq_true, Bool.and_self, Bool.and_true, Bool.true_and, decide_true, Option.toList_some, Option.toList_none, List.cons_append, List.nil_append, Option.bind_some, if_true, if_false, Nat.reduceLeDiff, Nat.reduceLT, Nat.reduceBEq, Bool.or_false, Bool.false_or, Bool.or_true, Bool.true_or, l.2.2.2.2.2.1, x60, pk_mul, nI_leI, c0, z01]
  | succ q ih =>
    intro c X J R' hq l
    obtain ⟨X1, J1, R1, l1, h3, e1⟩ := mo1_i (d := d) (k := k) (bits := bits) h hN hS3 (c := c) (by omega) S 0 X J R' (by omega) l
    simp only [Nat.add_zero] at e1
    unfold sT
    cases hs : sT (fun to => if ok1 I t lL lG n N k bits c to = true then some (c, to) else none) S 0 with
    | some r =>
      rw [hs] at e1
      exact ⟨X1, J1, R1, l1, h3, e1⟩
    | none =>
      rw [hs] at e1
      dsimp only at e1 ⊢
      obtain ⟨X2, J2, R2, l2, h4, e2⟩ := ih (c + 1) X1 J1 R1 (by omega) l1
      refine ⟨X2, J2, R2, l2, fun j hj => (h4 j hj).trans (h3 j hj), ?_⟩
      rw [e1]
      exact e2
end LEB

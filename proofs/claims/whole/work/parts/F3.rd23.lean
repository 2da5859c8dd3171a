-- TEXT, 30: a law's line, both
section LX
variable {X Y : Mem} {J J2 : MemL} {R R2 : MemR} {L p g fi : Nat} {u : Nat → Nat}
theorem lex_p {d : Nat} (hP : psR X Y L u p) (hpr : X 57 4 = 0 ∨ 0 < p) (hg : isLw g) (h1 : X g 1 = nI 0) (h2 : Y 123 20 = nI fi) (h3 : X 56 7 = nI fi) (h4 : Y 123 49 = nI fi) (h64 : fi ≤ 64) :
    xpO d J J2 R R2 L u g fi X Y p (C (d + 5) MX7_expression [.ref 56, .ref g] (hp X J R)) (C (d + 5) MX12_sumRead [.ref 123] (hp Y J2 R2)) := by
  have hg2 := lw_hi hg
  generalize hX1 : va_up X 56 (upd (upd (upd (X 56) 11 0) 8 0) 9 1) = X1
  have x1o : ∀ a, a ≠ 56 → X1 a = X a := fun a ha => by rw [← hX1, up_n ha]
  have x1k : ∀ k, k < 8 → X1 56 k = X 56 k := fun k hk => by rw [← hX1, up_s, pk_un (by omega), pk_un (by omega), pk_un (by omega)]
  generalize hY1 : va_up Y 123 (upd (upd (upd (upd (upd (Y 123) 46 0) 47 0) 48 0) 50 1) 51 1) = Y1
  have y1o : ∀ a, a ≠ 123 → Y1 a = Y a := fun a ha => by rw [← hY1, up_n ha]
  have y1k : ∀ k, k < 46 ∨ k = 49 ∨ 51 < k → Y1 123 k = Y 123 k := fun k hk => by rw [← hY1, up_s, pk_un (by omega), pk_un (by omega), pk_un (by omega), pk_un (by omega), pk_un (by omega)]
  have ec : C (d + 5) MX7_expression [.ref 56, .ref g] (hp X J R) = E (C (d + 4)) MX7_expression 19 [some (.ref 56), some (.ref g), some (.int (nI (1 - 0))), some (.int (nI 0))] [] (hp X1 J R) := by
    rw [eX7_expression, show nI (1 - 0) = 1 from rfl, show nI 0 = 0 from rfl]
    simp (disch := omega) only [xX7_expression_0, xX7_expression_1, xX7_expression_2, xX7_expression_5, xX7_expression_6, xX7_expression_7, xX7_expression_10, xX7_expression_11, xX7_expression_12, xX7_expression_15, xX7_expression_16, xX7_expression_17, xX7_expression_18, kd_56, fi_56_0, kd_57, kd_56, ↓reduceIte, gd_t, hK_p, hN_p, hF_p, hI_p, hJ_p, hR_p, stI_p, stJ_p, stR_p, stA_p, va_rf_s, va_rf_n, clr_i, clr_l, clr_r, clr_n, clr_o, w8_0, w8_1i, w8_1r, w8_2ii, w8_2ri, w8_2ir, w8_2rr, w8_3, beq_self_eq_true, Bool.and_self, Bool.and_true, Bool.true_and, decide_true, Option.toList_some, Option.toList_none, List.cons_append, List.nil_append, Option.bind_some, if_true, if_false, Nat.reduceLeDiff, Nat.reduceLT, Nat.reduceBEq, Bool.or_false, Bool.false_or, Bool.or_true, Bool.true_or, up_s, bx_uu, hX1]
  have em : C (d + 5) MX12_sumRead [.ref 123] (hp Y J2 R2) = E (C (d + 4)) MX12_sumRead 25 [some (.ref 123)] [] (hp Y1 J2 R2) := by
    rw [eX12_sumRead]
    simp (disch := omega) only [xX12_sumRead_0, xX12_sumRead_1, xX12_sumRead_2, xX12_sumRead_5, xX12_sumRead_6, xX12_sumRead_7, xX12_sumRead_10, xX12_sumRead_11, xX12_sumRead_12, xX12_sumRead_15, xX12_sumRead_16, xX12_sumRead_17, xX12_sumRead_20, xX12_sumRead_21, xX12_sumRead_22, kd_123, kd_123, ↓reduceIte, gd_t, hK_p, hN_p, hF_p, hI_p, hJ_p, hR_p, stI_p, stJ_p, stR_p, stA_p, va_rf_s, va_rf_n, clr_i, clr_l, clr_r, clr_n, clr_o, w8_0, w8_1i, w8_1r, w8_2ii, w8_2ri, w8_2ir, w8_2rr, w8_3, beq_self_eq_true, Bool.and_self, Bool.and_true, Bool.true_and, decide_true, Option.toList_some, Option.toList_none, List.cons_append, List.nil_append, Option.bind_some, if_true, if_false, Nat.reduceLeDiff, Nat.reduceLT, Nat.reduceBEq, Bool.or_false, Bool.false_or, Bool.or_true, Bool.true_or, up_s, bx_uu, hY1]
  have hP1 : psR X1 Y1 L u p := psR_m (psR_c hP (fun a ha => x1o a (by omega)) (fun k hk => x1k k (by omega))) (y1o _ (by decide)) (y1o _ (by decide)) (fun k h1 h2 => y1k k (by omega))
  have y47 : Y1 123 47 = nI 0 := by rw [← hY1, up_s, pk_un (by decide), pk_un (by decide), pk_un (by decide), pk_us]; rfl
  have hx : xpR X1 Y1 g fi 0 0 0 fi 0 := by
    refine ⟨⟨by rw [x1o g (by omega)]; exact h1, by rw [y1k 20 (by omega)]; exact h2, by omega, fun i hi => absurd hi (by omega), y47, fun j hj => absurd hj (by unfold hgt; omega)⟩, ⟨by rw [← hX1, up_s, pk_un (by decide), pk_un (by decide), pk_us]; rfl, by rw [← hY1, up_s, pk_un (by decide), pk_un (by decide), pk_un (by decide), pk_un (by decide), pk_us]; rfl, fun i hi => absurd hi (by omega)⟩, ⟨by rw [← hX1, up_s, pk_un (by decide), pk_us]; rfl, by rw [← hY1, up_s, pk_un (by decide), pk_un (by decide), pk_us]; rfl, by omega, rfl⟩, ⟨by rw [x1k 7 (by omega)]; exact h3, by rw [y1k 49 (by omega)]; exact h4, h64, by omega⟩, by rw [← hX1, up_s, pk_us, ← hY1, up_s, pk_us], rfl⟩
  have h50 : Y1 123 50 = nI (1 - 0) := by rw [← hY1, up_s, pk_un (by decide), pk_us]; rfl
  have fr : xpF g fi X X1 Y Y1 := xpF_w hg (fun a h1 _ => x1o a h1) (fun k hk => x1k k (by omega)) (fun a h1 _ => y1o a h1) (fun k hk => y1k k (by omega))
  have e57 : X1 57 = X 57 := x1o 57 (by decide)
  have hl := xpl_p (d := d) (J := J) (J2 := J2) (R := R) (R2 := R2) (fi := fi) hg 700 0 X1 Y1 p 0 0 0 fi 0 (by omega) (by rw [e57]; exact hpr) hP1 hx (by omega) h50
  rw [ec, em]
  rcases hl with ⟨X', Y', z1, z2, z3, z4⟩ | ⟨X', Y', z1, z2, z3, z4, z5, z6⟩ | ⟨X', Y', p', len, z1, z2, z3, z4, z5, z6, z7, z8, z9, z10, z11⟩
  · exact Or.inl ⟨X', Y', z1, z2, z3, fr.tr z4⟩
  · exact Or.inr (Or.inl ⟨X', Y', z1, z2, z3, z4, z5, fr.tr z6⟩)
  · exact Or.inr (Or.inr ⟨X', Y', p', len, z1, z2, z3, by rw [← e57]; exact z4, z5, z6, z7, z8, z9, z10, fr.tr z11⟩)
end LX
/-- one law of both, as it is read -/
def lw1 (X Y : Mem) (g ix f l tot : Nat) : Prop := (X g 0 = Y 141 ix ∧ (X g 0 = 0 ∨ X g 0 = 1)) ∧ X g 1 = nI l ∧ (X g 0 = 0 → l = 0) ∧ (X g 0 = 0 ∨ (cLaw (X (g + 1)) (X (g + 2)) (sh64 (Y 144)) (sh64 (Y 145)) (sh64 (Y 146)) f l ∧ Y 142 ix = nI f ∧ Y 143 ix = nI (f + l) ∧ f + l ≤ tot))
def lsR (X Y : Mem) (s fL lL fG lG : Nat) : Prop := lw1 X Y (s + 19) 2 fL lL (lL + lG) ∧ lw1 X Y (s + 23) 3 fG lG (lL + lG) ∧ Y 123 20 = nI (lL + lG) ∧ X 56 7 = nI (lL + lG) ∧ Y 123 49 = nI (lL + lG) ∧ lL + lG ≤ 64
theorem cLaw_cg {ki nu kn pa ot ki' nu' kn' pa' ot' : Nat → Int32} {fi len : Nat} (h1 : ∀ j, j < len → ki j = ki' j) (h2 : ∀ j, j < len → nu j = nu' j) (h3 : ∀ j, j < fi + len → kn j = kn' j ∧ pa j = pa' j ∧ ot j = ot' j) (h : cLaw ki nu kn pa ot fi len) : cLaw ki' nu' kn' pa' ot' fi len := by
  obtain ⟨⟨a1, a2⟩, a3, a4⟩ := h
  refine ⟨⟨fun i hi => ?_, ?_⟩, a3, fun i hi => cLw_cg hi h1 h2 h3 (a4 i hi)⟩
  · rw [← h1 i hi, ← hgt_cg (k := ki) (k' := ki') i (fun j hj => h1 j (by omega))]; exact a1 i hi
  · rw [← hgt_cg (k := ki) (k' := ki') len h1]; exact a2
theorem lw1_fr {X X' Y Y' : Mem} {g ix f l tot tot' : Nat} (h : lw1 X Y g ix f l tot) (o1 : ∀ c, c = g ∨ c = g + 1 ∨ c = g + 2 → X' c = X c) (o2 : ∀ c, c = 141 ∨ c = 142 ∨ c = 143 → Y' c ix = Y c ix) (o3 : ∀ a k, 144 ≤ a → a ≤ 146 → k < 64 + tot → Y' a k = Y a k) (ht : tot ≤ tot') : lw1 X' Y' g ix f l tot' := by
  obtain ⟨h1, h2, h3, h4⟩ := h
  unfold lw1
  rw [o1 g (by omega), o1 (g + 1) (by omega), o1 (g + 2) (by omega), o2 141 (by omega), o2 142 (by omega), o2 143 (by omega)]
  refine ⟨h1, h2, h3, h4.imp id (fun q => ?_)⟩
  obtain ⟨q1, q2, q3, q4⟩ := q
  exact ⟨cLaw_cg (fun _ _ => rfl) (fun _ _ => rfl) (fun j hj => ⟨(o3 144 _ (by omega) (by omega) (by omega)).symm, (o3 145 _ (by omega) (by omega) (by omega)).symm, (o3 146 _ (by omega) (by omega) (by omega)).symm⟩) q1, q2, q3, by omega⟩
/-- what a line of a law leaves alone -/
def lwF (s : Nat) (X X' Y Y' : Mem) : Prop := (∀ c, c ≠ 56 → c ≠ 57 → c ≠ 59 → c < s + 19 ∨ s + 25 < c → X' c = X c) ∧ (∀ k, k = 4 ∨ k = 5 → X' 56 k = X 56 k) ∧ (∀ c, c ≠ 123 → c < 141 ∨ 148 < c → Y' c = Y c) ∧ ∀ k, k < 4 ∨ (11 < k ∧ k < 20) ∨ (20 < k ∧ k < 46) ∨ 51 < k → Y' 123 k = Y 123 k
section LL
variable {X Y : Mem} {J J2 : MemL} {R R2 : MemR} {L p s fL lL fG lG : Nat} {u : Nat → Nat}
/-- which law: its handle, the kind and key of its word, its row in the model; the other one's handle and row -/
def lwT (s g kc key ix g' ix' : Nat) : Prop := (g = s + 19 ∧ kc = 34 ∧ key = 9 ∧ ix = 2 ∧ g' = s + 23 ∧ ix' = 3) ∨ (g = s + 23 ∧ kc = 35 ∧ key = 10 ∧ ix = 3 ∧ g' = s + 19 ∧ ix' = 2)
/-- what a law's line comes to -/
def laO (J J2 : MemL) (R R2 : MemR) (L : Nat) (u : Nat → Nat) (s : Nat) (X Y : Mem) (p : Nat) (oc om : Option Rs) : Prop :=
  (∃ X' Y', oc = some (some (.int 0), hp X' J R) ∧ om = some (some (.int 0), hp Y' J2 R2) ∧ faR X' Y' ∧ fC s X X' ∧ fM Y Y') ∨
  (∃ X' Y', oc = some (some (.int 1), hp X' J R) ∧ om = some (some (.int 0), hp Y' J2 R2) ∧ ¬ X' 57 4 = 4 ∧ Y' 123 4 = 1 ∧ Y' 123 5 = X' 57 5 ∧ fC s X X' ∧ fM Y Y') ∨
  (∃ X' Y' p' fL lL fG lG, oc = some (some (.int 1), hp X' J R) ∧ om = some (some (.int 1), hp Y' J2 R2) ∧ psR X' Y' L u p' ∧ p ≤ p' ∧ lsR X' Y' s fL lL fG lG ∧ lwF s X X' Y Y' ∧ fC s X X' ∧ fM Y Y')
theorem xpF.fc {g fi : Nat} {X X' Y Y' : Mem} (hs : g = s + 19 ∨ g = s + 23) (h : xpF g fi X X' Y Y') : fC s X X' := fun a h1 h2 h3 h4 => h.1 a (by omega) (by omega) (by omega) h2 h3 h4
theorem xpF.fm {g fi : Nat} {X X' Y Y' : Mem} (h : xpF g fi X X' Y Y') : fM Y Y' := by
  obtain ⟨-, -, -, h4, h5, h6⟩ := h
  refine ⟨fun a h1 => h4 a (by omega) (by omega), fun a k h1 h2 h3 => ?_, fun k hk => h6 k (by omega)⟩
  by_cases w : 144 ≤ a ∧ a ≤ 146
  · have : hfM a = 64 := by
      unfold hfM
      rw [if_neg (by omega), if_neg (by omega), if_neg (by omega), if_neg (by omega), if_neg (by omega), if_pos (by omega)]
    exact h5 a k w.1 w.2 (by omega)
  · by_cases w2 : a = 147 ∨ a = 148
    · have : hfM a = 0 := by rcases w2 with rfl | rfl <;> rfl
      omega
    · rw [h4 a (by omega) (by omega)]
/-- a law that is told now -/
theorem lag_p {d g kc key ix g' ix' f l f' l' : Nat} (hT : lwT s g kc key ix g' ix') (hP : psR X Y L u p) (ht : isTe s) (hR : R 56 1 = some s) (h1 : lw1 X Y g ix f l (l + l')) (h2 : lw1 X Y g' ix' f' l' (l + l')) (h20 : Y 123 20 = nI (l + l')) (h7 : X 56 7 = nI (l + l')) (h49 : Y 123 49 = nI (l + l')) (h64 : l + l' ≤ 64) (hk : X 57 4 = nI kc) :
    (∃ X' Y', E (C (d + 5)) MX7_lawLine 37 [some (.ref 56), none] [] (hp X J R) = some (some (.int 0), hp X' J R) ∧ E (C (d + 5)) MX12_lawLine 28 [some (.ref 123), none] [] (hp Y J2 R2) = some (some (.int 0), hp Y' J2 R2) ∧ faR X' Y' ∧ fC s X X' ∧ fM Y Y') ∨
    (∃ X' Y', E (C (d + 5)) MX7_lawLine 37 [some (.ref 56), none] [] (hp X J R) = some (some (.int 1), hp X' J R) ∧ E (C (d + 5)) MX12_lawLine 28 [some (.ref 123), none] [] (hp Y J2 R2) = some (some (.int 0), hp Y' J2 R2) ∧ ¬ X' 57 4 = 4 ∧ Y' 123 4 = 1 ∧ Y' 123 5 = X' 57 5 ∧ fC s X X' ∧ fM Y Y') ∨
    (∃ X' Y' p' f l f' l', E (C (d + 5)) MX7_lawLine 37 [some (.ref 56), none] [] (hp X J R) = some (some (.int 1), hp X' J R) ∧ E (C (d + 5)) MX12_lawLine 28 [some (.ref 123), none] [] (hp Y J2 R2) = some (some (.int 1), hp Y' J2 R2) ∧ psR X' Y' L u p' ∧ p ≤ p' ∧ lw1 X' Y' g ix f l (l + l') ∧ lw1 X' Y' g' ix' f' l' (l + l') ∧ Y' 123 20 = nI (l + l') ∧ X' 56 7 = nI (l + l') ∧ Y' 123 49 = nI (l + l') ∧ l + l' ≤ 64 ∧ lwF s X X' Y Y' ∧ fC s X X' ∧ fM Y Y') := by
  have ht2 := te_hi ht
  have n1 : ¬ (1 : Int32) = 0 := by decide
  obtain ⟨pl, hS⟩ : ∃ pl, tkS X Y L p pl := hP.2
  have hTR := hS.2.2.2.2.2.2
  obtain ⟨lg1, lg2⟩ := lw_te ht
  have hg : isLw g := by rcases hT with ⟨rfl, -⟩ | ⟨rfl, -⟩ <;> assumption
  have hgs : (g = s + 19 ∨ g = s + 23) ∧ (g' = s + 19 ∨ g' = s + 23) ∧ g ≠ g' ∧ (ix = 2 ∨ ix = 3) ∧ (ix' = 2 ∨ ix' = 3) ∧ ix ≠ ix' := by
    rcases hT with ⟨rfl, rfl, rfl, rfl, rfl, rfl⟩ | ⟨rfl, rfl, rfl, rfl, rfl, rfl⟩ <;> omega
  have hk9 : Y 123 9 = nI key := by
    rcases hT with ⟨rfl, rfl, rfl, rfl, rfl, rfl⟩ | ⟨rfl, rfl, rfl, rfl, rfl, rfl⟩
    · exact ((TR_key (k := 9) hTR (by omega)).mp hk).2
    · exact ((TR_key (k := 10) hTR (by omega)).mp hk).2
  have eix : (2 : Int32) + nI key - 9 = nI ix := by
    rcases hT with ⟨rfl, rfl, rfl, rfl, rfl, rfl⟩ | ⟨rfl, rfl, rfl, rfl, rfl, rfl⟩ <;> decide
  obtain ⟨⟨a1, a2⟩, a3, a4, a5⟩ := h1
  -- up to the mark
  have hc : E (C (d + 5)) MX7_lawLine 37 [some (.ref 56), none] [] (hp X J R) = E (C (d + 5)) MX7_lawLine 67 [some (.ref 56), some (.ref g)] [] (hp X J R) := by
    rw [xX7_lawLine_37]
    rcases hT with ⟨rfl, rfl, rfl, rfl, rfl, rfl⟩ | ⟨rfl, rfl, rfl, rfl, rfl, rfl⟩
    · have z : (X 57 4 = 34) = True := eq_true hk
      simp (disch := omega) only [xX7_lawLine_38, xX7_lawLine_41, xX7_lawLine_44, xX7_lawLine_46, xX7_lawLine_49, xX7_lawLine_50, xX7_lawLine_53, xX7_lawLine_56, xX7_lawLine_59, xX7_lawLine_60, xX7_lawLine_63, xX7_lawLine_66, xX7_lawLine_66N, kd_56, fi_56_0, kd_57, te_k0 ht, te_f0_16 ht, te_k19 ht, te_f0_17 ht, te_k23 ht, kd_56, ↓reduceIte, gd_t, hK_p, hN_p, hF_p, hI_p, hJ_p, hR_p, stI_p, stJ_p, stR_p, stA_p, va_rf_s, va_rf_n, clr_i, clr_l, clr_r, clr_n, clr_o, w8_0, w8_1i, w8_1r, w8_2ii, w8_2ri, w8_2ir, w8_2rr, w8_3, beq_self_eq_true, Bool.and_self, Bool.and_true, Bool.true_and, decide_true, Option.toList_some, Option.toList_none, List.cons_append, List.nil_append, Option.bind_some, if_true, if_false, Nat.reduceLeDiff, Nat.reduceLT, Nat.reduceBEq, Bool.or_false, Bool.false_or, Bool.or_true, Bool.true_or, hR, z, not_true_eq_false]
    · have z : ¬ X 57 4 = 34 := by rw [hk]; decide
      simp (disch := omega) only [xX7_lawLine_38, xX7_lawLine_41, xX7_lawLine_44, xX7_lawLine_46, xX7_lawLine_49, xX7_lawLine_50, xX7_lawLine_53, xX7_lawLine_56, xX7_lawLine_59, xX7_lawLine_60, xX7_lawLine_63, xX7_lawLine_66, xX7_lawLine_66N, kd_56, fi_56_0, kd_57, te_k0 ht, te_f0_16 ht, te_k19 ht, te_f0_17 ht, te_k23 ht, kd_56, ↓reduceIte, gd_t, hK_p, hN_p, hF_p, hI_p, hJ_p, hR_p, stI_p, stJ_p, stR_p, stA_p, va_rf_s, va_rf_n, clr_i, clr_l, clr_r, clr_n, clr_o, w8_0, w8_1i, w8_1r, w8_2ii, w8_2ri, w8_2ir, w8_2rr, w8_3, beq_self_eq_true, Bool.and_self, Bool.and_true, Bool.true_and, decide_true, Option.toList_some, Option.toList_none, List.cons_append, List.nil_append, Option.bind_some, if_true, if_false, Nat.reduceLeDiff, Nat.reduceLT, Nat.reduceBEq, Bool.or_false, Bool.false_or, Bool.or_true, Bool.true_or, hR, z, not_false_eq_true]
  by_cases hz : X g 0 = 0
  · have hz2 : Y 141 ix = 0 := a1 ▸ hz
    have hl0 : l = 0 := a4 hz
    subst hl0
    rw [Nat.zero_add] at h20 h7 h49 h64 h2
    generalize hX1 : va_up X g (upd (X g) 0 1) = X1
    have x1o : ∀ a, a ≠ g → X1 a = X a := fun a ha => by rw [← hX1, up_n ha]
    have x1k : ∀ k, k ≠ 0 → X1 g k = X g k := fun k hk => by rw [← hX1, up_s, pk_un hk]
    generalize hY1 : va_up Y 141 (upd (Y 141) ix 1) = Y1
    have y1o : ∀ a, a ≠ 141 → Y1 a = Y a := fun a ha => by rw [← hY1, up_n ha]
    have s1 : psR X1 Y1 L u p := psR_m (psR_c hP (fun a ha => x1o a (by omega)) (fun k _ => by rw [x1o 56 (by omega)])) (y1o _ (by decide)) (y1o _ (by decide)) (fun k _ _ => by rw [y1o 123 (by decide)])
    obtain ⟨X2, Y2, p2, e2, g2, s2, pr2, l2, o2, m2, m2'⟩ := nxt_p (d := d + 2) (J := J) (J2 := J2) (R := R) (R2 := R2) s1
    have y2k : Y2 123 20 = nI l' := by rw [m2' 20 (by omega), y1o 123 (by decide)]; exact h20
    generalize hY3 : va_up Y2 142 (upd (Y2 142) ix (nI l')) = Y3
    have y3o : ∀ a, a ≠ 142 → Y3 a = Y2 a := fun a ha => by rw [← hY3, up_n ha]
    have s3 : psR X2 Y3 L u p2 := psR_m s2 (y3o _ (by decide)) (y3o _ (by decide)) (fun k _ _ => by rw [y3o 123 (by decide)])
    have hX := lex_p (d := d) (J := J) (J2 := J2) (R := R) (R2 := R2) (fi := l') s3 (pr2.imp id (fun q => by omega)) hg (by rw [o2 g (by omega), x1k 1 (by decide)]; exact a3) (by rw [y3o 123 (by decide)]; exact y2k) (by rw [o2 56 (by decide), x1o 56 (by omega)]; exact h7) (by rw [y3o 123 (by decide), m2' 49 (by omega), y1o 123 (by decide)]; exact h49) h64
    have fc2 : fC s X X2 := fun a h1 h2 h3 h4 => by rw [o2 a h3, x1o a (by omega)]
    have fm3 : fM Y Y3 := ⟨fun a h1 => by rw [y3o a (by omega), m2 a (by omega), y1o a (by omega)], fun a k h1 h2 h3 => by
      by_cases w : a = 141
      · subst w
        have : k < 2 := h3
        rw [y3o _ (by decide), m2 _ (by decide), ← hY1, up_s, pk_un (by omega)]
      · by_cases w2 : a = 142
        · subst w2
          have : k < 2 := h3
          rw [← hY3, up_s, pk_un (by omega), m2 _ (by decide), y1o _ (by decide)]
        · rw [y3o a w2, m2 a (by omega), y1o a w], fun k hk => by rw [y3o 123 (by decide), m2' k (by omega), y1o 123 (by decide)]⟩
    have ec : E (C (d + 5)) MX7_lawLine 37 [some (.ref 56), none] [] (hp X J R) = (C (d + 5) MX7_expression [.ref 56, .ref g] (hp X2 J R)).bind fun r => E (C (d + 5)) MX7_lawLine 97 [some (.ref 56), some (.ref g)] (r.1.toList ++ []) r.2 := by
      rw [hc]
      simp (disch := omega) only [xX7_lawLine_67, xX7_lawLine_68, xX7_lawLine_71, xX7_lawLine_74, xX7_lawLine_75, xX7_lawLine_76, xX7_lawLine_79, xX7_lawLine_80, xX7_lawLine_81, xX7_lawLine_82, xX7_lawLine_85, xX7_lawLine_86, xX7_lawLine_89, xX7_lawLine_92, xX7_lawLine_93, xX7_lawLine_94, kd_56, fi_56_0, kd_57, kd_56, kd_57, lw_k0 hg, ↓reduceIte, gd_t, hK_p, hN_p, hF_p, hI_p, hJ_p, hR_p, stI_p, stJ_p, stR_p, stA_p, va_rf_s, va_rf_n, clr_i, clr_l, clr_r, clr_n, clr_o, w8_0, w8_1i, w8_1r, w8_2ii, w8_2ri, w8_2ir, w8_2rr, w8_3, beq_self_eq_true, Bool.and_self, Bool.and_true, Bool.true_and, decide_true, Option.toList_some, Option.toList_none, List.cons_append, List.nil_append, Option.bind_some, if_true, if_false, Nat.reduceLeDiff, Nat.reduceLT, Nat.reduceBEq, Bool.or_false, Bool.false_or, Bool.or_true, Bool.true_or, hz, hX1, e2]
    have em : E (C (d + 5)) MX12_lawLine 28 [some (.ref 123), none] [] (hp Y J2 R2) = (C (d + 5) MX12_sumRead [.ref 123] (hp Y3 J2 R2)).bind fun r => E (C (d + 5)) MX12_lawLine 78 [some (.ref 123), some (.int (nI ix))] (r.1.toList ++ []) r.2 := by
      have e13 : ((17 : Nat) = 13) = False := eq_false (by decide)
      have e11 : (1 : Int32) &&& 1 = 1 := by decide
      rw [xX12_lawLine_28]
      simp (disch := omega) only [xX12_lawLine_29, xX12_lawLine_30, xX12_lawLine_33, xX12_lawLine_34, xX12_lawLine_36, xX12_lawLine_37, xX12_lawLine_38, xX12_lawLine_39, xX12_lawLine_42, xX12_lawLine_43, xX12_lawLine_44, xX12_lawLine_47, xX12_lawLine_48, xX12_lawLine_49, xX12_lawLine_52, xX12_lawLine_53, xX12_lawLine_54, xX12_lawLine_57, xX12_lawLine_58, xX12_lawLine_59, xX12_lawLine_60, xX12_lawLine_61, xX12_lawLine_64, xX12_lawLine_65, xX12_lawLine_68, xX12_lawLine_69, xX12_lawLine_70, xX12_lawLine_73, xX12_lawLine_74, xX12_lawLine_75, kd_123, fi_123_38, kd_141, ln_141, fi_123_39, kd_142, ln_142, fi_123_40, kd_143, ln_143, kd_123, kd_141, ln_141, kd_142, ln_142, ↓reduceIte, gd_t, hK_p, hN_p, hF_p, hI_p, hJ_p, hR_p, stI_p, stJ_p, stR_p, stA_p, va_rf_s, va_rf_n, clr_i, clr_l, clr_r, clr_n, clr_o, w8_0, w8_1i, w8_1r, w8_2ii, w8_2ri, w8_2ir, w8_2rr, w8_3, beq_self_eq_true, Bool.and_self, Bool.and_true, Bool.true_and, decide_true, Option.toList_some, Option.toList_none, List.cons_append, List.nil_append, Option.bind_some, if_true, if_false, Nat.reduceLeDiff, Nat.reduceLT, Nat.reduceBEq, Bool.or_false, Bool.false_or, Bool.or_true, Bool.true_or, inb_n, nI_clamp, hk9, eix, hz2, e13, e11, hY1, g2, y2k, hY3]
    rw [ec, em]
    rcases hX with ⟨X', Y', z1, z2, z3, z4⟩ | ⟨X', Y', z1, z2, z3, z4, z5, z6⟩ | ⟨X', Y', p', len, z1, z2, z3, z4, z5, z6, z7, z8, z9, z10, z11'⟩
    · refine Or.inl ⟨X', Y', ?_, ?_, z3, fc2.tr (z4.fc hgs.1), fm3.tr z4.fm⟩
      · rw [z1]
        simp (disch := omega) only [xX7_lawLine_97, ↓reduceIte, gd_t, hK_p, hN_p, hF_p, hI_p, hJ_p, hR_p, stI_p, stJ_p, stR_p, stA_p, va_rf_s, va_rf_n, clr_i, clr_l, clr_r, clr_n, clr_o, w8_0, w8_1i, w8_1r, w8_2ii, w8_2ri, w8_2ir, w8_2rr, w8_3, beq_self_eq_true, Bool.and_self, Bool.and_true, Bool.true_and, decide_true, Option.toList_some, Option.toList_none, List.cons_append, List.nil_append, Option.bind_some, if_true, if_false, Nat.reduceLeDiff, Nat.reduceLT, Nat.reduceBEq, Bool.or_false, Bool.false_or, Bool.or_true, Bool.true_or, z01]
      · rw [z2]
        simp (disch := omega) only [xX12_lawLine_78, xX12_lawLine_81, xX12_lawLine_82, ↓reduceIte, gd_t, hK_p, hN_p, hF_p, hI_p, hJ_p, hR_p, stI_p, stJ_p, stR_p, stA_p, va_rf_s, va_rf_n, clr_i, clr_l, clr_r, clr_n, clr_o, w8_0, w8_1i, w8_1r, w8_2ii, w8_2ri, w8_2ir, w8_2rr, w8_3, beq_self_eq_true, Bool.and_self, Bool.and_true, Bool.true_and, decide_true, Option.toList_some, Option.toList_none, List.cons_append, List.nil_append, Option.bind_some, if_true, if_false, Nat.reduceLeDiff, Nat.reduceLT, Nat.reduceBEq, Bool.or_false, Bool.false_or, Bool.or_true, Bool.true_or, z01, not_true_eq_false]
    · refine Or.inr (Or.inl ⟨X', Y', ?_, ?_, z3, z4, z5, fc2.tr (z6.fc hgs.1), fm3.tr z6.fm⟩)
      · rw [z1]
        simp (disch := omega) only [xX7_lawLine_97, ↓reduceIte, gd_t, hK_p, hN_p, hF_p, hI_p, hJ_p, hR_p, stI_p, stJ_p, stR_p, stA_p, va_rf_s, va_rf_n, clr_i, clr_l, clr_r, clr_n, clr_o, w8_0, w8_1i, w8_1r, w8_2ii, w8_2ri, w8_2ir, w8_2rr, w8_3, beq_self_eq_true, Bool.and_self, Bool.and_true, Bool.true_and, decide_true, Option.toList_some, Option.toList_none, List.cons_append, List.nil_append, Option.bind_some, if_true, if_false, Nat.reduceLeDiff, Nat.reduceLT, Nat.reduceBEq, Bool.or_false, Bool.false_or, Bool.or_true, Bool.true_or, z11]
      · rw [z2]
        simp (disch := omega) only [xX12_lawLine_78, xX12_lawLine_81, xX12_lawLine_82, ↓reduceIte, gd_t, hK_p, hN_p, hF_p, hI_p, hJ_p, hR_p, stI_p, stJ_p, stR_p, stA_p, va_rf_s, va_rf_n, clr_i, clr_l, clr_r, clr_n, clr_o, w8_0, w8_1i, w8_1r, w8_2ii, w8_2ri, w8_2ir, w8_2rr, w8_3, beq_self_eq_true, Bool.and_self, Bool.and_true, Bool.true_and, decide_true, Option.toList_some, Option.toList_none, List.cons_append, List.nil_append, Option.bind_some, if_true, if_false, Nat.reduceLeDiff, Nat.reduceLT, Nat.reduceBEq, Bool.or_false, Bool.false_or, Bool.or_true, Bool.true_or, z01, not_true_eq_false]
    · have fc' := fc2.tr (z11'.fc hgs.1)
      have fm' := fm3.tr z11'.fm
      obtain ⟨t1, t2, t3, t4, t5, t6⟩ := z11'
      obtain ⟨p1, p2', p3, p4, p5, p6⟩ := z7
      generalize hY5 : va_up Y' 143 (upd (Y' 143) ix (nI (l' + len))) = Y5
      have y5o : ∀ a, a ≠ 143 → Y5 a = Y' a := fun a ha => by rw [← hY5, up_n ha]
      have xg0 : X' g 0 = 1 := by rw [t2 0 (by decide), o2 g (by omega), ← hX1, up_s, pk_us]
      have yo : ∀ a, a ≠ 123 → a < 141 ∨ 148 < a → Y5 a = Y a := fun a h1 h2 => by rw [y5o a (by omega), t4 a h1 (by omega), y3o a (by omega), m2 a h1, y1o a (by omega)]
      have y123 : ∀ k, k < 4 ∨ (11 < k ∧ k < 20) ∨ (20 < k ∧ k < 46) ∨ 51 < k → Y5 123 k = Y 123 k := fun k hk => by rw [y5o 123 (by decide), t6 k hk, y3o 123 (by decide), m2' k (by omega), y1o 123 (by decide)]
      refine Or.inr (Or.inr ⟨X', Y5, p', l', len, f', l', ?_, ?_, psR_m z5 (y5o _ (by decide)) (y5o _ (by decide)) (fun k _ _ => by rw [y5o 123 (by decide)]), by omega, ⟨⟨?_, Or.inr xg0⟩, p1, fun q => absurd (xg0.symm.trans q) n1, Or.inr ⟨⟨⟨fun i hi => (p4 i hi).1, z8⟩, p3, fun i hi => ?_⟩, ?_, by rw [← hY5, up_s, pk_us], by omega⟩⟩, lw1_fr h2 (fun a ha => by rw [t1 a (by omega) (by omega) (by omega) (by omega) (by omega) (by omega), o2 a (by omega), x1o a (by omega)]) (fun a ha => ?_) (fun a k h1 h2 h3 => by rw [y5o a (by omega), t5 a k h1 h2 h3, y3o a (by omega), m2 a (by omega), y1o a (by omega)]) (by omega), ?_, by rw [Nat.add_comm]; exact z9, by rw [y5o 123 (by decide), Nat.add_comm]; exact z10, by omega, ⟨fun a h1 h2 h3 h4 => by rw [t1 a (by omega) (by omega) (by omega) h1 h2 h3, o2 a h2, x1o a (by omega)], fun k hk => by rw [t3 k hk, o2 56 (by decide), x1o 56 (by omega)], yo, y123⟩, fc', fm'.tr (by rw [← hY5]; exact fM_up (by omega) (by omega) (show 2 ≤ ix by omega))⟩)
      · rw [z1]
        simp (disch := omega) only [xX7_lawLine_97, ↓reduceIte, gd_t, hK_p, hN_p, hF_p, hI_p, hJ_p, hR_p, stI_p, stJ_p, stR_p, stA_p, va_rf_s, va_rf_n, clr_i, clr_l, clr_r, clr_n, clr_o, w8_0, w8_1i, w8_1r, w8_2ii, w8_2ri, w8_2ir, w8_2rr, w8_3, beq_self_eq_true, Bool.and_self, Bool.and_true, Bool.true_and, decide_true, Option.toList_some, Option.toList_none, List.cons_append, List.nil_append, Option.bind_some, if_true, if_false, Nat.reduceLeDiff, Nat.reduceLT, Nat.reduceBEq, Bool.or_false, Bool.false_or, Bool.or_true, Bool.true_or, z11]
      · rw [z2]
        simp (disch := omega) only [xX12_lawLine_78, xX12_lawLine_81, xX12_lawLine_82, xX12_lawLine_83, xX12_lawLine_84, xX12_lawLine_87, xX12_lawLine_88, xX12_lawLine_89, xX12_lawLine_92, xX12_lawLine_93, xX12_lawLine_94, kd_123, fi_123_38, kd_141, ln_141, fi_123_39, kd_142, ln_142, fi_123_40, kd_143, ln_143, kd_143, ln_143, ↓reduceIte, gd_t, hK_p, hN_p, hF_p, hI_p, hJ_p, hR_p, stI_p, stJ_p, stR_p, stA_p, va_rf_s, va_rf_n, clr_i, clr_l, clr_r, clr_n, clr_o, w8_0, w8_1i, w8_1r, w8_2ii, w8_2ri, w8_2ir, w8_2rr, w8_3, beq_self_eq_true, Bool.and_self, Bool.and_true, Bool.true_and, decide_true, Option.toList_some, Option.toList_none, List.cons_append, List.nil_append, Option.bind_some, if_true, if_false, Nat.reduceLeDiff, Nat.reduceLT, Nat.reduceBEq, Bool.or_false, Bool.false_or, Bool.or_true, Bool.true_or, inb_n, nI_clamp, p2', hY5, n1, z11, not_false_eq_true]
      · rw [xg0, y5o 141 (by decide), t4 141 (by decide) (by decide), y3o 141 (by decide), m2 141 (by decide), ← hY1, up_s, pk_us]
      · rw [y5o 144 (by decide), y5o 145 (by decide), y5o 146 (by decide)]; exact (p4 i hi).2
      · rw [y5o 142 (by decide), t4 142 (by decide) (by decide), ← hY3, up_s, pk_us]
      · rcases ha with rfl | rfl | rfl
        · rw [y5o 141 (by decide), t4 141 (by decide) (by decide), y3o 141 (by decide), m2 141 (by decide), ← hY1, up_s, pk_un (by omega)]
        · rw [y5o 142 (by decide), t4 142 (by decide) (by decide), ← hY3, up_s, pk_un (by omega), m2 142 (by decide), y1o 142 (by decide)]
        · rw [← hY5, up_s, pk_un (by omega), t4 143 (by decide) (by decide), y3o 143 (by decide), m2 143 (by decide), y1o 143 (by decide)]
      · rw [y5o 123 (by decide), Nat.add_comm]; exact p2'
  · have hz2 : ¬ Y 141 ix = 0 := a1 ▸ hz
    obtain ⟨f1, f2, f3⟩ := ref_p (k := 3) hP
    refine Or.inl ⟨_, _, ?_, ?_, f1, f2.fc, f3.fm⟩
    · rw [hc]
      simp (disch := omega) only [xX7_lawLine_67, xX7_lawLine_68, xX7_lawLine_71, xX7_lawLine_74, xX7_lawLine_75, xX7_lawLine_76, xX7_lawLine_79, kd_56, fi_56_0, kd_57, kd_56, lw_k0 hg, ↓reduceIte, gd_t, hK_p, hN_p, hF_p, hI_p, hJ_p, hR_p, stI_p, stJ_p, stR_p, stA_p, va_rf_s, va_rf_n, clr_i, clr_l, clr_r, clr_n, clr_o, w8_0, w8_1i, w8_1r, w8_2ii, w8_2ri, w8_2ir, w8_2rr, w8_3, beq_self_eq_true, Bool.and_self, Bool.and_true, Bool.true_and, decide_true, Option.toList_some, Option.toList_none, List.cons_append, List.nil_append, Option.bind_some, if_true, if_false, Nat.reduceLeDiff, Nat.reduceLT, Nat.reduceBEq, Bool.or_false, Bool.false_or, Bool.or_true, Bool.true_or, hz, ref_c, z01]
    · rw [xX12_lawLine_28]
      simp (disch := omega) only [xX12_lawLine_29, xX12_lawLine_30, xX12_lawLine_33, xX12_lawLine_34, xX12_lawLine_36, xX12_lawLine_37, xX12_lawLine_38, xX12_lawLine_39, xX12_lawLine_42, xX12_lawLine_43, xX12_lawLine_44, xX12_lawLine_47, xX12_lawLine_48, xX12_lawLine_49, xX12_lawLine_52, kd_123, fi_123_38, kd_141, ln_141, fi_123_39, kd_142, ln_142, fi_123_40, kd_143, ln_143, kd_123, kd_141, ln_141, ↓reduceIte, gd_t, hK_p, hN_p, hF_p, hI_p, hJ_p, hR_p, stI_p, stJ_p, stR_p, stA_p, va_rf_s, va_rf_n, clr_i, clr_l, clr_r, clr_n, clr_o, w8_0, w8_1i, w8_1r, w8_2ii, w8_2ri, w8_2ir, w8_2rr, w8_3, beq_self_eq_true, Bool.and_self, Bool.and_true, Bool.true_and, decide_true, Option.toList_some, Option.toList_none, List.cons_append, List.nil_append, Option.bind_some, if_true, if_false, Nat.reduceLeDiff, Nat.reduceLT, Nat.reduceBEq, Bool.or_false, Bool.false_or, Bool.or_true, Bool.true_or, inb_n, nI_clamp, hk9, eix, hz2, wro_m, z01]
end LL

-- ORDER, 5: all lines
def ordF (n : Nat) (fs : List Nat → Option Nat) : Nat → List Nat → Option (Nat × List Nat) → Option (Nat × List Nat)
  | 0, l, b => upB (fs l) b l
  | f + 1, l, b => match nextL n l with
    | none => upB (fs l) b l
    | some l' => ordF n fs f l' (upB (fs l) b l)
def clsF (n g S : Nat) (fs : List Nat → Option Nat) : Nat → List Nat → Option (Nat × List Nat) → Option (Nat × List Nat)
  | 0, l, b => upB (fs l) b l
  | f + 1, l, b => if g = 0 then upB (fs l) b l else if (upB (fs l) b l).map Prod.fst = some S then upB (fs l) b l else match nextL n l with
    | none => upB (fs l) b l
    | some l' => clsF n g S fs f l' (upB (fs l) b l)
theorem okS_good {n f : Nat} {l : List Nat} (h : okS n f l = true) : goodL n l = true := by
  cases f with
  | zero => unfold okS at h; simp only [Bool.and_eq_true] at h; exact h.1
  | succ f => unfold okS at h; simp only [Bool.and_eq_true] at h; exact h.1
theorem okS_next {n f : Nat} {l l' : List Nat} (h : okS n (f + 1) l = true) (e : nextL n l = some l') : okS n f l' = true := by
  unfold okS at h
  rw [e] at h
  simp only [Bool.and_eq_true] at h
  exact h.2
theorem okS_0 {n : Nat} {l : List Nat} (h : okS n 0 l = true) : nextL n l = none := by
  unfold okS at h
  simp only [Bool.and_eq_true, Option.isNone_iff_eq_none] at h
  exact h.2
theorem ordS {n : Nat} {fs : List Nat → Option Nat} {b : Option (Nat × List Nat)} (hb : ∀ l, goodL n l = true → upB (fs l) b l = b) : ∀ f l, okS n f l = true → ordF n fs f l b = b
  | 0, l, h => hb l (okS_good h)
  | f + 1, l, h => by
    unfold ordF
    cases e : nextL n l with
    | none => exact hb l (okS_good h)
    | some l' =>
      dsimp only
      rw [hb l (okS_good h)]
      exact ordS hb f l' (okS_next h e)
theorem cls_ord {n g S : Nat} {fs : List Nat → Option Nat} (hA : g = 0 → ∀ l l', goodL n l = true → goodL n l' = true → fs l = fs l') (hB : ∀ l s, goodL n l = true → fs l = some s → S ≤ s) : ∀ f l b, okS n f l = true → clsF n g S fs f l b = ordF n fs f l b
  | 0, l, b, h => rfl
  | f + 1, l, b, h => by
    unfold clsF ordF
    have hg := okS_good h
    by_cases g0 : g = 0
    · rw [if_pos g0]
      cases e : nextL n l with
      | none => rfl
      | some l' =>
        dsimp only
        symm
        refine ordS (fun l2 h2 => ?_) f l' (okS_next h e)
        rw [hA g0 l2 l h2 hg]
        unfold upB
        cases fs l with
        | none => rfl
        | some s =>
          cases b with
          | none =>
            dsimp only
            rw [if_neg (Nat.lt_irrefl s)]
          | some p =>
            dsimp only
            by_cases z : s < p.1
            · rw [if_pos z]
              dsimp only
              rw [if_neg (Nat.lt_irrefl s)]
            · rw [if_neg z]
              dsimp only
              rw [if_neg z]
    · rw [if_neg g0]
      by_cases y : (upB (fs l) b l).map Prod.fst = some S
      · rw [if_pos y]
        cases e : nextL n l with
        | none => rfl
        | some l' =>
          dsimp only
          symm
          refine ordS (fun l2 h2 => ?_) f l' (okS_next h e)
          generalize upB (fs l) b l = b' at *
          cases b' with
          | none => simp at y
          | some p =>
            simp at y
            cases e2 : fs l2 with
            | none => rfl
            | some s =>
              have := hB l2 s h2 e2
              unfold upB
              dsimp only
              rw [if_neg (by omega)]
      · rw [if_neg y]
        cases e : nextL n l with
        | none => rfl
        | some l' => exact cls_ord hA hB f l' _ (okS_next h e)
section ORD
variable {I X Q : Mem} {J : MemL} {R R' R1 : MemR} {t t' n nb nm fL lL fG lG st : Nat}
theorem fsL_low {N g w s : Nat} {l : List Nat} (hn : 1 ≤ n) (hn6 : n ≤ 6) (hg : g ≤ 99) (hl : goodL n l = true) (e : fsL I t lL lG n N g w l = some s) : (n - 1) * g ≤ s := by
  unfold fsL at e
  refine fsN_low (S := (n - 1) * g) (fun j hj => ?_) N 0 none s (fun x hx => by cases hx) e
  have hlt := goodL_lt hl (i := n - 1) (by omega)
  have hS : (n - 1) * g < 2 ^ 31 := by
    have : (n - 1) * g ≤ 5 * 99 := Nat.mul_le_mul (by omega) hg
    omega
  refine tgR_0 hlt (rnG_wait (S := (n - 1) * g) (fun k hk => ?_) (j + 1) hj)
  show decide (staL l g n (I (t + 14)) (l.getD (n - 1) 0) = nI k) = false
  rw [staL_last hn]
  exact decide_eq_false (fun q => by
    have := (nI_eq (by omega) (by omega)).mp q
    omega)
theorem fsL_g0 {N w : Nat} {l l' : List Nat} (hl : goodL n l = true) (hl' : goodL n l' = true) : fsL I t lL lG n N 0 w l = fsL I t lL lG n N 0 w l' := by
  unfold fsL
  refine fsN_cong N 0 none (fun j _ => ?_)
  have hac : ∀ k i, k < j + 1 → i < n → acT (staL l 0 n (I (t + 14))) k i = acT (staL l' 0 n (I (t + 14))) k i := by
    intro k i _ hi
    obtain ⟨a, a1, a2⟩ := goodL_mem hl hi
    obtain ⟨b, b1, b2⟩ := goodL_mem hl' hi
    have e1 := staL_0 (l := l) (n := n) (r := I (t + 14)) a a1
    have e2 := staL_0 (l := l') (n := n) (r := I (t + 14)) b b1
    rw [a2] at e1
    rw [b2] at e2
    unfold acT
    rw [e1, e2]
  have h : eqW n (rnG (odP I t lL lG n 0 l) n (j + 1)) (rnG (odP I t lL lG n 0 l') n (j + 1)) := rnG_cong (j + 1) hac
  unfold tgR
  rw [tgO_eq h.1 h.2.2.2]
theorem belL_good {l : List Nat} (hn6 : n ≤ 6) (h : goodL n l = true) : belL 6 l := fun i hi => by
  have hl := goodL_len h
  have := goodL_lt h (i := i) (by omega)
  omega
theorem ordC_118 {N g w : Nat} {b : Option (Nat × List Nat)} {l l' : List Nat} {r : Nat → Int32} (o : ordC I X n N g w b l) (hr : rowL r l') : ordC I (va_up X 118 r) n N g w b l' := by
  have e7 : va_up X 118 r 117 = X 117 := up_n (by decide)
  have e8 : va_up X 118 r 118 = r := up_s ..
  have e9 : va_up X 118 r 119 = X 119 := up_n (by decide)
  unfold ordC at o ⊢
  rw [e7, e8, e9]
  exact ⟨fun a ha => by rw [up_n (by unfold kpA at ha; omega)]; exact o.1 a ha, o.2.1, o.2.2.1, o.2.2.2.1, o.2.2.2.2.1, hr, o.2.2.2.2.2.2⟩
/-- find's loop -/
theorem fin_l {d N g w : Nat} (h : cAll I R t t' n nb nm fL lL fG lG st) (hn1 : 1 ≤ n) (hN : N ≤ 300) (hg : g ≤ 99) : ∀ (f i : Nat) (l : List Nat) (b : Option (Nat × List Nat)) (X : Mem) (J : MemL) (R' : MemR), i + f = 719 → okS n f l = true → ordC I X n N g w b l → rk R R' → ∃ X1 J1 R1 l1, E (C (d + 5)) MX6_find 111 [some (.ref 117), some (.ref 60), some (.int (nI N)), some (.int (nI g)), some (.int (nI w)), some (.int (nI ((n - 1) * g))), some (.int 1), some (.int (nI i))] [] (hp X J R') = some (none, hp X1 J1 R1) ∧ ordC I X1 n N g w (clsF n g ((n - 1) * g) (fsL I t lL lG n N g w) f l b) l1 ∧ rk R R1 := by
  have hn6 := h.n6
  have n1 : ¬ (1 : Int32) = 0 := by decide
  have hS : (n - 1) * g ≤ 5 * 99 := Nat.mul_le_mul (by omega) hg
  -- the round behind the last
  have done : ∀ (i : Nat) (X : Mem) (J : MemL) (R' : MemR), i ≤ 720 → E (C (d + 5)) MX6_find 111 [some (.ref 117), some (.ref 60), some (.int (nI N)), some (.int (nI g)), some (.int (nI w)), some (.int (nI ((n - 1) * g))), some (.int 0), some (.int (nI i))] [] (hp X J R') = some (none, hp X J R') := by
    intro i X J R' hi
    rw [xX6_find_111]
    by_cases z : (720 : Int32) ≤ nI i
    · simp (disch := omega) only [xX6_find_113, xX6_find_116, xX6_find_119, xX6_find_121, xX6_find_124, xX6_find_125, xX6_find_126, xX6_find_129, xX6_find_130, xX6_find_133, xX6_find_134, xX6_find_137, xX6_find_139, xX6_find_142, xX6_find_143, xX6_find_144, xX6_find_147, xX6_find_150, xX6_find_153, xX6_find_154, xX6_find_157, xX6_find_158, xX6_find_160, xX6_find_163, xX6_find_166, ↓reduceIte, gd_t, hK_p, hN_p, hF_p, hI_p, hJ_p, hR_p, stI_p, stJ_p, stR_p, stA_p, va_rf_s, va_rf_n, clr_i, clr_l, clr_r, clr_n, clr_o, w8_0, w8_1i, w8_1r, w8_2ii, w8_2ri, w8_2ir, w8_2rr, w8_3, beq_self_eq_true, Bool.and_self, Bool.and_true, Bool.true_and, decide_true, Option.toList_some, Option.toList_none, List.cons_append, List.nil_append, Option.bind_some, if_true, if_false, Nat.reduceLeDiff, Nat.reduceLT, Nat.reduceBEq, Bool.or_false, Bool.false_or, Bool.or_true, Bool.true_or, z]
    · simp (disch := omega) only [xX6_find_113, xX6_find_116, xX6_find_119, xX6_find_121, xX6_find_124, xX6_find_125, xX6_find_126, xX6_find_129, xX6_find_130, xX6_find_133, xX6_find_134, xX6_find_137, xX6_find_139, xX6_find_142, xX6_find_143, xX6_find_144, xX6_find_147, xX6_find_150, xX6_find_153, xX6_find_154, xX6_find_157, xX6_find_158, xX6_find_160, xX6_find_163, xX6_find_166, ↓reduceIte, gd_t, hK_p, hN_p, hF_p, hI_p, hJ_p, hR_p, stI_p, stJ_p, stR_p, stA_p, va_rf_s, va_rf_n, clr_i, clr_l, clr_r, clr_n, clr_o, w8_0, w8_1i, w8_1r, w8_2ii, w8_2ri, w8_2ir, w8_2rr, w8_3, beq_self_eq_true, Bool.and_self, Bool.and_true, Bool.true_and, decide_true, Option.toList_some, Option.toList_none, List.cons_append, List.nil_append, Option.bind_some, if_true, if_false, Nat.reduceLeDiff, Nat.reduceLT, Nat.reduceBEq, Bool.or_false, Bool.false_or, Bool.or_true, Bool.true_or, z]
  intro f
  induction f with
  | zero =>
    intro i l b X J R' hi ho o rq
    have hgd := okS_good ho
    have hl := goodL_len hgd
    obtain ⟨X1, J1, R1, e1, o1, r1⟩ := try_c (d := d) (J := J) h hN hg hl (belL_good hn6 hgd) o rq
    have c0 : ¬ (720 : Int32) ≤ nI i := fun w => absurd ((nI_leI (a := 720) (by omega) (by omega)).mp w) (by omega)
    have x60 : X1 60 1 = nI n := by rw [o1.1 60 (Or.inl ⟨by unfold kpA; omega, by omega, by omega⟩)]; exact h.now.2.1
    obtain ⟨r', e2, hr'⟩ := nxl_c (d := d + 3) (J := J1) (R := R1) hl hn6 hn1 o1.2.2.2.2.2.1 (belL_good hn6 hgd)
    rw [okS_0 ho] at e2 hr'
    by_cases z1 : nI g ≤ 0
    · refine ⟨X1, J1, R1, l, ?_, o1, r1⟩
      rw [← done (i + 1) X1 J1 R1 (by omega), xX6_find_111]
      simp (disch := omega) only [xX6_find_113, xX6_find_116, xX6_find_119, xX6_find_121, xX6_find_124, xX6_find_125, xX6_find_126, xX6_find_129, xX6_find_130, xX6_find_133, xX6_find_134, xX6_find_137, xX6_find_139, xX6_find_142, xX6_find_143, xX6_find_144, xX6_find_147, xX6_find_150, xX6_find_153, xX6_find_154, xX6_find_157, xX6_find_158, xX6_find_160, xX6_find_163, kd_117, fi_117_1, kd_118, ln_118, kd_117, ↓reduceIte, gd_t, hK_p, hN_p, hF_p, hI_p, hJ_p, hR_p, stI_p, stJ_p, stR_p, stA_p, va_rf_s, va_rf_n, clr_i, clr_l, clr_r, clr_n, clr_o, w8_0, w8_1i, w8_1r, w8_2ii, w8_2ri, w8_2ir, w8_2rr, w8_3, beq_self_eq_true, Bool.and_self, Bool.and_true, Bool.true_and, decide_true, Option.toList_some, Option.toList_none, List.cons_append, List.nil_append, Option.bind_some, if_true, if_false, Nat.reduceLeDiff, Nat.reduceLT, Nat.reduceBEq, Bool.or_false, Bool.false_or, Bool.or_true, Bool.true_or, c0, nI_1, n1, e1, z1]
    · by_cases z2 : X1 117 3 = nI ((n - 1) * g)
      · refine ⟨X1, J1, R1, l, ?_, o1, r1⟩
        rw [← done (i + 1) X1 J1 R1 (by omega), xX6_find_111]
        simp (disch := omega) only [xX6_find_113, xX6_find_116, xX6_find_119, xX6_find_121, xX6_find_124, xX6_find_125, xX6_find_126, xX6_find_129, xX6_find_130, xX6_find_133, xX6_find_134, xX6_find_137, xX6_find_139, xX6_find_142, xX6_find_143, xX6_find_144, xX6_find_147, xX6_find_150, xX6_find_153, xX6_find_154, xX6_find_157, xX6_find_158, xX6_find_160, xX6_find_163, kd_117, fi_117_1, kd_118, ln_118, kd_117, ↓reduceIte, gd_t, hK_p, hN_p, hF_p, hI_p, hJ_p, hR_p, stI_p, stJ_p, stR_p, stA_p, va_rf_s, va_rf_n, clr_i, clr_l, clr_r, clr_n, clr_o, w8_0, w8_1i, w8_1r, w8_2ii, w8_2ri, w8_2ir, w8_2rr, w8_3, beq_self_eq_true, Bool.and_self, Bool.and_true, Bool.true_and, decide_true, Option.toList_some, Option.toList_none, List.cons_append, List.nil_append, Option.bind_some, if_true, if_false, Nat.reduceLeDiff, Nat.reduceLT, Nat.reduceBEq, Bool.or_false, Bool.false_or, Bool.or_true, Bool.true_or, c0, nI_1, n1, e1, z1, z2]
      · refine ⟨va_up X1 118 r', J1, R1, l, ?_, ?_, r1⟩
        · rw [← done (i + 1) (va_up X1 118 r') J1 R1 (by omega), xX6_find_111]
          simp only [Option.isSome_none, Bool.false_eq_true, if_false] at e2
          simp (disch := omega) only [xX6_find_113, xX6_find_116, xX6_find_119, xX6_find_121, xX6_find_124, xX6_find_125, xX6_find_126, xX6_find_129, xX6_find_130, xX6_find_133, xX6_find_134, xX6_find_137, xX6_find_139, xX6_find_142, xX6_find_143, xX6_find_144, xX6_find_147, xX6_find_150, xX6_find_153, xX6_find_154, xX6_find_157, xX6_find_158, xX6_find_160, xX6_find_163, kd_117, fi_117_1, kd_118, ln_118, kd_60, kd_117, kd_60, ↓reduceIte, gd_t, hK_p, hN_p, hF_p, hI_p, hJ_p, hR_p, stI_p, stJ_p, stR_p, stA_p, va_rf_s, va_rf_n, clr_i, clr_l, clr_r, clr_n, clr_o, w8_0, w8_1i, w8_1r, w8_2ii, w8_2ri, w8_2ir, w8_2rr, w8_3, beq_self_eq_true, Bool.and_self, Bool.and_true, Bool.true_and, decide_true, Option.toList_some, Option.toList_none, List.cons_append, List.nil_append, Option.bind_some, if_true, if_false, Nat.reduceLeDiff, Nat.reduceLT, Nat.reduceBEq, Bool.or_false, Bool.false_or, Bool.or_true, Bool.true_or, c0, nI_1, n1, e1, z1, z2, x60, e2]
        · exact ordC_118 o1 hr'
  | succ f ih =>
    intro i l b X J R' hi ho o rq
    have hgd := okS_good ho
    have hl := goodL_len hgd
    obtain ⟨X1, J1, R1, e1, o1, r1⟩ := try_c (d := d) (J := J) h hN hg hl (belL_good hn6 hgd) o rq
    have c0 : ¬ (720 : Int32) ≤ nI i := fun w => absurd ((nI_leI (a := 720) (by omega) (by omega)).mp w) (by omega)
    have x60 : X1 60 1 = nI n := by rw [o1.1 60 (Or.inl ⟨by unfold kpA; omega, by omega, by omega⟩)]; exact h.now.2.1
    obtain ⟨r', e2, hr'⟩ := nxl_c (d := d + 3) (J := J1) (R := R1) hl hn6 hn1 o1.2.2.2.2.2.1 (belL_good hn6 hgd)
    unfold clsF
    by_cases g0 : g = 0
    · rw [if_pos g0]
      have z1 : nI g ≤ 0 := by rw [g0]; decide
      refine ⟨X1, J1, R1, l, ?_, o1, r1⟩
      rw [← done (i + 1) X1 J1 R1 (by omega), xX6_find_111]
      simp (disch := omega) only [xX6_find_113, xX6_find_116, xX6_find_119, xX6_find_121, xX6_find_124, xX6_find_125, xX6_find_126, xX6_find_129, xX6_find_130, xX6_find_133, xX6_find_134, xX6_find_137, xX6_find_139, xX6_find_142, xX6_find_143, xX6_find_144, xX6_find_147, xX6_find_150, xX6_find_153, xX6_find_154, xX6_find_157, xX6_find_158, xX6_find_160, xX6_find_163, kd_117, fi_117_1, kd_118, ln_118, kd_117, ↓reduceIte, gd_t, hK_p, hN_p, hF_p, hI_p, hJ_p, hR_p, stI_p, stJ_p, stR_p, stA_p, va_rf_s, va_rf_n, clr_i, clr_l, clr_r, clr_n, clr_o, w8_0, w8_1i, w8_1r, w8_2ii, w8_2ri, w8_2ir, w8_2rr, w8_3, beq_self_eq_true, Bool.and_self, Bool.and_true, Bool.true_and, decide_true, Option.toList_some, Option.toList_none, List.cons_append, List.nil_append, Option.bind_some, if_true, if_false, Nat.reduceLeDiff, Nat.reduceLT, Nat.reduceBEq, Bool.or_false, Bool.false_or, Bool.or_true, Bool.true_or, c0, nI_1, n1, e1, z1]
    · rw [if_neg g0]
      have z1 : ¬ nI g ≤ 0 := fun q => absurd ((nI_leI (b := 0) (by omega) (by omega)).mp q) (by omega)
      have hz2 : X1 117 3 = nI ((n - 1) * g) ↔ (upB (fsL I t lL lG n N g w l) b l).map Prod.fst = some ((n - 1) * g) := by
        have oB := o1.2.2.2.2.2.2
        generalize upB (fsL I t lL lG n N g w l) b l = b' at *
        cases b' with
        | none =>
          have : X1 117 3 = -2 := oB
          rw [this]
          constructor
          · intro q; exact absurd q.symm (nI_n2 (by omega))
          · intro q; simp at q
        | some p =>
          have e3 : X1 117 3 = nI p.1 := oB.1
          have e4 : p.1 < N := oB.2.1
          rw [e3, nI_eq (by omega) (by omega)]
          simp
      by_cases z2 : X1 117 3 = nI ((n - 1) * g)
      · rw [if_pos (hz2.mp z2)]
        refine ⟨X1, J1, R1, l, ?_, o1, r1⟩
        rw [← done (i + 1) X1 J1 R1 (by omega), xX6_find_111]
        simp (disch := omega) only [xX6_find_113, xX6_find_116, xX6_find_119, xX6_find_121, xX6_find_124, xX6_find_125, xX6_find_126, xX6_find_129, xX6_find_130, xX6_find_133, xX6_find_134, xX6_find_137, xX6_find_139, xX6_find_142, xX6_find_143, xX6_find_144, xX6_find_147, xX6_find_150, xX6_find_153, xX6_find_154, xX6_find_157, xX6_find_158, xX6_find_160, xX6_find_163, kd_117, fi_117_1, kd_118, ln_118, kd_117, ↓reduceIte, gd_t, hK_p, hN_p, hF_p, hI_p, hJ_p, hR_p, stI_p, stJ_p, stR_p, stA_p, va_rf_s, va_rf_n, clr_i, clr_l, clr_r, clr_n, clr_o, w8_0, w8_1i, w8_1r, w8_2ii, w8_2ri, w8_2ir, w8_2rr, w8_3, beq_self_eq_true, Bool.and_self, Bool.and_true, Bool.true_and, decide_true, Option.toList_some, Option.toList_none, List.cons_append, List.nil_append, Option.bind_some, if_true, if_false, Nat.reduceLeDiff, Nat.reduceLT, Nat.reduceBEq, Bool.or_false, Bool.false_or, Bool.or_true, Bool.true_or, c0, nI_1, n1, e1, z1, z2]
      · rw [if_neg (fun q => z2 (hz2.mpr q))]
        have o2 : ∀ l', (nextL n l).getD l = l' → ordC I (va_up X1 118 r') n N g w (upB (fsL I t lL lG n N g w l) b l) l' := by
          intro l' hl'
          exact ordC_118 o1 (by rw [← hl']; exact hr')
        cases en : nextL n l with
        | none =>
          rw [en] at e2 o2
          refine ⟨va_up X1 118 r', J1, R1, l, ?_, o2 l rfl, r1⟩
          rw [← done (i + 1) (va_up X1 118 r') J1 R1 (by omega), xX6_find_111]
          simp only [Option.isSome_none, Bool.false_eq_true, if_false] at e2
          simp (disch := omega) only [xX6_find_113, xX6_find_116, xX6_find_119, xX6_find_121, xX6_find_124, xX6_find_125, xX6_find_126, xX6_find_129, xX6_find_130, xX6_find_133, xX6_find_134, xX6_find_137, xX6_find_139, xX6_find_142, xX6_find_143, xX6_find_144, xX6_find_147, xX6_find_150, xX6_find_153, xX6_find_154, xX6_find_157, xX6_find_158, xX6_find_160, xX6_find_163, kd_117, fi_117_1, kd_118, ln_118, kd_60, kd_117, kd_60, ↓reduceIte, gd_t, hK_p, hN_p, hF_p, hI_p, hJ_p, hR_p, stI_p, stJ_p, stR_p, stA_p, va_rf_s, va_rf_n, clr_i, clr_l, clr_r, clr_n, clr_o, w8_0, w8_1i, w8_1r, w8_2ii, w8_2ri, w8_2ir, w8_2rr, w8_3, beq_self_eq_true, Bool.and_self, Bool.and_true, Bool.true_and, decide_true, Option.toList_some, Option.toList_none, List.cons_append, List.nil_append, Option.bind_some, if_true, if_false, Nat.reduceLeDiff, Nat.reduceLT, Nat.reduceBEq, Bool.or_false, Bool.false_or, Bool.or_true, Bool.true_or, c0, nI_1, n1, e1, z1, z2, x60, e2]
        | some l' =>
          rw [en] at e2 o2
          obtain ⟨X3, J3, R3, l3, e3, o3, r3⟩ := ih (i + 1) l' _ (va_up X1 118 r') J1 R1 (by omega) (okS_next ho en) (o2 l' rfl) r1
          refine ⟨X3, J3, R3, l3, ?_, o3, r3⟩
          rw [← e3, xX6_find_111]
          simp only [Option.isSome_some, if_true] at e2
          simp (disch := omega) only [xX6_find_113, xX6_find_116, xX6_find_119, xX6_find_121, xX6_find_124, xX6_find_125, xX6_find_126, xX6_find_129, xX6_find_130, xX6_find_133, xX6_find_134, xX6_find_137, xX6_find_139, xX6_find_142, xX6_find_143, xX6_find_144, xX6_find_147, xX6_find_150, xX6_find_153, xX6_find_154, xX6_find_157, xX6_find_158, xX6_find_160, xX6_find_163, kd_117, fi_117_1, kd_118, ln_118, kd_60, kd_117, kd_60, ↓reduceIte, gd_t, hK_p, hN_p, hF_p, hI_p, hJ_p, hR_p, stI_p, stJ_p, stR_p, stA_p, va_rf_s, va_rf_n, clr_i, clr_l, clr_r, clr_n, clr_o, w8_0, w8_1i, w8_1r, w8_2ii, w8_2ri, w8_2ir, w8_2rr, w8_3, beq_self_eq_true, Bool.and_self, Bool.and_true, Bool.true_and, decide_true, Option.toList_some, Option.toList_none, List.cons_append, List.nil_append, Option.bind_some, if_true, if_false, Nat.reduceLeDiff, Nat.reduceLT, Nat.reduceBEq, Bool.or_false, Bool.false_or, Bool.or_true, Bool.true_or, c0, nI_1, n1, e1, z1, z2, x60, e2]
end ORD

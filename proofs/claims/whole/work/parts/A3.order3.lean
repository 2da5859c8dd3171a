-- ORDER, 3: a line is tried
theorem rnG_wait {P : PR} {n c S : Nat} (h : ∀ j, j < S → P.ac j c = false) : ∀ k, k ≤ S → (rnG P n k).2.2.2.1 c = 0
  | 0, _ => rfl
  | k + 1, hk => by
    have ih := rnG_wait h (n := n) k (by omega)
    have hk' := h k (by omega)
    show (stepG P.lo P.go P.dr P.sp P.we P.pl P.bo (P.ac k) (nI k) n (rnG P n k)).2.2.2.1 c = 0
    unfold stepG runS
    refine itf_inv (Q := fun _ (s : S5) => s.2.2.2.1 c = 0) (n := n) (fun i s hi q => ?_) n 0 _ (by omega) ?_
    · split
      · next hz =>
        rw [movS_eq]
        unfold movT
        have hci : c ≠ i := fun e => by
          rw [e] at q
          rw [q] at hz
          exact absurd hz (by decide)
        split
        · dsimp only
          rw [pk_un hci]; exact q
        · split
          · exact q
          · exact q
      · exact q
    · dsimp only
      unfold actF
      rw [ih, if_pos rfl, hk', if_neg (by decide)]
theorem tgR_0 {P : PR} {n c k : Nat} {w : Int32} (hc : c < n) (h : (rnG P n k).2.2.2.1 c = 0) : tgR P n w k = 0 := by
  unfold tgR tgV tgO
  rw [if_pos]
  rw [srF_some (c := fun i => decide (¬ (rnG P n k).2.2.2.1 i = 1) || (tgI (rnG P n k).1 w i).isSome)]
  refine ⟨c, by omega, by omega, ?_⟩
  rw [h]
  rfl
theorem rnG_cong {lo : (Nat → Int64) → Int32} {go : (Nat → Int64) → Int32 → Int32} {dr sp we pl ph sw : Nat → Int32} {bo : Nat → Nat → Int32} {ac ac' : Nat → Nat → Bool} {n : Nat} : ∀ k, (∀ j i, j < k → i < n → ac j i = ac' j i) → eqW n (rnG ((lo, go, dr, sp, we, pl, bo, ac, ph, sw) : PR) n k) (rnG ((lo, go, dr, sp, we, pl, bo, ac', ph, sw) : PR) n k)
  | 0, _ => ⟨eqR.rf, eqR.rf, eqR.rf, eqR.rf⟩
  | k + 1, h => by
    have ih := rnG_cong (lo := lo) (go := go) (dr := dr) (sp := sp) (we := we) (pl := pl) (ph := ph) (sw := sw) (bo := bo) k (fun j i hj hi => h j i (by omega) hi)
    have := stepG_cong (n := n) (lose := lo) (lose' := lo) (go := go) (go' := go) (dr := dr) (dr' := dr) (sp := sp) (sp' := sp) (we := we) (we' := we) (pl := pl) (pl' := pl) (bo := bo) (bo' := bo) (act := ac k) (act' := ac' k) (t := nI k) eqLo.rf eqGo.rf eqR.rf eqR.rf eqR.rf eqR.rf (fun _ _ _ _ _ => rfl) (fun c hc => h k c (by omega) hc) ih
    exact ⟨this.1, this.2.1, this.2.2.1, this.2.2.2.1⟩
/-- the starts of a line -/
def staL (l : List Nat) (g n : Nat) (r : Nat → Int32) : Nat → Int32 := itf (fun i r => upd r (l.getD i 0) (nI (i * g))) n 0 r
theorem staL_eq {l : List Nat} {g n m : Nat} {r r' : Nat → Int32} (h : eqR m r r') : eqR m (staL l g n r) (staL l g n r') := by
  unfold staL
  exact itf_sim (f := fun i r => upd r (l.getD i 0) (nI (i * g))) (g := fun i r => upd r (l.getD i 0) (nI (i * g))) (Rl := fun _ (s t : Nat → Int32) => eqR m s t) (n := n) (fun i s t _ q => eqR_up q) n 0 r r' (by omega) h
theorem staL_last {l : List Nat} {g n : Nat} {r : Nat → Int32} (h : 1 ≤ n) : staL l g n r (l.getD (n - 1) 0) = nI ((n - 1) * g) := by
  unfold staL
  have := itf_add (f := fun i (r : Nat → Int32) => upd r (l.getD i 0) (nI (i * g))) (n - 1) 1 0 r
  rw [show n - 1 + 1 = n by omega, Nat.zero_add] at this
  rw [this]
  show upd _ (l.getD (n - 1) 0) (nI ((n - 1) * g)) (l.getD (n - 1) 0) = _
  rw [pk_us]
theorem staL_0 {l : List Nat} {n : Nat} {r : Nat → Int32} : ∀ i, i < n → staL l 0 n r (l.getD i 0) = 0 := by
  unfold staL
  exact itf_inv (f := fun i (r : Nat → Int32) => upd r (l.getD i 0) (nI (i * 0))) (Q := fun j (s : Nat → Int32) => ∀ i, i < j → s (l.getD i 0) = 0) (n := n) (fun j s _ q i hi => by
    by_cases z : l.getD i 0 = l.getD j 0
    · rw [z, pk_us]; rfl
    · rw [pk_un z]
      rcases Nat.lt_or_ge i j with w | w
      · exact q i w
      · have : i = j := by omega
        rw [this] at z
        exact absurd rfl z) n 0 r (by omega) (fun i hi => absurd hi (by omega))
def odP (I : Mem) (t lL lG n g : Nat) (l : List Nat) : PR := P1 I t lL lG (I (t + 10)) (acT (staL l g n (I (t + 14)))) (I (t + 11))
/-- from which step on all are in step, by a line -/
def fsL (I : Mem) (t lL lG n N g w : Nat) (l : List Nat) : Option Nat := fsN (fun j => tgR (odP I t lL lG n g l) n (nI w) (j + 1)) N 0 none
def upB (f : Option Nat) (b : Option (Nat × List Nat)) (l : List Nat) : Option (Nat × List Nat) := match f with
  | none => b
  | some s => match b with
    | none => some (s, l)
    | some (s0, bl) => if s < s0 then some (s, l) else some (s0, bl)
theorem P0_o {I Q : Mem} {t lL lG : Nat} {b p : Nat → Int32} (ht : isTe t) (o : ∀ a, a < 60 → Q a = I a) : P0 Q t lL lG b p = P0 I t lL lG b p := by
  have ht2 := te_hi ht
  have e1 : losC Q t lL 0 = losC I t lL 0 := by
    funext nm
    unfold losC
    simp (disch := omega) only [o]
  have e2 : goC Q t lG = goC I t lG := by
    funext nm sp
    unfold goC
    simp (disch := omega) only [o]
  unfold P0 PG
  rw [e1, e2]
  simp (disch := omega) only [o]
  rfl
def tkO (I X : Mem) : Prop := ∀ a, (kpA a ∧ a ≠ 117 ∧ a ≠ 119) ∨ 123 ≤ a → X a = I a
/-- what the class knows of the search -/
def ordC (I X : Mem) (n N g w : Nat) (b : Option (Nat × List Nat)) (l : List Nat) : Prop := tkO I X ∧ X 117 5 = nI N ∧ X 117 6 = nI g ∧ X 117 7 = nI w ∧ X 117 4 = 1 ∧ rowL (X 118) l ∧ match b with
  | none => X 117 3 = -2
  | some (s, bl) => X 117 3 = nI s ∧ s < N ∧ bl.length = n ∧ rowL (X 119) bl
def upX (X X1 : Mem) (o : Option Nat) (B : Nat) : Prop := (∀ f, o = some f → f < B → X1 117 = upd (X 117) 3 (nI f) ∧ X1 119 = cpF (X 118) (X 119) 6) ∧ ((o = none ∨ ∃ f, o = some f ∧ ¬ f < B) → X1 117 = X 117 ∧ X1 119 = X 119)
theorem nI_n2 {j : Nat} (h : j < 2 ^ 31) : ¬ nI j = (-2 : Int32) := fun q => by
  have := nI_pos (n := j) h
  rw [q] at this
  exact this (by decide)
section TRY
variable {I X : Mem} {J : MemL} {R R' R1 : MemR} {t t' n nb nm fL lL fG lG st : Nat}
theorem try_l {d N w B : Nat} {P : PR} (ht : isTe t) (hn6 : n ≤ 6) (hN : N ≤ 300) (hB : B ≤ 300) : ∀ (q j : Nat) (X : Mem) (J : MemL) (fs : Option Nat), j + q = N → (∀ x, fs = some x → x < j) → cSt X R1 88 t lL lG n P j → X 117 5 = nI N → X 117 7 = nI w → ∃ X1 J1, E (C (d + 4)) MX6_tryLine 82 [some (.ref 117), some (.ref 60), some (.int (nI B)), some (.int (an fs (-2))), some (.int (nI j))] [] (hp X J R1) = some (none, hp X1 J1 R1) ∧ (∀ a, a < 88 ∨ 102 ≤ a → a ≠ 117 → a ≠ 119 → X1 a = X a) ∧ upX X X1 (fsN (fun j => tgR P n (nI w) (j + 1)) q j fs) B := by
  have hm : isMo 88 := Or.inr (Or.inr rfl)
  have n1 : ¬ (1 : Int32) = 0 := by decide
  intro q
  induction q with
  | zero =>
    intro j X J fs hj hfs s h5 h7
    obtain rfl : j = N := by omega
    have c0 : j ≤ j := Nat.le_refl j
    unfold fsN
    cases fs with
    | none =>
      refine ⟨X, J, ?_, fun _ _ _ _ => rfl, fun f hf => absurd hf (by simp), fun _ => ⟨rfl, rfl⟩⟩
      rw [xX6_tryLine_82]
      simp (disch := omega) only [xX6_tryLine_84, xX6_tryLine_85, xX6_tryLine_88, xX6_tryLine_91, xX6_tryLine_92, xX6_tryLine_95, xX6_tryLine_98, xX6_tryLine_99, xX6_tryLine_102, xX6_tryLine_103, xX6_tryLine_106, xX6_tryLine_109, xX6_tryLine_112, xX6_tryLine_114, xX6_tryLine_115, xX6_tryLine_117, xX6_tryLine_118, xX6_tryLine_119, xX6_tryLine_120, xX6_tryLine_123, xX6_tryLine_124, xX6_tryLine_125, xX6_tryLine_127, xX6_tryLine_130, xX6_tryLine_132, xX6_tryLine_133, xX6_tryLine_136, xX6_tryLine_139, xX6_tryLine_140, xX6_tryLine_142, xX6_tryLine_145, xX6_tryLine_146, xX6_tryLine_147, xX6_tryLine_150, xX6_tryLine_151, xX6_tryLine_152, xX6_tryLine_155, xX6_tryLine_156, xX6_tryLine_159, xX6_tryLine_160, xX6_tryLine_161, xX6_tryLine_164, xX6_tryLine_165, xX6_tryLine_167, xX6_tryLine_170, kd_117, fi_117_0, kd_88, fi_117_1, kd_118, ln_118, fi_117_2, kd_119, ln_119, ↓reduceIte, gd_t, hK_p, hN_p, hF_p, hI_p, hJ_p, hR_p, stI_p, stJ_p, stR_p, stA_p, va_rf_s, va_rf_n, clr_i, clr_l, clr_r, clr_n, clr_o, w8_0, w8_1i, w8_1r, w8_2ii, w8_2ri, w8_2ir, w8_2rr, w8_3, beq_self_eq_true, Bool.and_self, Bool.and_true, Bool.true_and, decide_true, Option.toList_some, Option.toList_none, List.cons_append, List.nil_append, Option.bind_some, if_true, if_false, Nat.reduceLeDiff, Nat.reduceLT, Nat.reduceBEq, Bool.or_false, Bool.false_or, Bool.or_true, Bool.true_or, nI_leI, nI_ltI, nI_eq, nI_clamp, inb_n, up_s, up_n, bx_uu, nI_1, ix6, nI_0n, pk_us, pk_un, ge_0n, h5, c0, an]
    | some x =>
      have hx := hfs x rfl
      have e2 := nI_n2 (j := x) (by omega)
      by_cases z : x < B
      · have z' : ¬ B ≤ x := by omega
        refine ⟨va_up (va_up X 117 (upd (X 117) 3 (nI x))) 119 (cpF (X 118) (X 119) 6), J, ?_, fun a _ h1 h2 => by rw [up_n h2, up_n h1], fun f hf _ => ?_, fun hf => ?_⟩
        · have i6 : (6 : Int32) = nI 6 := rfl
          have ig : (!(decide ((6 : Int32) < 0))) = true := by decide
          have ig0 : (!(decide ((0 : Int32) < 0))) = true := by decide
          rw [xX6_tryLine_82]
          simp (disch := omega) only [xX6_tryLine_84, xX6_tryLine_85, xX6_tryLine_88, xX6_tryLine_91, xX6_tryLine_92, xX6_tryLine_95, xX6_tryLine_98, xX6_tryLine_99, xX6_tryLine_102, xX6_tryLine_103, xX6_tryLine_106, xX6_tryLine_109, xX6_tryLine_112, xX6_tryLine_114, xX6_tryLine_115, xX6_tryLine_117, xX6_tryLine_118, xX6_tryLine_119, xX6_tryLine_120, xX6_tryLine_123, xX6_tryLine_124, xX6_tryLine_125, xX6_tryLine_127, xX6_tryLine_130, xX6_tryLine_132, xX6_tryLine_133, xX6_tryLine_136, xX6_tryLine_139, xX6_tryLine_140, xX6_tryLine_142, xX6_tryLine_145, xX6_tryLine_146, xX6_tryLine_147, xX6_tryLine_150, xX6_tryLine_151, xX6_tryLine_152, xX6_tryLine_155, xX6_tryLine_156, xX6_tryLine_159, xX6_tryLine_160, xX6_tryLine_161, xX6_tryLine_164, xX6_tryLine_165, xX6_tryLine_167, xX6_tryLine_170, kd_117, fi_117_0, kd_88, fi_117_1, kd_118, ln_118, fi_117_2, kd_119, ln_119, ↓reduceIte, gd_t, hK_p, hN_p, hF_p, hI_p, hJ_p, hR_p, stI_p, stJ_p, stR_p, stA_p, va_rf_s, va_rf_n, clr_i, clr_l, clr_r, clr_n, clr_o, w8_0, w8_1i, w8_1r, w8_2ii, w8_2ri, w8_2ir, w8_2rr, w8_3, beq_self_eq_true, Bool.and_self, Bool.and_true, Bool.true_and, decide_true, Option.toList_some, Option.toList_none, List.cons_append, List.nil_append, Option.bind_some, if_true, if_false, Nat.reduceLeDiff, Nat.reduceLT, Nat.reduceBEq, Bool.or_false, Bool.false_or, Bool.or_true, Bool.true_or, nI_leI, nI_ltI, nI_eq, nI_clamp, inb_n, up_s, up_n, bx_uu, nI_1, ix6, nI_0n, pk_us, pk_un, ge_0n, h5, c0, an, e2, z', cpy_0, ig, ig0, show (0 : Int32).toNatClampNeg = 0 from rfl, show (6 : Int32).toNatClampNeg = 6 from rfl, Nat.zero_add, decide_true, Nat.le_refl]
        · cases hf
          rw [up_n (by decide), up_s, up_s]
          exact ⟨rfl, rfl⟩
        · rcases hf with hf | ⟨f, hf, h2⟩
          · cases hf
          · cases hf; exact absurd z h2
      · have z' : B ≤ x := by omega
        refine ⟨X, J, ?_, fun _ _ _ _ => rfl, fun f hf h2 => ?_, fun _ => ⟨rfl, rfl⟩⟩
        · rw [xX6_tryLine_82]
          simp (disch := omega) only [xX6_tryLine_84, xX6_tryLine_85, xX6_tryLine_88, xX6_tryLine_91, xX6_tryLine_92, xX6_tryLine_95, xX6_tryLine_98, xX6_tryLine_99, xX6_tryLine_102, xX6_tryLine_103, xX6_tryLine_106, xX6_tryLine_109, xX6_tryLine_112, xX6_tryLine_114, xX6_tryLine_115, xX6_tryLine_117, xX6_tryLine_118, xX6_tryLine_119, xX6_tryLine_120, xX6_tryLine_123, xX6_tryLine_124, xX6_tryLine_125, xX6_tryLine_127, xX6_tryLine_130, xX6_tryLine_132, xX6_tryLine_133, xX6_tryLine_136, xX6_tryLine_139, xX6_tryLine_140, xX6_tryLine_142, xX6_tryLine_145, xX6_tryLine_146, xX6_tryLine_147, xX6_tryLine_150, xX6_tryLine_151, xX6_tryLine_152, xX6_tryLine_155, xX6_tryLine_156, xX6_tryLine_159, xX6_tryLine_160, xX6_tryLine_161, xX6_tryLine_164, xX6_tryLine_165, xX6_tryLine_167, xX6_tryLine_170, kd_117, fi_117_0, kd_88, fi_117_1, kd_118, ln_118, fi_117_2, kd_119, ln_119, ↓reduceIte, gd_t, hK_p, hN_p, hF_p, hI_p, hJ_p, hR_p, stI_p, stJ_p, stR_p, stA_p, va_rf_s, va_rf_n, clr_i, clr_l, clr_r, clr_n, clr_o, w8_0, w8_1i, w8_1r, w8_2ii, w8_2ri, w8_2ir, w8_2rr, w8_3, beq_self_eq_true, Bool.and_self, Bool.and_true, Bool.true_and, decide_true, Option.toList_some, Option.toList_none, List.cons_append, List.nil_append, Option.bind_some, if_true, if_false, Nat.reduceLeDiff, Nat.reduceLT, Nat.reduceBEq, Bool.or_false, Bool.false_or, Bool.or_true, Bool.true_or, nI_leI, nI_ltI, nI_eq, nI_clamp, inb_n, up_s, up_n, bx_uu, nI_1, ix6, nI_0n, pk_us, pk_un, ge_0n, h5, c0, an, e2, z']
        · cases hf; exact absurd h2 z
  | succ q ih =>
    intro j X J fs hj hfs s h5 h7
    have c0 : ¬ N ≤ j := by omega
    obtain ⟨X1, J1, e1, s1, o1⟩ := cSt_adv (d := d) (J := J) hm ht hn6 (by omega) s
    have e2 := cSt_tog (d := d + 1) (J := J1) (w := nI w) hn6 s1
    have u5 : X1 117 5 = nI N := by rw [o1 117 (by omega)]; exact h5
    have u7 : X1 117 7 = nI w := by rw [o1 117 (by omega)]; exact h7
    unfold fsN
    have hup : ∀ Y o, upX X1 Y o B → upX X Y o B := by
      intro Y o hu
      unfold upX at hu ⊢
      rw [o1 117 (by omega), o1 118 (by omega), o1 119 (by omega)] at hu
      exact hu
    by_cases z : tgR P n (nI w) (j + 1) = 0
    · rw [if_pos z]
      by_cases y : j + 1 < B
      · obtain ⟨X2, J2, e3, o2, u2⟩ := ih (j + 1) X1 J1 none (by omega) (fun x hx => by cases hx) s1 u5 u7
        refine ⟨X2, J2, ?_, fun a h1 h2 h3 => (o2 a h1 h2 h3).trans (o1 a (by omega)), hup _ _ u2⟩
        rw [xX6_tryLine_82]
        have e3' := e3
        simp only [an] at e3'
        simp (disch := omega) only [xX6_tryLine_84, xX6_tryLine_85, xX6_tryLine_88, xX6_tryLine_91, xX6_tryLine_92, xX6_tryLine_95, xX6_tryLine_98, xX6_tryLine_99, xX6_tryLine_102, xX6_tryLine_103, xX6_tryLine_106, xX6_tryLine_109, xX6_tryLine_112, xX6_tryLine_114, xX6_tryLine_115, xX6_tryLine_117, xX6_tryLine_118, xX6_tryLine_119, xX6_tryLine_120, xX6_tryLine_123, xX6_tryLine_124, xX6_tryLine_125, xX6_tryLine_127, xX6_tryLine_130, xX6_tryLine_132, xX6_tryLine_133, xX6_tryLine_136, kd_117, fi_117_0, kd_88, fi_117_1, kd_118, ln_118, fi_117_2, kd_119, ln_119, fi_88_6, kd_90, ln_90, fi_88_7, kd_91, ln_91, fi_88_10, kd_94, ln_94, kd_88, ↓reduceIte, gd_t, hK_p, hN_p, hF_p, hI_p, hJ_p, hR_p, stI_p, stJ_p, stR_p, stA_p, va_rf_s, va_rf_n, clr_i, clr_l, clr_r, clr_n, clr_o, w8_0, w8_1i, w8_1r, w8_2ii, w8_2ri, w8_2ir, w8_2rr, w8_3, beq_self_eq_true, Bool.and_self, Bool.and_true, Bool.true_and, decide_true, Option.toList_some, Option.toList_none, List.cons_append, List.nil_append, Option.bind_some, if_true, if_false, Nat.reduceLeDiff, Nat.reduceLT, Nat.reduceBEq, Bool.or_false, Bool.false_or, Bool.or_true, Bool.true_or, nI_leI, nI_ltI, nI_eq, nI_clamp, inb_n, up_s, up_n, bx_uu, nI_1, ix6, nI_0n, pk_us, pk_un, ge_0n, h5, u7, c0, e1, e2, z, y, e3', not_true_eq_false]
      · refine ⟨X1, J1, ?_, fun a h1 _ _ => o1 a (by omega), hup _ _ ⟨fun f hf h2 => ?_, fun _ => ⟨rfl, rfl⟩⟩⟩
        · rw [xX6_tryLine_82]
          simp (disch := omega) only [xX6_tryLine_84, xX6_tryLine_85, xX6_tryLine_88, xX6_tryLine_91, xX6_tryLine_92, xX6_tryLine_95, xX6_tryLine_98, xX6_tryLine_99, xX6_tryLine_102, xX6_tryLine_103, xX6_tryLine_106, xX6_tryLine_109, xX6_tryLine_112, xX6_tryLine_114, xX6_tryLine_115, xX6_tryLine_117, xX6_tryLine_118, xX6_tryLine_119, xX6_tryLine_120, xX6_tryLine_123, xX6_tryLine_124, xX6_tryLine_125, xX6_tryLine_127, xX6_tryLine_130, xX6_tryLine_132, xX6_tryLine_133, xX6_tryLine_136, kd_117, fi_117_0, kd_88, fi_117_1, kd_118, ln_118, fi_117_2, kd_119, ln_119, fi_88_6, kd_90, ln_90, fi_88_7, kd_91, ln_91, fi_88_10, kd_94, ln_94, kd_88, ↓reduceIte, gd_t, hK_p, hN_p, hF_p, hI_p, hJ_p, hR_p, stI_p, stJ_p, stR_p, stA_p, va_rf_s, va_rf_n, clr_i, clr_l, clr_r, clr_n, clr_o, w8_0, w8_1i, w8_1r, w8_2ii, w8_2ri, w8_2ir, w8_2rr, w8_3, beq_self_eq_true, Bool.and_self, Bool.and_true, Bool.true_and, decide_true, Option.toList_some, Option.toList_none, List.cons_append, List.nil_append, Option.bind_some, if_true, if_false, Nat.reduceLeDiff, Nat.reduceLT, Nat.reduceBEq, Bool.or_false, Bool.false_or, Bool.or_true, Bool.true_or, nI_leI, nI_ltI, nI_eq, nI_clamp, inb_n, up_s, up_n, bx_uu, nI_1, ix6, nI_0n, pk_us, pk_un, ge_0n, h5, u7, c0, e1, e2, z, y, not_true_eq_false]
        · have := fsN_ge q (j + 1) none f (j + 1) (Nat.le_refl _) (fun x hx => by cases hx) hf
          omega
    · rw [if_neg z]
      cases fs with
      | none =>
        obtain ⟨X2, J2, e3, o2, u2⟩ := ih (j + 1) X1 J1 (some j) (by omega) (fun x hx => by cases hx; omega) s1 u5 u7
        refine ⟨X2, J2, ?_, fun a h1 h2 h3 => (o2 a h1 h2 h3).trans (o1 a (by omega)), hup _ _ u2⟩
        rw [xX6_tryLine_82]
        simp only [an] at e3
        simp (disch := omega) only [xX6_tryLine_84, xX6_tryLine_85, xX6_tryLine_88, xX6_tryLine_91, xX6_tryLine_92, xX6_tryLine_95, xX6_tryLine_98, xX6_tryLine_99, xX6_tryLine_102, xX6_tryLine_103, xX6_tryLine_106, xX6_tryLine_109, xX6_tryLine_112, xX6_tryLine_114, xX6_tryLine_115, xX6_tryLine_117, xX6_tryLine_118, xX6_tryLine_119, xX6_tryLine_120, xX6_tryLine_123, xX6_tryLine_124, xX6_tryLine_125, xX6_tryLine_127, xX6_tryLine_130, xX6_tryLine_132, xX6_tryLine_133, xX6_tryLine_136, kd_117, fi_117_0, kd_88, fi_117_1, kd_118, ln_118, fi_117_2, kd_119, ln_119, fi_88_6, kd_90, ln_90, fi_88_7, kd_91, ln_91, fi_88_10, kd_94, ln_94, kd_88, ↓reduceIte, gd_t, hK_p, hN_p, hF_p, hI_p, hJ_p, hR_p, stI_p, stJ_p, stR_p, stA_p, va_rf_s, va_rf_n, clr_i, clr_l, clr_r, clr_n, clr_o, w8_0, w8_1i, w8_1r, w8_2ii, w8_2ri, w8_2ir, w8_2rr, w8_3, beq_self_eq_true, Bool.and_self, Bool.and_true, Bool.true_and, decide_true, Option.toList_some, Option.toList_none, List.cons_append, List.nil_append, Option.bind_some, if_true, if_false, Nat.reduceLeDiff, Nat.reduceLT, Nat.reduceBEq, Bool.or_false, Bool.false_or, Bool.or_true, Bool.true_or, nI_leI, nI_ltI, nI_eq, nI_clamp, inb_n, up_s, up_n, bx_uu, nI_1, ix6, nI_0n, pk_us, pk_un, ge_0n, h5, u7, c0, e1, e2, z, an, e3, not_true_eq_false, not_false_eq_true]
      | some x =>
        have hx := hfs x rfl
        have ex := nI_n2 (j := x) (by omega)
        obtain ⟨X2, J2, e3, o2, u2⟩ := ih (j + 1) X1 J1 (some x) (by omega) (fun y hy => by cases hy; omega) s1 u5 u7
        refine ⟨X2, J2, ?_, fun a h1 h2 h3 => (o2 a h1 h2 h3).trans (o1 a (by omega)), hup _ _ u2⟩
        rw [xX6_tryLine_82]
        simp only [an] at e3
        simp (disch := omega) only [xX6_tryLine_84, xX6_tryLine_85, xX6_tryLine_88, xX6_tryLine_91, xX6_tryLine_92, xX6_tryLine_95, xX6_tryLine_98, xX6_tryLine_99, xX6_tryLine_102, xX6_tryLine_103, xX6_tryLine_106, xX6_tryLine_109, xX6_tryLine_112, xX6_tryLine_114, xX6_tryLine_115, xX6_tryLine_117, xX6_tryLine_118, xX6_tryLine_119, xX6_tryLine_120, xX6_tryLine_123, xX6_tryLine_124, xX6_tryLine_125, xX6_tryLine_127, xX6_tryLine_130, xX6_tryLine_132, xX6_tryLine_133, xX6_tryLine_136, kd_117, fi_117_0, kd_88, fi_117_1, kd_118, ln_118, fi_117_2, kd_119, ln_119, fi_88_6, kd_90, ln_90, fi_88_7, kd_91, ln_91, fi_88_10, kd_94, ln_94, kd_88, ↓reduceIte, gd_t, hK_p, hN_p, hF_p, hI_p, hJ_p, hR_p, stI_p, stJ_p, stR_p, stA_p, va_rf_s, va_rf_n, clr_i, clr_l, clr_r, clr_n, clr_o, w8_0, w8_1i, w8_1r, w8_2ii, w8_2ri, w8_2ir, w8_2rr, w8_3, beq_self_eq_true, Bool.and_self, Bool.and_true, Bool.true_and, decide_true, Option.toList_some, Option.toList_none, List.cons_append, List.nil_append, Option.bind_some, if_true, if_false, Nat.reduceLeDiff, Nat.reduceLT, Nat.reduceBEq, Bool.or_false, Bool.false_or, Bool.or_true, Bool.true_or, nI_leI, nI_ltI, nI_eq, nI_clamp, inb_n, up_s, up_n, bx_uu, nI_1, ix6, nI_0n, pk_us, pk_un, ge_0n, h5, u7, c0, e1, e2, z, an, ex, e3, not_true_eq_false, not_false_eq_true]
end TRY

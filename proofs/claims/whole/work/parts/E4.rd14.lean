-- TEXT, 21: the hangings of a may, both
/-- an entry of the mays of both -/
def myE (X Y : Mem) (s b j : Nat) : Prop := X (s + 17) j = Y 139 (24 + j) ∧ (X (s + 17) j = -1 ∨ ((∃ x, x < b ∧ X (s + 17) j = nI x) ∧ X (s + 18) j = Y 140 (24 + j) ∧ inN (X (s + 18) j) 0 30))
def cnY (r : Nat → Int32) (f : Nat) : Nat → Nat
  | 0 => 0
  | k + 1 => cnY r f k + if r (f + k) = -1 then 0 else 1
theorem cnY_le {r : Nat → Int32} {f : Nat} : ∀ k, cnY r f k ≤ k
  | 0 => Nat.le_refl 0
  | k + 1 => by
    have := cnY_le (r := r) (f := f) k
    unfold cnY
    split <;> omega
theorem cnY_0 {r : Nat → Int32} {f : Nat} : ∀ k, (∀ c, c < k → r (f + c) = -1) → cnY r f k = 0
  | 0, _ => rfl
  | k + 1, h => by
    unfold cnY
    rw [cnY_0 k (fun c hc => h c (by omega)), if_pos (h k (by omega))]
theorem cnY_up {r : Nat → Int32} {f i : Nat} {x : Int32} (h1 : r (f + i) = -1) (h2 : ¬ x = -1) : ∀ k, cnY (upd r (f + i) x) f k = cnY r f k + if i < k then 1 else 0
  | 0 => by rw [if_neg (by omega)]; rfl
  | k + 1 => by
    unfold cnY
    rw [cnY_up h1 h2 k]
    by_cases w : k = i
    · subst w
      rw [pk_us, if_neg h2, h1, if_pos rfl, if_neg (by omega), if_pos (by omega)]
    · rw [pk_un (by omega)]
      have e1 : (if i < k + 1 then 1 else 0) = (if i < k then 1 else 0) := by
        by_cases z : i < k
        · rw [if_pos z, if_pos (by omega)]
        · rw [if_neg z, if_neg (by omega)]
      rw [e1]
      omega
/-- what the hangings of may m leave alone -/
def mlF (s m : Nat) (X X' Y Y' : Mem) : Prop := (∀ c, c ≠ 56 → c ≠ 57 → c ≠ s + 17 → c ≠ s + 18 → X' c = X c) ∧ (∀ j, j < 6 * m ∨ 6 * m + 6 ≤ j → X' (s + 17) j = X (s + 17) j ∧ X' (s + 18) j = X (s + 18) j) ∧ (∀ k, k ≠ 2 → k ≠ 3 → k ≠ 6 → X' 56 k = X 56 k) ∧ (∀ c, c ≠ 123 → c ≠ 139 → c ≠ 140 → Y' c = Y c) ∧ (∀ j, j < 24 + 6 * m ∨ 30 + 6 * m ≤ j → Y' 139 j = Y 139 j ∧ Y' 140 j = Y 140 j) ∧ ∀ k, k < 4 ∨ 11 < k → k ≠ 19 → Y' 123 k = Y 123 k
theorem mlF.tr {s m : Nat} {X X' X'' Y Y' Y'' : Mem} (h : mlF s m X X' Y Y') (g : mlF s m X' X'' Y' Y'') : mlF s m X X'' Y Y'' := by
  obtain ⟨h1, h2, h3, h4, h5, h6⟩ := h
  obtain ⟨g1, g2, g3, g4, g5, g6⟩ := g
  exact ⟨fun c a1 a2 a3 a4 => (g1 c a1 a2 a3 a4).trans (h1 c a1 a2 a3 a4), fun j a => ⟨(g2 j a).1.trans (h2 j a).1, (g2 j a).2.trans (h2 j a).2⟩, fun k a1 a2 a3 => (g3 k a1 a2 a3).trans (h3 k a1 a2 a3), fun c a1 a2 a3 => (g4 c a1 a2 a3).trans (h4 c a1 a2 a3), fun j a => ⟨(g5 j a).1.trans (h5 j a).1, (g5 j a).2.trans (h5 j a).2⟩, fun k a1 a2 => (g6 k a1 a2).trans (h6 k a1 a2)⟩
theorem mlF_f {s m : Nat} {X X' Y Y' : Mem} (ht : isTe s) (h : cF X X') (g : mF Y Y') : mlF s m X X' Y Y' := by
  have ht2 := te_hi ht
  exact ⟨fun c a1 a2 _ _ => h.1 c a1 a2, fun j _ => by rw [h.1 _ (by omega) (by omega), h.1 _ (by omega) (by omega)]; exact ⟨rfl, rfl⟩, h.2, fun c a1 _ _ => g.1 c a1, fun j _ => by rw [g.1 _ (by omega), g.1 _ (by omega)]; exact ⟨rfl, rfl⟩, fun k a1 _ => g.2 k a1⟩
theorem mlF.fc {s m : Nat} {X X' Y Y' : Mem} (h : mlF s m X X' Y Y') : fC s X X' := fun a h1 h2 h3 _ => h.1 a h2 h3 (by omega) (by omega)
theorem mlF.fm {s m : Nat} {X X' Y Y' : Mem} (h : mlF s m X X' Y Y') : fM Y Y' := by
  obtain ⟨-, -, -, h4, h5, h6⟩ := h
  refine ⟨fun a h1 => h4 a (by omega) (by omega) (by omega), fun a k h1 h2 h3 => ?_, fun k hk => h6 k (by omega) (by omega)⟩
  by_cases w : a = 139
  · subst w
    exact (h5 k (Or.inl (by have : k < 24 := h3; omega))).1
  · by_cases w2 : a = 140
    · subst w2
      exact (h5 k (Or.inl (by have : k < 24 := h3; omega))).2
    · rw [h4 a (by omega) w w2]
theorem nxt_cm {X X' Y Y' : Mem} (o1 : ∀ a, a ≠ 57 → X' a = X a) (o2 : ∀ a, a ≠ 123 → Y' a = Y a) (o3 : ∀ k, k < 7 ∨ 10 < k → Y' 123 k = Y 123 k) : cF X X' ∧ mF Y Y' := ⟨⟨fun a _ h2 => o1 a h2, fun k _ _ _ => by rw [o1 56 (by decide)]⟩, o2, fun k hk => o3 k (by omega)⟩
section ML
variable {J J2 : MemL} {R R2 : MemR} {L s b n m : Nat} {u : Nat → Nat}
/-- the names that a hanging asks for -/
def naR (X Y : Mem) (s b n : Nat) : Prop := (nmR X Y (s + 1) 126 3 b ∧ Y 123 17 = nI b ∧ b ≤ 3) ∧ nmR X Y (s + 5) 129 6 n ∧ Y 123 18 = nI n ∧ n ≤ 6
theorem naR_f {X X' Y Y' : Mem} (h : naR X Y s b n) (o1 : ∀ c, c = s + 1 ∨ c = s + 2 ∨ c = s + 5 ∨ c = s + 6 → X' c = X c) (o2 : ∀ c, c = 126 ∨ c = 129 → Y' c = Y c) (o3 : ∀ k, k = 17 ∨ k = 18 → Y' 123 k = Y 123 k) : naR X' Y' s b n := by
  obtain ⟨⟨⟨h1, h2⟩, h3, h4⟩, ⟨h5, h6⟩, h7, h8⟩ := h
  refine ⟨⟨⟨?_, fun i hi => ?_⟩, ?_, h4⟩, ⟨?_, fun i hi => ?_⟩, ?_, h8⟩
  · rw [o1 _ (by omega)]; exact h1
  · rw [o1 _ (by omega), o2 _ (by omega)]; exact h2 i hi
  · rw [o3 _ (by omega)]; exact h3
  · rw [o1 _ (by omega)]; exact h5
  · rw [o1 _ (by omega), o2 _ (by omega)]; exact h6 i hi
  · rw [o3 _ (by omega)]; exact h7
theorem mlp_p {d : Nat} (hm : m < 4) (ht : isTe s) (hR : R 56 1 = some s) : ∀ (r i : Nat) (X Y : Mem) (p : Nat) (l2 l3 l4 l5 : Option Value), i + r = 6 → cnY (X (s + 17)) (6 * m) 6 = i → psR X Y L u p → naR X Y s b n → Y 123 19 = nI m → (∀ c, c < 6 → myE X Y s b (6 * m + c)) →
    (∃ X' Y', E (C (d + 6)) MX7_mayLine 47 [some (.ref 56), some (.int (nI m)), some (.int (nI i))] [] (hp X J R) = some (some (.int 0), hp X' J R) ∧ E (C (d + 4)) MX12_mayLine 70 [some (.ref 123), some (.int (nI (24 + 6 * m))), l2, l3, l4, l5] [] (hp Y J2 R2) = some (some (.int 0), hp Y' J2 R2) ∧ faR X' Y' ∧ mlF s m X X' Y Y') ∨
    (∃ X' Y' p', E (C (d + 6)) MX7_mayLine 47 [some (.ref 56), some (.int (nI m)), some (.int (nI i))] [] (hp X J R) = some (some (.int 1), hp X' J R) ∧ E (C (d + 4)) MX12_mayLine 70 [some (.ref 123), some (.int (nI (24 + 6 * m))), l2, l3, l4, l5] [] (hp Y J2 R2) = some (some (.int 1), hp Y' J2 R2) ∧ psR X' Y' L u p' ∧ p ≤ p' ∧ Y' 123 19 = nI (m + 1) ∧ (∀ c, c < 6 → myE X' Y' s b (6 * m + c)) ∧ mlF s m X X' Y Y') := by
  have ht2 := te_hi ht
  have n1 : ¬ (1 : Int32) = 0 := by decide
  have q0 : nI 0 = 0 := rfl
  have q3 : nI 3 = 3 := rfl
  have q6 : nI 6 = 6 := rfl
  have qm : nI m * 6 = nI (6 * m) := by rw [← q6, pk_mul, Nat.mul_comm]
  intro r
  induction r using Nat.strongRecOn with
  | _ r ih =>
    intro i X Y p l2 l3 l4 l5 hi hcn hP hna h19 hE
    obtain ⟨pl, hS⟩ : ∃ pl, tkS X Y L p pl := hP.2
    have hTR := hS.2.2.2.2.2.2
    have hkey := TR_key (k := 8) hTR (by omega)
    have q37 : nI (17 + kcL.getD 8 0) = 37 := by decide
    have q8 : nI 8 = 8 := rfl
    rw [q37, q8] at hkey
    have c0 : ¬ 6 < nI i := fun q => absurd ((nI_ltI (a := 6) (b := i) (by omega) (by omega)).mp q) (by omega)
    by_cases hk : X 57 4 = 37
    · have hbi : bi (Y 123 8 = 1 ∧ Y 123 9 = 8) = 1 := if_pos (hkey.mp hk)
      obtain ⟨X1, Y1, p1, e1, g1, s1, -, l1, o1, m1, m1'⟩ := nxt_p (d := d + 1) (J := J) (J2 := J2) (R := R) (R2 := R2) hP
      have e1 := C_up _ _ _ _ _ (C_up _ _ _ _ _ e1)
      obtain ⟨fa1, fb1⟩ := nxt_cm o1 m1 m1'
      have na1 : naR X1 Y1 s b n := naR_f hna (fun c hc => o1 c (by omega)) (fun c hc => m1 c (by omega)) (fun k hk => m1' k (by omega))
      obtain ⟨⟨nb1, nb2, nb3⟩, nc1, nc2, nc3⟩ := na1
      obtain ⟨pl1, hS1⟩ : ∃ pl, tkS X1 Y1 L p1 pl := s1.2
      obtain ⟨t1, t2, t3, t4⟩ := TR_num hS1.2.2.2.2.2.2
      have hE1 : ∀ c, c < 6 → myE X1 Y1 s b (6 * m + c) := fun c hc => by
        unfold myE
        rw [o1 _ (by omega), o1 _ (by omega), m1 _ (by omega), m1 _ (by omega)]
        exact hE c hc
      have h47 : ∀ {x : Int32} {X2 : Mem}, C (d + 6) MX7_hanging [.ref 56, .int (nI (6 * m))] (hp X1 J R) = some (some (.int x), hp X2 J R) → E (C (d + 6)) MX7_mayLine 47 [some (.ref 56), some (.int (nI m)), some (.int (nI i))] [] (hp X J R) = E (C (d + 6)) MX7_mayLine 80 [some (.ref 56), some (.int (nI m)), some (.int (nI i))] [.int x] (hp X2 J R) := by
        intro x X2 q
        rw [xX7_mayLine_47]
        simp (disch := omega) only [xX7_mayLine_48, xX7_mayLine_50, xX7_mayLine_53, xX7_mayLine_54, xX7_mayLine_57, xX7_mayLine_60, xX7_mayLine_62, xX7_mayLine_65, xX7_mayLine_66, xX7_mayLine_69, xX7_mayLine_72, xX7_mayLine_73, xX7_mayLine_74, xX7_mayLine_76, xX7_mayLine_77, kd_56, fi_56_0, kd_57, kd_56, kd_57, ↓reduceIte, gd_t, hK_p, hN_p, hF_p, hI_p, hJ_p, hR_p, stI_p, stJ_p, stR_p, stA_p, va_rf_s, va_rf_n, clr_i, clr_l, clr_r, clr_n, clr_o, w8_0, w8_1i, w8_1r, w8_2ii, w8_2ri, w8_2ir, w8_2rr, w8_3, beq_self_eq_true, Bool.and_self, Bool.and_true, Bool.true_and, decide_true, Option.toList_some, Option.toList_none, List.cons_append, List.nil_append, Option.bind_some, if_true, if_false, Nat.reduceLeDiff, Nat.reduceLT, Nat.reduceBEq, Bool.or_false, Bool.false_or, Bool.or_true, Bool.true_or, c0, hk, e1, qm, q, not_true_eq_false]
      by_cases zk : X1 57 4 = 3
      · have zm : Y1 123 8 = 2 := t2.mp zk
        have hw := t4 zk
        have hfd := fun d => fd_p (d := d) (J := J) (J2 := J2) (R := R) (R2 := R2) (w := X1 57 7) ht (Or.inr (Or.inl ⟨rfl, rfl, rfl⟩)) nc1 nc3
        rw [q6] at hfd
        rcases fdF_or (r := X1 (s + 5 + 1)) (n := n) (x := X1 57 7) (by omega) with e | ⟨j, j1, e⟩
        · -- not told
          rw [e] at hfd
          have m1' : ¬ (0 : Int32) ≤ -1 := by decide
          have hh := hg_4 (d := d + 3) (f := nI (6 * m)) ht hR zk (fun d => (hfd d).1)
          have gf := (hfd (d + 3)).2
          obtain ⟨f1, f2, f3⟩ := ref_p (k := 4) s1
          refine Or.inl ⟨va_up X1 56 (upd (upd (upd (X1 56) 6 (-1)) 2 4) 3 (X1 57 5)), _, (h47 hh).trans ?_, ?_, ⟨?_, ?_⟩, (mlF_f ht fa1 fb1).tr (mlF_f ht ⟨fun c h1 h2 => up_n h1, fun k h1 h2 h3 => by rw [up_s, pk_un h2, pk_un h1, pk_un h3]⟩ f3)⟩
          · simp (disch := omega) only [xX7_mayLine_80, xX7_mayLine_83, xX7_mayLine_84, ↓reduceIte, gd_t, hK_p, hN_p, hF_p, hI_p, hJ_p, hR_p, stI_p, stJ_p, stR_p, stA_p, va_rf_s, va_rf_n, clr_i, clr_l, clr_r, clr_n, clr_o, w8_0, w8_1i, w8_1r, w8_2ii, w8_2ri, w8_2ir, w8_2rr, w8_3, beq_self_eq_true, Bool.and_self, Bool.and_true, Bool.true_and, decide_true, Option.toList_some, Option.toList_none, List.cons_append, List.nil_append, Option.bind_some, if_true, if_false, Nat.reduceLeDiff, Nat.reduceLT, Nat.reduceBEq, Bool.or_false, Bool.false_or, Bool.or_true, Bool.true_or, z01, not_true_eq_false]
          · rw [xX12_mayLine_70]
            simp (disch := omega) only [xX12_mayLine_71, xX12_mayLine_73, xX12_mayLine_76, xX12_mayLine_79, xX12_mayLine_80, xX12_mayLine_83, xX12_mayLine_84, xX12_mayLine_87, xX12_mayLine_88, xX12_mayLine_91, xX12_mayLine_92, xX12_mayLine_93, xX12_mayLine_96, xX12_mayLine_97, xX12_mayLine_98, xX12_mayLine_101, xX12_mayLine_103, xX12_mayLine_104, xX12_mayLine_107, xX12_mayLine_108, xX12_mayLine_111, xX12_mayLine_114, xX12_mayLine_115, xX12_mayLine_116, xX12_mayLine_119, xX12_mayLine_120, xX12_mayLine_121, xX12_mayLine_124, kd_123, fi_123_23, kd_126, ln_126, fi_123_26, kd_129, ln_129, fi_123_35, kd_138, ln_138, fi_123_36, kd_139, ln_139, fi_123_37, kd_140, ln_140, kd_123, kd_129, w8_4, ↓reduceIte, gd_t, hK_p, hN_p, hF_p, hI_p, hJ_p, hR_p, stI_p, stJ_p, stR_p, stA_p, va_rf_s, va_rf_n, clr_i, clr_l, clr_r, clr_n, clr_o, w8_0, w8_1i, w8_1r, w8_2ii, w8_2ri, w8_2ir, w8_2rr, w8_3, beq_self_eq_true, Bool.and_self, Bool.and_true, Bool.true_and, decide_true, Option.toList_some, Option.toList_none, List.cons_append, List.nil_append, Option.bind_some, if_true, if_false, Nat.reduceLeDiff, Nat.reduceLT, Nat.reduceBEq, Bool.or_false, Bool.false_or, Bool.or_true, Bool.true_or, isk_m, hbi, g1, zm, nc2, ← hw, gf, m1', wro_m, n1, z01]
          · have := f1.1
            rw [up_s, pk_un (by decide), pk_us] at this
            rw [up_s, pk_un (by decide), pk_us]; exact this
          · have := f1.2
            rw [up_s, pk_us] at this
            rw [up_s, pk_us]; exact this
        · rw [e] at hfd
          have hfc := fun d => (hfd d).1
          have gf := (hfd (d + 3)).2
          have c1 : (0 : Int32) ≤ nI j := nI_pos' (by omega)
          have hj := hE1 j (by omega)
          by_cases zx : X1 (s + 17) (6 * m + j) = -1
          · -- the clock is taken
            have y1x : Y1 139 (24 + 6 * m + j) < 0 := by
              have := hj.1
              rw [zx] at this
              rw [show 24 + 6 * m + j = 24 + (6 * m + j) by omega, ← this]; decide
            have h' : psR (va_up X1 56 (upd (X1 56) 6 (nI j))) Y1 L u p1 := psR_c s1 (fun a ha => up_n (by omega)) (fun k hk => by rw [up_s, pk_un (by omega)])
            obtain ⟨X2, Y2, p2, e2, g2, s2, -, l2', o2, m2, m2'⟩ := nxt_p (d := d + 1) (J := J) (J2 := J2) (R := R) (R2 := R2) h'
            obtain ⟨fa2', fb2⟩ := nxt_cm o2 m2 m2'
            have fa2 : cF X1 X2 := cF.tr ⟨fun c h1 h2 => up_n h1, fun k h1 h2 h3 => by rw [up_s, pk_un h3]⟩ fa2'
            have hb := hg_b (d := d) (f := 6 * m) (i := j) ht hR zk hfc (by omega) zx e2
            have nb1' : nmR X2 Y2 (s + 1) 126 3 b := ⟨by rw [fa2.1 _ (by omega) (by omega)]; exact nb1.1, fun i hi => by rw [fa2.1 _ (by omega) (by omega), fb2.1 _ (by omega)]; exact nb1.2 i hi⟩
            have hO := old_p (d := d) (J := J) (J2 := J2) (R := R) (R2 := R2) s2 ht (Or.inl ⟨rfl, rfl, rfl⟩) nb1' nb3
            rw [q3] at hO
            have nb2' : Y2 123 17 = nI b := by rw [fb2.2 17 (by omega)]; exact nb2
            rcases hO with ⟨X3, Y3, e3, g3, f1, f2, f3⟩ | ⟨X3, Y3, p3, xb, e3, g3, s3, l3', xb1, xb2, xb3, f2, f3⟩
            · have e3 := C_up _ _ _ _ _ e3
              have hh : C (d + 6) MX7_hanging [.ref 56, .int (nI (6 * m))] (hp X1 J R) = some (some (.int 0), hp X3 J R) := by
                rw [hb, e3]
                simp (disch := omega) only [xX7_hanging_101, xX7_hanging_104, xX7_hanging_105, ↓reduceIte, gd_t, hK_p, hN_p, hF_p, hI_p, hJ_p, hR_p, stI_p, stJ_p, stR_p, stA_p, va_rf_s, va_rf_n, clr_i, clr_l, clr_r, clr_n, clr_o, w8_0, w8_1i, w8_1r, w8_2ii, w8_2ri, w8_2ir, w8_2rr, w8_3, beq_self_eq_true, Bool.and_self, Bool.and_true, Bool.true_and, decide_true, Option.toList_some, Option.toList_none, List.cons_append, List.nil_append, Option.bind_some, if_true, if_false, Nat.reduceLeDiff, Nat.reduceLT, Nat.reduceBEq, Bool.or_false, Bool.false_or, Bool.or_true, Bool.true_or, z01, not_true_eq_false]
              refine Or.inl ⟨X3, Y3, (h47 hh).trans ?_, ?_, f1, ((mlF_f ht fa1 fb1).tr (mlF_f ht fa2 fb2)).tr (mlF_f ht f2 f3)⟩
              · simp (disch := omega) only [xX7_mayLine_80, xX7_mayLine_83, xX7_mayLine_84, ↓reduceIte, gd_t, hK_p, hN_p, hF_p, hI_p, hJ_p, hR_p, stI_p, stJ_p, stR_p, stA_p, va_rf_s, va_rf_n, clr_i, clr_l, clr_r, clr_n, clr_o, w8_0, w8_1i, w8_1r, w8_2ii, w8_2ri, w8_2ir, w8_2rr, w8_3, beq_self_eq_true, Bool.and_self, Bool.and_true, Bool.true_and, decide_true, Option.toList_some, Option.toList_none, List.cons_append, List.nil_append, Option.bind_some, if_true, if_false, Nat.reduceLeDiff, Nat.reduceLT, Nat.reduceBEq, Bool.or_false, Bool.false_or, Bool.or_true, Bool.true_or, z01, not_true_eq_false]
              · rw [xX12_mayLine_70]
                simp (disch := omega) only [xX12_mayLine_71, xX12_mayLine_73, xX12_mayLine_76, xX12_mayLine_79, xX12_mayLine_80, xX12_mayLine_83, xX12_mayLine_84, xX12_mayLine_87, xX12_mayLine_88, xX12_mayLine_91, xX12_mayLine_92, xX12_mayLine_93, xX12_mayLine_96, xX12_mayLine_97, xX12_mayLine_98, xX12_mayLine_101, xX12_mayLine_103, xX12_mayLine_104, xX12_mayLine_107, xX12_mayLine_108, xX12_mayLine_111, xX12_mayLine_114, xX12_mayLine_115, xX12_mayLine_116, xX12_mayLine_119, xX12_mayLine_120, xX12_mayLine_121, xX12_mayLine_124, xX12_mayLine_125, xX12_mayLine_126, xX12_mayLine_129, xX12_mayLine_130, xX12_mayLine_131, xX12_mayLine_132, xX12_mayLine_133, xX12_mayLine_136, xX12_mayLine_137, xX12_mayLine_138, xX12_mayLine_141, xX12_mayLine_142, xX12_mayLine_143, xX12_mayLine_146, xX12_mayLine_147, xX12_mayLine_148, xX12_mayLine_151, xX12_mayLine_152, xX12_mayLine_153, xX12_mayLine_156, xX12_mayLine_159, xX12_mayLine_162, xX12_mayLine_163, kd_123, fi_123_23, kd_126, ln_126, fi_123_26, kd_129, ln_129, fi_123_35, kd_138, ln_138, fi_123_36, kd_139, ln_139, fi_123_37, kd_140, ln_140, kd_123, kd_129, kd_126, kd_139, ln_139, w8_4, ↓reduceIte, gd_t, hK_p, hN_p, hF_p, hI_p, hJ_p, hR_p, stI_p, stJ_p, stR_p, stA_p, va_rf_s, va_rf_n, clr_i, clr_l, clr_r, clr_n, clr_o, w8_0, w8_1i, w8_1r, w8_2ii, w8_2ri, w8_2ir, w8_2rr, w8_3, beq_self_eq_true, Bool.and_self, Bool.and_true, Bool.true_and, decide_true, Option.toList_some, Option.toList_none, List.cons_append, List.nil_append, Option.bind_some, if_true, if_false, Nat.reduceLeDiff, Nat.reduceLT, Nat.reduceBEq, Bool.or_false, Bool.false_or, Bool.or_true, Bool.true_or, nI_add, inb_n, nI_clamp, isk_m, hbi, g1, zm, nc2, ← hw, gf, c1, y1x, g2, nb2', g3, n1, z01, not_true_eq_false]
            · have e3 := C_up _ _ _ _ _ e3
              have f12 : cF X1 X3 := fa2.tr f2
              have f13 : mF Y1 Y3 := fb2.tr f3
              have hT : ∀ i, i < 6 → X3 (s + 17) (6 * m + i) = -1 ∨ inN (X3 (s + 18) (6 * m + i)) 0 30 := by
                intro i hi
                rw [f12.1 _ (by omega) (by omega), f12.1 _ (by omega) (by omega)]
                exact (hE1 i hi).2.imp id (fun q => q.2.2)
              have hF := fpl_p (d := d) (J := J) (J2 := J2) (R := R) (R2 := R2) (a := s + 17) (b := s + 18) (fr := 6 * m) (la := 24) (lb := 24) (xb := xb) s3 (te_k17 ht) (te_k18 ht) (te_n17 ht) (te_n18 ht) (by omega) (by omega) (by omega) (by omega) (by omega) hT
              have hb2 : C (d + 6) MX7_hanging [.ref 56, .int (nI (6 * m))] (hp X1 J R) = (C (d + 5) MX7_freePlace [.ref 56, .ref (s + 17), .ref (s + 18), .int (nI (6 * m)), .int (nI xb)] (hp X3 J R)).bind fun r => E (C (d + 5)) MX7_hanging 133 [some (.ref 56), some (.int (nI (6 * m))), some (.int (nI j)), some (.int (nI (6 * m + j))), some (.int (nI xb))] (r.1.toList ++ []) r.2 := by
                rw [hb, e3]
                have := hg_p (d := d + 5) (X := X3) (J := J) (R := R) (f := 6 * m) (i := nI j) (f1 := nI (6 * m + j)) (x := xb) ht hR xb2
                rw [← this]
                simp (disch := omega) only [xX7_hanging_101, ↓reduceIte, gd_t, hK_p, hN_p, hF_p, hI_p, hJ_p, hR_p, stI_p, stJ_p, stR_p, stA_p, va_rf_s, va_rf_n, clr_i, clr_l, clr_r, clr_n, clr_o, w8_0, w8_1i, w8_1r, w8_2ii, w8_2ri, w8_2ir, w8_2rr, w8_3, beq_self_eq_true, Bool.and_self, Bool.and_true, Bool.true_and, decide_true, Option.toList_some, Option.toList_none, List.cons_append, List.nil_append, Option.bind_some, if_true, if_false, Nat.reduceLeDiff, Nat.reduceLT, Nat.reduceBEq, Bool.or_false, Bool.false_or, Bool.or_true, Bool.true_or, n1, not_false_eq_true]
              have hmo : E (C (d + 4)) MX12_mayLine 70 [some (.ref 123), some (.int (nI (24 + 6 * m))), l2, l3, l4, l5] [] (hp Y J2 R2) = (C (d + 4) MX12_number [.ref 123, .int 0, .int 30] (hp Y3 J2 R2)).bind fun r => E (C (d + 4)) MX12_mayLine 182 [some (.ref 123), some (.int (nI (24 + 6 * m))), some (.int (nI j)), some (.int (nI xb)), some (.int (Y3 123 10)), l5] (r.1.toList ++ []) r.2 := by
                rw [xX12_mayLine_70]
                simp (disch := omega) only [xX12_mayLine_71, xX12_mayLine_73, xX12_mayLine_76, xX12_mayLine_79, xX12_mayLine_80, xX12_mayLine_83, xX12_mayLine_84, xX12_mayLine_87, xX12_mayLine_88, xX12_mayLine_91, xX12_mayLine_92, xX12_mayLine_93, xX12_mayLine_96, xX12_mayLine_97, xX12_mayLine_98, xX12_mayLine_101, xX12_mayLine_103, xX12_mayLine_104, xX12_mayLine_107, xX12_mayLine_108, xX12_mayLine_111, xX12_mayLine_114, xX12_mayLine_115, xX12_mayLine_116, xX12_mayLine_119, xX12_mayLine_120, xX12_mayLine_121, xX12_mayLine_124, xX12_mayLine_125, xX12_mayLine_126, xX12_mayLine_129, xX12_mayLine_130, xX12_mayLine_131, xX12_mayLine_132, xX12_mayLine_133, xX12_mayLine_136, xX12_mayLine_137, xX12_mayLine_138, xX12_mayLine_141, xX12_mayLine_142, xX12_mayLine_143, xX12_mayLine_146, xX12_mayLine_147, xX12_mayLine_148, xX12_mayLine_151, xX12_mayLine_152, xX12_mayLine_153, xX12_mayLine_156, xX12_mayLine_159, xX12_mayLine_162, xX12_mayLine_163, xX12_mayLine_164, xX12_mayLine_165, xX12_mayLine_168, xX12_mayLine_169, xX12_mayLine_170, xX12_mayLine_173, xX12_mayLine_175, xX12_mayLine_176, xX12_mayLine_177, xX12_mayLine_179, kd_123, fi_123_23, kd_126, ln_126, fi_123_26, kd_129, ln_129, fi_123_35, kd_138, ln_138, fi_123_36, kd_139, ln_139, fi_123_37, kd_140, ln_140, kd_123, kd_129, kd_126, kd_139, ln_139, w8_4, ↓reduceIte, gd_t, hK_p, hN_p, hF_p, hI_p, hJ_p, hR_p, stI_p, stJ_p, stR_p, stA_p, va_rf_s, va_rf_n, clr_i, clr_l, clr_r, clr_n, clr_o, w8_0, w8_1i, w8_1r, w8_2ii, w8_2ri, w8_2ir, w8_2rr, w8_3, beq_self_eq_true, Bool.and_self, Bool.and_true, Bool.true_and, decide_true, Option.toList_some, Option.toList_none, List.cons_append, List.nil_append, Option.bind_some, if_true, if_false, Nat.reduceLeDiff, Nat.reduceLT, Nat.reduceBEq, Bool.or_false, Bool.false_or, Bool.or_true, Bool.true_or, nI_add, inb_n, nI_clamp, isk_m, hbi, g1, zm, nc2, ← hw, gf, c1, y1x, g2, nb2', g3, xb3, n1, not_true_eq_false, not_false_eq_true]
              have fx3 := ((mlF_f (m := m) ht fa1 fb1).tr (mlF_f ht f12 f13))
              -- taken or not, seen by the model
              have htk : ∀ {Y5 : Mem} {v : Nat}, mF Y3 Y5 → Y5 123 11 = nI v → ((srF (fun i (_ : Unit) => tkP (fun i => Y5 139 (24 + 6 * m + i)) (fun i => Y5 140 (24 + 6 * m + i)) (nI xb) (Y5 123 11) i) (fun _ s => s) 6 0 ()).1 = none ↔ ¬ tkn X3 (s + 17) (s + 18) (6 * m) (nI xb) (nI v)) := by
                intro Y5 v f5 h11
                have y139 : Y5 139 = Y1 139 := by rw [f5.1 _ (by omega), f13.1 _ (by omega)]
                have y140 : Y5 140 = Y1 140 := by rw [f5.1 _ (by omega), f13.1 _ (by omega)]
                have key : ∀ i, i < 6 → (tkP (fun i => Y5 139 (24 + 6 * m + i)) (fun i => Y5 140 (24 + 6 * m + i)) (nI xb) (Y5 123 11) i = true ↔ X3 (s + 17) (6 * m + i) = nI xb ∧ X3 (s + 18) (6 * m + i) = nI v) := by
                  intro i hi
                  rw [tkP_t, y139, y140, h11, f12.1 _ (by omega) (by omega), f12.1 _ (by omega) (by omega)]
                  obtain ⟨w1, w2⟩ := hE1 i hi
                  try dsimp only
                  rw [show 24 + 6 * m + i = 24 + (6 * m + i) by omega, w1]
                  rcases w2 with w2 | ⟨-, w3, -⟩
                  · rw [← w1, w2]
                    exact ⟨fun q => absurd q.1 (nI_nm (j := xb) (by omega)), fun q => absurd q.1 (nI_nm (j := xb) (by omega))⟩
                  · rw [w3]
                rw [sr_none]
                constructor
                · rintro q ⟨i, i1, i2, i3⟩
                  have := q i (by omega) (by omega)
                  rw [(key i i1).mpr ⟨i2, i3⟩] at this
                  exact absurd this (by decide)
                · intro q i _ h2
                  rw [← Bool.not_eq_true]
                  intro z
                  obtain ⟨z1, z2⟩ := (key i (by omega)).mp z
                  exact q ⟨i, by omega, z1, z2⟩
              rcases hF with ⟨X5, Y5, e5, g5, f1, f4, f5⟩ | ⟨X5, Y5, v, e5, g5, f4, f5, v1, v2, v3, v4, v5⟩ | ⟨X5, Y5, p5, v, e5, g5, s5, l5', f4, f5, v1, v2, v3, v4⟩
              · have hh : C (d + 6) MX7_hanging [.ref 56, .int (nI (6 * m))] (hp X1 J R) = some (some (.int 0), hp X5 J R) := by
                  rw [hb2, e5]
                  simp (disch := omega) only [xX7_hanging_133, xX7_hanging_136, xX7_hanging_137, ↓reduceIte, gd_t, hK_p, hN_p, hF_p, hI_p, hJ_p, hR_p, stI_p, stJ_p, stR_p, stA_p, va_rf_s, va_rf_n, clr_i, clr_l, clr_r, clr_n, clr_o, w8_0, w8_1i, w8_1r, w8_2ii, w8_2ri, w8_2ir, w8_2rr, w8_3, beq_self_eq_true, Bool.and_self, Bool.and_true, Bool.true_and, decide_true, Option.toList_some, Option.toList_none, List.cons_append, List.nil_append, Option.bind_some, if_true, if_false, Nat.reduceLeDiff, Nat.reduceLT, Nat.reduceBEq, Bool.or_false, Bool.false_or, Bool.or_true, Bool.true_or, z01, not_true_eq_false]
                refine Or.inl ⟨X5, Y5, (h47 hh).trans ?_, ?_, f1, fx3.tr (mlF_f ht f4 f5)⟩
                · simp (disch := omega) only [xX7_mayLine_80, xX7_mayLine_83, xX7_mayLine_84, ↓reduceIte, gd_t, hK_p, hN_p, hF_p, hI_p, hJ_p, hR_p, stI_p, stJ_p, stR_p, stA_p, va_rf_s, va_rf_n, clr_i, clr_l, clr_r, clr_n, clr_o, w8_0, w8_1i, w8_1r, w8_2ii, w8_2ri, w8_2ir, w8_2rr, w8_3, beq_self_eq_true, Bool.and_self, Bool.and_true, Bool.true_and, decide_true, Option.toList_some, Option.toList_none, List.cons_append, List.nil_append, Option.bind_some, if_true, if_false, Nat.reduceLeDiff, Nat.reduceLT, Nat.reduceBEq, Bool.or_false, Bool.false_or, Bool.or_true, Bool.true_or, z01, not_true_eq_false]
                · rw [hmo, g5]
                  simp (disch := omega) only [xX12_mayLine_182, xX12_mayLine_185, xX12_mayLine_186, ↓reduceIte, gd_t, hK_p, hN_p, hF_p, hI_p, hJ_p, hR_p, stI_p, stJ_p, stR_p, stA_p, va_rf_s, va_rf_n, clr_i, clr_l, clr_r, clr_n, clr_o, w8_0, w8_1i, w8_1r, w8_2ii, w8_2ri, w8_2ir, w8_2rr, w8_3, beq_self_eq_true, Bool.and_self, Bool.and_true, Bool.true_and, decide_true, Option.toList_some, Option.toList_none, List.cons_append, List.nil_append, Option.bind_some, if_true, if_false, Nat.reduceLeDiff, Nat.reduceLT, Nat.reduceBEq, Bool.or_false, Bool.false_or, Bool.or_true, Bool.true_or, z01, not_true_eq_false]
              · have hh : C (d + 6) MX7_hanging [.ref 56, .int (nI (6 * m))] (hp X1 J R) = some (some (.int 0), hp X5 J R) := by
                  rw [hb2, e5]
                  simp (disch := omega) only [xX7_hanging_133, xX7_hanging_136, xX7_hanging_137, ↓reduceIte, gd_t, hK_p, hN_p, hF_p, hI_p, hJ_p, hR_p, stI_p, stJ_p, stR_p, stA_p, va_rf_s, va_rf_n, clr_i, clr_l, clr_r, clr_n, clr_o, w8_0, w8_1i, w8_1r, w8_2ii, w8_2ri, w8_2ir, w8_2rr, w8_3, beq_self_eq_true, Bool.and_self, Bool.and_true, Bool.true_and, decide_true, Option.toList_some, Option.toList_none, List.cons_append, List.nil_append, Option.bind_some, if_true, if_false, Nat.reduceLeDiff, Nat.reduceLT, Nat.reduceBEq, Bool.or_false, Bool.false_or, Bool.or_true, Bool.true_or, z01, not_true_eq_false]
                refine Or.inl ⟨X5, va_up Y5 123 (upd (upd (upd (Y5 123) 10 (Y3 123 10)) 4 5) 5 (Y3 123 10)), (h47 hh).trans ?_, ?_, ⟨?_, ?_⟩, fx3.tr (mlF_f ht f4 (f5.tr ⟨fun c h1 => up_n h1, fun k hk => by rw [up_s, pk_un (by omega), pk_un (by omega), pk_un (by omega)]⟩))⟩
                · simp (disch := omega) only [xX7_mayLine_80, xX7_mayLine_83, xX7_mayLine_84, ↓reduceIte, gd_t, hK_p, hN_p, hF_p, hI_p, hJ_p, hR_p, stI_p, stJ_p, stR_p, stA_p, va_rf_s, va_rf_n, clr_i, clr_l, clr_r, clr_n, clr_o, w8_0, w8_1i, w8_1r, w8_2ii, w8_2ri, w8_2ir, w8_2rr, w8_3, beq_self_eq_true, Bool.and_self, Bool.and_true, Bool.true_and, decide_true, Option.toList_some, Option.toList_none, List.cons_append, List.nil_append, Option.bind_some, if_true, if_false, Nat.reduceLeDiff, Nat.reduceLT, Nat.reduceBEq, Bool.or_false, Bool.false_or, Bool.or_true, Bool.true_or, z01, not_true_eq_false]
                · rw [hmo, g5]
                  have := mal_m (d := d + 3) (Y := Y5) (J2 := J2) (R2 := R2) (at1 := Y3 123 10) (x := nI xb) (l2 := some (.int (nI j))) hm
                  rw [if_neg (fun q => (htk f5 v2).mp q v3)] at this
                  rw [← this]
                  simp (disch := omega) only [xX12_mayLine_182, xX12_mayLine_185, xX12_mayLine_186, xX12_mayLine_187, xX12_mayLine_188, ↓reduceIte, gd_t, hK_p, hN_p, hF_p, hI_p, hJ_p, hR_p, stI_p, stJ_p, stR_p, stA_p, va_rf_s, va_rf_n, clr_i, clr_l, clr_r, clr_n, clr_o, w8_0, w8_1i, w8_1r, w8_2ii, w8_2ri, w8_2ir, w8_2rr, w8_3, beq_self_eq_true, Bool.and_self, Bool.and_true, Bool.true_and, decide_true, Option.toList_some, Option.toList_none, List.cons_append, List.nil_append, Option.bind_some, if_true, if_false, Nat.reduceLeDiff, Nat.reduceLT, Nat.reduceBEq, Bool.or_false, Bool.false_or, Bool.or_true, Bool.true_or, n1, not_false_eq_true]
                · rw [up_s, pk_un (by decide), pk_us, v4]
                · rw [up_s, pk_us, v5]
              · -- hung
                have he := hg_e (d := d + 5) (X := X5) (J := J) (R := R) (f := 6 * m) (i := j) (v := v) (x := xb) ht hR (by omega) v2
                have hh : C (d + 6) MX7_hanging [.ref 56, .int (nI (6 * m))] (hp X1 J R) = some (some (.int 1), hp (va_up (va_up X5 (s + 17) (upd (X5 (s + 17)) (6 * m + j) (nI xb))) (s + 18) (upd (X5 (s + 18)) (6 * m + j) (nI v))) J R) := by
                  rw [hb2, e5, ← he]
                  simp (disch := omega) only [xX7_hanging_133, ↓reduceIte, gd_t, hK_p, hN_p, hF_p, hI_p, hJ_p, hR_p, stI_p, stJ_p, stR_p, stA_p, va_rf_s, va_rf_n, clr_i, clr_l, clr_r, clr_n, clr_o, w8_0, w8_1i, w8_1r, w8_2ii, w8_2ri, w8_2ir, w8_2rr, w8_3, beq_self_eq_true, Bool.and_self, Bool.and_true, Bool.true_and, decide_true, Option.toList_some, Option.toList_none, List.cons_append, List.nil_append, Option.bind_some, if_true, if_false, Nat.reduceLeDiff, Nat.reduceLT, Nat.reduceBEq, Bool.or_false, Bool.false_or, Bool.or_true, Bool.true_or, n1, not_false_eq_true]
                have f14 : cF X1 X5 := f12.tr f4
                have f15 : mF Y1 Y5 := f13.tr f5
                generalize hX6 : va_up (va_up X5 (s + 17) (upd (X5 (s + 17)) (6 * m + j) (nI xb))) (s + 18) (upd (X5 (s + 18)) (6 * m + j) (nI v)) = X6 at hh
                generalize hY6 : va_up (va_up Y5 139 (upd (Y5 139) (24 + 6 * m + j) (nI xb))) 140 (upd (Y5 140) (24 + 6 * m + j) (nI v)) = Y6
                have x6o : ∀ c, c ≠ s + 17 → c ≠ s + 18 → X6 c = X5 c := fun c h1 h2 => by rw [← hX6, up_n h2, up_n h1]
                have y6o : ∀ c, c ≠ 139 → c ≠ 140 → Y6 c = Y5 c := fun c h1 h2 => by rw [← hY6, up_n h2, up_n h1]
                have x17 : X6 (s + 17) = upd (X1 (s + 17)) (6 * m + j) (nI xb) := by rw [← hX6, up_n (by omega), up_s, f14.1 _ (by omega) (by omega)]
                have x18 : X6 (s + 18) = upd (X1 (s + 18)) (6 * m + j) (nI v) := by rw [← hX6, up_s, f14.1 _ (by omega) (by omega)]
                have y139 : Y6 139 = upd (Y1 139) (24 + 6 * m + j) (nI xb) := by rw [← hY6, up_n (by omega), up_s, f15.1 _ (by omega)]
                have y140 : Y6 140 = upd (Y1 140) (24 + 6 * m + j) (nI v) := by rw [← hY6, up_s, f15.1 _ (by omega)]
                have fx6 : mlF s m X X6 Y Y6 := (fx3.tr (mlF_f ht f4 f5)).tr ⟨fun c _ _ h1 h2 => x6o c h1 h2, fun j' hj' => by
                  rw [x17, x18, pk_un (by omega), pk_un (by omega), f14.1 _ (by omega) (by omega), f14.1 _ (by omega) (by omega)]; exact ⟨rfl, rfl⟩, fun k _ _ _ => by rw [x6o 56 (by omega) (by omega)], fun c _ h1 h2 => y6o c h1 h2, fun j' hj' => by
                  rw [y139, y140, pk_un (by omega), pk_un (by omega), f15.1 _ (by omega), f15.1 _ (by omega)]; exact ⟨rfl, rfl⟩, fun k _ _ => by rw [y6o 123 (by omega) (by omega)]⟩
                have s6 : psR X6 Y6 L u p5 := psR_m (psR_c s5 (fun c hc => x6o c (by omega) (by omega)) (fun k _ => by rw [x6o 56 (by omega) (by omega)])) (y6o 124 (by omega) (by omega)) (y6o 125 (by omega) (by omega)) (fun k _ _ => by rw [y6o 123 (by omega) (by omega)])
                have cn6 : cnY (X6 (s + 17)) (6 * m) 6 = i + 1 := by
                  rw [x17, cnY_up zx (fun q => nI_nm (j := xb) (by omega) q.symm), if_pos (by omega), o1 _ (by omega), hcn]
                have hi6 := cnY_le (r := X6 (s + 17)) (f := 6 * m) 6
                have na6 : naR X6 Y6 s b n := naR_f hna (fun c hc => fx6.1 c (by omega) (by omega) (by omega) (by omega)) (fun c hc => fx6.2.2.2.1 c (by omega) (by omega) (by omega)) (fun k hk => fx6.2.2.2.2.2 k (by omega) (by omega))
                have y19 : Y6 123 19 = nI m := by rw [y6o 123 (by omega) (by omega), f15.2 19 (by omega), m1' 19 (by omega)]; exact h19
                have hE6 : ∀ c, c < 6 → myE X6 Y6 s b (6 * m + c) := fun c hc => by
                  unfold myE
                  rw [x17, x18, y139, y140]
                  by_cases w : c = j
                  · subst w
                    rw [show 24 + (6 * m + c) = 24 + 6 * m + c by omega, pk_us, pk_us, pk_us, pk_us]
                    exact ⟨rfl, Or.inr ⟨⟨xb, xb1, rfl⟩, rfl, v, by omega, v1, rfl⟩⟩
                  · rw [pk_un (by omega), pk_un (by omega), pk_un (by omega), pk_un (by omega)]
                    exact hE1 c hc
                have ec : E (C (d + 6)) MX7_mayLine 47 [some (.ref 56), some (.int (nI m)), some (.int (nI i))] [] (hp X J R) = E (C (d + 6)) MX7_mayLine 47 [some (.ref 56), some (.int (nI m)), some (.int (nI (i + 1)))] [] (hp X6 J R) := by
                  rw [h47 hh]
                  simp (disch := omega) only [xX7_mayLine_80, xX7_mayLine_83, xX7_mayLine_84, xX7_mayLine_85, xX7_mayLine_88, ↓reduceIte, gd_t, hK_p, hN_p, hF_p, hI_p, hJ_p, hR_p, stI_p, stJ_p, stR_p, stA_p, va_rf_s, va_rf_n, clr_i, clr_l, clr_r, clr_n, clr_o, w8_0, w8_1i, w8_1r, w8_2ii, w8_2ri, w8_2ir, w8_2rr, w8_3, beq_self_eq_true, Bool.and_self, Bool.and_true, Bool.true_and, decide_true, Option.toList_some, Option.toList_none, List.cons_append, List.nil_append, Option.bind_some, if_true, if_false, Nat.reduceLeDiff, Nat.reduceLT, Nat.reduceBEq, Bool.or_false, Bool.false_or, Bool.or_true, Bool.true_or, nI_1, n1, not_false_eq_true]
                have em : E (C (d + 4)) MX12_mayLine 70 [some (.ref 123), some (.int (nI (24 + 6 * m))), l2, l3, l4, l5] [] (hp Y J2 R2) = E (C (d + 4)) MX12_mayLine 70 [some (.ref 123), some (.int (nI (24 + 6 * m))), some (.int (nI j)), some (.int (nI xb)), some (.int (Y3 123 10)), some (.int (nI 6))] [] (hp Y6 J2 R2) := by
                  rw [hmo, g5]
                  have h1 := mal_m (d := d + 3) (Y := Y5) (J2 := J2) (R2 := R2) (at1 := Y3 123 10) (x := nI xb) (l2 := some (.int (nI j))) hm
                  rw [if_pos ((htk f5 v3).mpr v4)] at h1
                  have h2 : E (C (d + 4)) MX12_mayLine 247 [some (.ref 123), some (.int (nI (24 + 6 * m))), some (.int (nI j)), some (.int (nI xb)), some (.int (Y3 123 10)), some (.int (nI 6))] [] (hp Y5 J2 R2) = E (C (d + 4)) MX12_mayLine 70 [some (.ref 123), some (.int (nI (24 + 6 * m))), some (.int (nI j)), some (.int (nI xb)), some (.int (Y3 123 10)), some (.int (nI 6))] [] (hp Y6 J2 R2) := by
                    rw [xX12_mayLine_247]
                    simp (disch := omega) only [xX12_mayLine_248, xX12_mayLine_251, xX12_mayLine_252, xX12_mayLine_253, xX12_mayLine_254, xX12_mayLine_255, xX12_mayLine_256, xX12_mayLine_257, xX12_mayLine_260, xX12_mayLine_261, xX12_mayLine_262, xX12_mayLine_263, xX12_mayLine_264, xX12_mayLine_267, xX12_mayLine_268, kd_123, fi_123_23, kd_126, ln_126, fi_123_26, kd_129, ln_129, fi_123_35, kd_138, ln_138, fi_123_36, kd_139, ln_139, fi_123_37, kd_140, ln_140, kd_139, ln_139, kd_140, ln_140, ↓reduceIte, gd_t, hK_p, hN_p, hF_p, hI_p, hJ_p, hR_p, stI_p, stJ_p, stR_p, stA_p, va_rf_s, va_rf_n, clr_i, clr_l, clr_r, clr_n, clr_o, w8_0, w8_1i, w8_1r, w8_2ii, w8_2ri, w8_2ir, w8_2rr, w8_3, beq_self_eq_true, Bool.and_self, Bool.and_true, Bool.true_and, decide_true, Option.toList_some, Option.toList_none, List.cons_append, List.nil_append, Option.bind_some, if_true, if_false, Nat.reduceLeDiff, Nat.reduceLT, Nat.reduceBEq, Bool.or_false, Bool.false_or, Bool.or_true, Bool.true_or, nI_add, inb_n, nI_clamp, up_n, v3, hY6]
                  rw [← h2, ← h1]
                  simp (disch := omega) only [xX12_mayLine_182, xX12_mayLine_185, xX12_mayLine_186, xX12_mayLine_187, xX12_mayLine_188, ↓reduceIte, gd_t, hK_p, hN_p, hF_p, hI_p, hJ_p, hR_p, stI_p, stJ_p, stR_p, stA_p, va_rf_s, va_rf_n, clr_i, clr_l, clr_r, clr_n, clr_o, w8_0, w8_1i, w8_1r, w8_2ii, w8_2ri, w8_2ir, w8_2rr, w8_3, beq_self_eq_true, Bool.and_self, Bool.and_true, Bool.true_and, decide_true, Option.toList_some, Option.toList_none, List.cons_append, List.nil_append, Option.bind_some, if_true, if_false, Nat.reduceLeDiff, Nat.reduceLT, Nat.reduceBEq, Bool.or_false, Bool.false_or, Bool.or_true, Bool.true_or, n1, not_false_eq_true]
                rw [ec, em]
                rcases ih (r - 1) (by omega) (i + 1) X6 Y6 p5 _ _ _ _ (by omega) cn6 s6 na6 y19 hE6 with ⟨X', Y', z1, z2, z3, z4⟩ | ⟨X', Y', p', z1, z2, z3, z4, z5, z6, z7⟩
                · exact Or.inl ⟨X', Y', z1, z2, z3, fx6.tr z4⟩
                · exact Or.inr ⟨X', Y', p', z1, z2, z3, by omega, z5, z6, fx6.tr z7⟩
          · -- told already
            have hh := hg_3 (d := d + 3) (f := 6 * m) (i := j) ht hR zk hfc (by omega) zx
            have y1x : ¬ Y1 139 (24 + 6 * m + j) < 0 := by
              rw [show 24 + 6 * m + j = 24 + (6 * m + j) by omega, ← hj.1]
              rcases hj.2 with w | ⟨⟨x, x1, x2⟩, -⟩
              · exact absurd w zx
              · rw [x2]; exact nI_pos (by omega)
            obtain ⟨f1, f2, f3⟩ := ref_p (k := 3) s1
            refine Or.inl ⟨_, _, (h47 hh).trans ?_, ?_, f1, (mlF_f ht fa1 fb1).tr (mlF_f ht f2 f3)⟩
            · simp (disch := omega) only [xX7_mayLine_80, xX7_mayLine_83, xX7_mayLine_84, ↓reduceIte, gd_t, hK_p, hN_p, hF_p, hI_p, hJ_p, hR_p, stI_p, stJ_p, stR_p, stA_p, va_rf_s, va_rf_n, clr_i, clr_l, clr_r, clr_n, clr_o, w8_0, w8_1i, w8_1r, w8_2ii, w8_2ri, w8_2ir, w8_2rr, w8_3, beq_self_eq_true, Bool.and_self, Bool.and_true, Bool.true_and, decide_true, Option.toList_some, Option.toList_none, List.cons_append, List.nil_append, Option.bind_some, if_true, if_false, Nat.reduceLeDiff, Nat.reduceLT, Nat.reduceBEq, Bool.or_false, Bool.false_or, Bool.or_true, Bool.true_or, z01, not_true_eq_false]
            · rw [xX12_mayLine_70]
              simp (disch := omega) only [xX12_mayLine_71, xX12_mayLine_73, xX12_mayLine_76, xX12_mayLine_79, xX12_mayLine_80, xX12_mayLine_83, xX12_mayLine_84, xX12_mayLine_87, xX12_mayLine_88, xX12_mayLine_91, xX12_mayLine_92, xX12_mayLine_93, xX12_mayLine_96, xX12_mayLine_97, xX12_mayLine_98, xX12_mayLine_101, xX12_mayLine_103, xX12_mayLine_104, xX12_mayLine_107, xX12_mayLine_108, xX12_mayLine_111, xX12_mayLine_114, xX12_mayLine_115, xX12_mayLine_116, xX12_mayLine_119, xX12_mayLine_120, xX12_mayLine_121, xX12_mayLine_124, xX12_mayLine_125, xX12_mayLine_126, xX12_mayLine_129, xX12_mayLine_130, xX12_mayLine_131, xX12_mayLine_132, xX12_mayLine_133, xX12_mayLine_136, xX12_mayLine_137, xX12_mayLine_138, xX12_mayLine_141, kd_123, fi_123_23, kd_126, ln_126, fi_123_26, kd_129, ln_129, fi_123_35, kd_138, ln_138, fi_123_36, kd_139, ln_139, fi_123_37, kd_140, ln_140, kd_123, kd_129, kd_139, ln_139, w8_4, ↓reduceIte, gd_t, hK_p, hN_p, hF_p, hI_p, hJ_p, hR_p, stI_p, stJ_p, stR_p, stA_p, va_rf_s, va_rf_n, clr_i, clr_l, clr_r, clr_n, clr_o, w8_0, w8_1i, w8_1r, w8_2ii, w8_2ri, w8_2ir, w8_2rr, w8_3, beq_self_eq_true, Bool.and_self, Bool.and_true, Bool.true_and, decide_true, Option.toList_some, Option.toList_none, List.cons_append, List.nil_append, Option.bind_some, if_true, if_false, Nat.reduceLeDiff, Nat.reduceLT, Nat.reduceBEq, Bool.or_false, Bool.false_or, Bool.or_true, Bool.true_or, nI_add, inb_n, nI_clamp, isk_m, hbi, g1, zm, nc2, ← hw, gf, c1, y1x, wro_m, n1, z01, not_true_eq_false]
      · have zm : ¬ Y1 123 8 = 2 := fun q => zk (t2.mpr q)
        have hh := hg_1 (d := d + 3) (f := nI (6 * m)) ht hR zk (X := X1) (J := J)
        obtain ⟨f1, f2, f3⟩ := ref_p (k := 1) s1
        refine Or.inl ⟨_, _, (h47 hh).trans ?_, ?_, f1, (mlF_f ht fa1 fb1).tr (mlF_f ht f2 f3)⟩
        · simp (disch := omega) only [xX7_mayLine_80, xX7_mayLine_83, xX7_mayLine_84, ↓reduceIte, gd_t, hK_p, hN_p, hF_p, hI_p, hJ_p, hR_p, stI_p, stJ_p, stR_p, stA_p, va_rf_s, va_rf_n, clr_i, clr_l, clr_r, clr_n, clr_o, w8_0, w8_1i, w8_1r, w8_2ii, w8_2ri, w8_2ir, w8_2rr, w8_3, beq_self_eq_true, Bool.and_self, Bool.and_true, Bool.true_and, decide_true, Option.toList_some, Option.toList_none, List.cons_append, List.nil_append, Option.bind_some, if_true, if_false, Nat.reduceLeDiff, Nat.reduceLT, Nat.reduceBEq, Bool.or_false, Bool.false_or, Bool.or_true, Bool.true_or, z01, not_true_eq_false]
        · rw [xX12_mayLine_70]
          simp (disch := omega) only [xX12_mayLine_71, xX12_mayLine_73, xX12_mayLine_76, xX12_mayLine_79, xX12_mayLine_80, xX12_mayLine_83, xX12_mayLine_84, xX12_mayLine_87, xX12_mayLine_88, xX12_mayLine_91, xX12_mayLine_92, xX12_mayLine_93, xX12_mayLine_96, kd_123, fi_123_23, kd_126, ln_126, fi_123_26, kd_129, ln_129, fi_123_35, kd_138, ln_138, fi_123_36, kd_139, ln_139, fi_123_37, kd_140, ln_140, kd_123, ↓reduceIte, gd_t, hK_p, hN_p, hF_p, hI_p, hJ_p, hR_p, stI_p, stJ_p, stR_p, stA_p, va_rf_s, va_rf_n, clr_i, clr_l, clr_r, clr_n, clr_o, w8_0, w8_1i, w8_1r, w8_2ii, w8_2ri, w8_2ir, w8_2rr, w8_3, beq_self_eq_true, Bool.and_self, Bool.and_true, Bool.true_and, decide_true, Option.toList_some, Option.toList_none, List.cons_append, List.nil_append, Option.bind_some, if_true, if_false, Nat.reduceLeDiff, Nat.reduceLT, Nat.reduceBEq, Bool.or_false, Bool.false_or, Bool.or_true, Bool.true_or, isk_m, hbi, g1, zm, wro_m, n1, z01]
    · have hbi : bi (Y 123 8 = 1 ∧ Y 123 9 = 8) = 0 := if_neg (fun q => hk (hkey.mpr q))
      refine Or.inr ⟨X, va_up Y 123 (upd (Y 123) 19 (nI (m + 1))), p, ?_, ?_, psR_m hP (up_n (by decide)) (up_n (by decide)) (fun k h1 h2 => by rw [up_s, pk_un (by omega)]), Nat.le_refl p, by rw [up_s, pk_us], fun c hc => ?_, ⟨fun _ _ _ _ _ => rfl, fun _ _ => ⟨rfl, rfl⟩, fun _ _ _ _ => rfl, fun c h1 _ _ => up_n h1, fun j _ => by rw [up_n (by decide), up_n (by decide)]; exact ⟨rfl, rfl⟩, fun k _ h2 => by rw [up_s, pk_un h2]⟩⟩
      · rw [xX7_mayLine_47]
        simp (disch := omega) only [xX7_mayLine_48, xX7_mayLine_50, xX7_mayLine_53, xX7_mayLine_54, xX7_mayLine_57, xX7_mayLine_60, xX7_mayLine_62, xX7_mayLine_65, xX7_mayLine_66, xX7_mayLine_69, xX7_mayLine_72, xX7_mayLine_73, xX7_mayLine_74, xX7_mayLine_76, xX7_mayLine_77, xX7_mayLine_80, xX7_mayLine_83, xX7_mayLine_84, xX7_mayLine_85, xX7_mayLine_88, xX7_mayLine_91, xX7_mayLine_92, kd_56, fi_56_0, kd_57, kd_56, kd_57, ↓reduceIte, gd_t, hK_p, hN_p, hF_p, hI_p, hJ_p, hR_p, stI_p, stJ_p, stR_p, stA_p, va_rf_s, va_rf_n, clr_i, clr_l, clr_r, clr_n, clr_o, w8_0, w8_1i, w8_1r, w8_2ii, w8_2ri, w8_2ir, w8_2rr, w8_3, beq_self_eq_true, Bool.and_self, Bool.and_true, Bool.true_and, decide_true, Option.toList_some, Option.toList_none, List.cons_append, List.nil_append, Option.bind_some, if_true, if_false, Nat.reduceLeDiff, Nat.reduceLT, Nat.reduceBEq, Bool.or_false, Bool.false_or, Bool.or_true, Bool.true_or, c0, hk, z11, not_false_eq_true]
      · rw [xX12_mayLine_70]
        simp (disch := omega) only [xX12_mayLine_71, xX12_mayLine_73, xX12_mayLine_76, xX12_mayLine_79, xX12_mayLine_80, xX12_mayLine_83, xX12_mayLine_84, xX12_mayLine_87, xX12_mayLine_88, xX12_mayLine_91, xX12_mayLine_92, xX12_mayLine_93, xX12_mayLine_96, xX12_mayLine_97, xX12_mayLine_98, xX12_mayLine_101, xX12_mayLine_103, xX12_mayLine_104, xX12_mayLine_107, xX12_mayLine_108, xX12_mayLine_111, xX12_mayLine_114, xX12_mayLine_115, xX12_mayLine_116, xX12_mayLine_119, xX12_mayLine_120, xX12_mayLine_121, xX12_mayLine_124, xX12_mayLine_125, xX12_mayLine_126, xX12_mayLine_129, xX12_mayLine_130, xX12_mayLine_131, xX12_mayLine_132, xX12_mayLine_133, xX12_mayLine_136, xX12_mayLine_137, xX12_mayLine_138, xX12_mayLine_141, xX12_mayLine_142, xX12_mayLine_143, xX12_mayLine_146, xX12_mayLine_147, xX12_mayLine_148, xX12_mayLine_151, xX12_mayLine_152, xX12_mayLine_153, xX12_mayLine_156, xX12_mayLine_159, xX12_mayLine_162, xX12_mayLine_163, xX12_mayLine_164, xX12_mayLine_165, xX12_mayLine_168, xX12_mayLine_169, xX12_mayLine_170, xX12_mayLine_173, xX12_mayLine_175, xX12_mayLine_176, xX12_mayLine_177, xX12_mayLine_179, xX12_mayLine_182, xX12_mayLine_185, xX12_mayLine_186, xX12_mayLine_187, xX12_mayLine_188, xX12_mayLine_190, xX12_mayLine_192, xX12_mayLine_194, xX12_mayLine_197, xX12_mayLine_198, xX12_mayLine_201, xX12_mayLine_202, xX12_mayLine_204, xX12_mayLine_205, xX12_mayLine_206, xX12_mayLine_207, xX12_mayLine_210, xX12_mayLine_211, xX12_mayLine_214, xX12_mayLine_215, xX12_mayLine_217, xX12_mayLine_218, xX12_mayLine_219, xX12_mayLine_220, xX12_mayLine_223, xX12_mayLine_226, xX12_mayLine_229, xX12_mayLine_230, xX12_mayLine_232, xX12_mayLine_235, xX12_mayLine_236, xX12_mayLine_237, xX12_mayLine_240, xX12_mayLine_241, xX12_mayLine_244, xX12_mayLine_247, xX12_mayLine_248, xX12_mayLine_251, xX12_mayLine_252, xX12_mayLine_253, xX12_mayLine_254, xX12_mayLine_255, xX12_mayLine_256, xX12_mayLine_257, xX12_mayLine_260, xX12_mayLine_261, xX12_mayLine_262, xX12_mayLine_263, xX12_mayLine_264, xX12_mayLine_267, xX12_mayLine_268, xX12_mayLine_271, xX12_mayLine_272, xX12_mayLine_272I, xX12_mayLine_273, xX12_mayLine_276, xX12_mayLine_277, xX12_mayLine_278, xX12_mayLine_281, xX12_mayLine_282, kd_123, fi_123_23, kd_126, ln_126, fi_123_26, kd_129, ln_129, fi_123_35, kd_138, ln_138, fi_123_36, kd_139, ln_139, fi_123_37, kd_140, ln_140, kd_123, ↓reduceIte, gd_t, hK_p, hN_p, hF_p, hI_p, hJ_p, hR_p, stI_p, stJ_p, stR_p, stA_p, va_rf_s, va_rf_n, clr_i, clr_l, clr_r, clr_n, clr_o, w8_0, w8_1i, w8_1r, w8_2ii, w8_2ri, w8_2ir, w8_2rr, w8_3, beq_self_eq_true, Bool.and_self, Bool.and_true, Bool.true_and, decide_true, Option.toList_some, Option.toList_none, List.cons_append, List.nil_append, Option.bind_some, if_true, if_false, Nat.reduceLeDiff, Nat.reduceLT, Nat.reduceBEq, Bool.or_false, Bool.false_or, Bool.or_true, Bool.true_or, isk_m, hbi, h19, nI_1, z11]
      · unfold myE
        rw [up_n (by decide), up_n (by decide)]
        exact hE c hc
end ML

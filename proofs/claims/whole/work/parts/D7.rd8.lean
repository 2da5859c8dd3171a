-- TEXT, 15: what is told beside, both
def exR (X Y : Mem) (s n : Nat) : Prop := (X (s + 11) n = Y 134 (6 + n) ∧ inN (X (s + 11) n) 0 999) ∧ (X (s + 12) n = Y 135 (6 + n) ∧ inN (X (s + 12) n) 0 99) ∧ (X (s + 13) n = Y 136 (6 + n) ∧ inN (X (s + 13) n) 1 999) ∧ (X (s + 14) n = Y 137 (6 + n) ∧ inN (X (s + 14) n) 0 999)
def exF (s n : Nat) (X X' Y Y' : Mem) : Prop := (∀ c, c ≠ 56 → c ≠ 57 → c < s + 11 ∨ s + 14 < c → X' c = X c) ∧ (∀ c k, s + 11 ≤ c → c ≤ s + 14 → k ≠ n → X' c k = X c k) ∧ (∀ k, k ≠ 2 → k ≠ 3 → k ≠ 6 → X' 56 k = X 56 k) ∧ (∀ c, c ≠ 123 → c < 134 ∨ 137 < c → Y' c = Y c) ∧ (∀ c k, 134 ≤ c → c ≤ 137 → k ≠ 6 + n → Y' c k = Y c k) ∧ ∀ k, k < 4 ∨ 11 < k → k ≠ 18 → Y' 123 k = Y 123 k
theorem exF.tr {s n : Nat} {X X' X'' Y Y' Y'' : Mem} (h : exF s n X X' Y Y') (g : exF s n X' X'' Y' Y'') : exF s n X X'' Y Y'' := by
  obtain ⟨h1, h2, h3, h4, h5, h6⟩ := h
  obtain ⟨g1, g2, g3, g4, g5, g6⟩ := g
  exact ⟨fun c a1 a2 a3 => (g1 c a1 a2 a3).trans (h1 c a1 a2 a3), fun c k a1 a2 a3 => (g2 c k a1 a2 a3).trans (h2 c k a1 a2 a3), fun k a1 a2 a3 => (g3 k a1 a2 a3).trans (h3 k a1 a2 a3), fun c a1 a2 => (g4 c a1 a2).trans (h4 c a1 a2), fun c k a1 a2 a3 => (g5 c k a1 a2 a3).trans (h5 c k a1 a2 a3), fun k a1 a2 => (g6 k a1 a2).trans (h6 k a1 a2)⟩
theorem exF_f {s n : Nat} {X X' Y Y' : Mem} (ht : isTe s) (h : cF X X') (g : mF Y Y') : exF s n X X' Y Y' := by
  have ht2 := te_hi ht
  exact ⟨fun c a1 a2 _ => h.1 c a1 a2, fun c k a1 a2 _ => by rw [h.1 c (by omega) (by omega)], h.2, fun c a1 _ => g.1 c a1, fun c k a1 a2 _ => by rw [g.1 c (by omega)], fun k a1 _ => g.2 k a1⟩
def exC (a b c e : Bool) : Nat := a.toNat + b.toNat + c.toNat + e.toNat
def exB (o : Nat) (a b c e : Bool) : Bool := if o = 11 then a else if o = 12 then b else if o = 13 then c else e
section EL
variable {J J2 : MemL} {R R2 : MemR} {L s : Nat} {u : Nat → Nat}
theorem exT_b {o kc ro k lo hi : Nat} {a b c e : Bool} (h : exT o kc ro k lo hi) : (bitC a b c e >>> (nI kc &&& 31) &&& 1 = 1 ↔ exB o a b c e = true) ∧ (isB (bitM a b c e) (nI k) ↔ exB o a b c e = true) ∧ (exB o a b c e = false → ∃ a' b' c' e', bitC a b c e ||| 1 <<< (nI kc &&& 31) = bitC a' b' c' e' ∧ bitM a b c e ||| 1 <<< (nI k &&& 31) = bitM a' b' c' e' ∧ exC a' b' c' e' = exC a b c e + 1) := by
  obtain ⟨c1, c2, c3, c4⟩ := bitC_o a b c e
  obtain ⟨d1, d2, d3, d4⟩ := bitM_o a b c e
  obtain ⟨e1, e2, e3, e4⟩ := bitC_g a b c e
  obtain ⟨f1, f2, f3, f4⟩ := bitM_g a b c e
  rcases h with ⟨rfl, rfl, rfl, rfl, rfl, rfl⟩ | ⟨rfl, rfl, rfl, rfl, rfl, rfl⟩ | ⟨rfl, rfl, rfl, rfl, rfl, rfl⟩ | ⟨rfl, rfl, rfl, rfl, rfl, rfl⟩
  · exact ⟨e1, f1, fun q => ⟨_, _, _, _, c1, d1, by rw [show a = false from q]; unfold exC; simp only [Bool.toNat_true, Bool.toNat_false]; omega⟩⟩
  · exact ⟨e2, f2, fun q => ⟨_, _, _, _, c2, d2, by rw [show b = false from q]; unfold exC; simp only [Bool.toNat_true, Bool.toNat_false]; omega⟩⟩
  · exact ⟨e3, f3, fun q => ⟨_, _, _, _, c3, d3, by rw [show c = false from q]; unfold exC; simp only [Bool.toNat_true, Bool.toNat_false]; omega⟩⟩
  · exact ⟨e4, f4, fun q => ⟨_, _, _, _, c4, d4, by rw [show e = false from q]; unfold exC; simp only [Bool.toNat_true, Bool.toNat_false]⟩⟩
theorem exT_k {o kc ro k lo hi : Nat} {X Y : Mem} {nc lc : Int32} (h : exT o kc ro k lo hi) (hT : TR (X 57 4) nc lc (Y 123 8) (Y 123 9)) : X 57 4 = nI kc ↔ Y 123 8 = 1 ∧ Y 123 9 = nI k := by
  rcases h with ⟨rfl, rfl, rfl, rfl, rfl, rfl⟩ | ⟨rfl, rfl, rfl, rfl, rfl, rfl⟩ | ⟨rfl, rfl, rfl, rfl, rfl, rfl⟩ | ⟨rfl, rfl, rfl, rfl, rfl, rfl⟩
  · exact TR_key (k := 5) hT (by omega)
  · exact TR_key (k := 6) hT (by omega)
  · exact TR_key (k := 15) hT (by omega)
  · exact TR_key (k := 7) hT (by omega)
theorem exT_r {o kc ro k lo hi n v : Nat} {X Y : Mem} (h : exT o kc ro k lo hi) (hr : exR X Y s n) (h1 : lo ≤ v) (h2 : v ≤ hi) : exR (va_up X (s + o) (upd (X (s + o)) n (nI v))) (va_up Y ro (upd (Y ro) (6 + n) (nI v))) s n := by
  obtain ⟨r1, r2, r3, r4⟩ := hr
  rcases h with ⟨rfl, rfl, rfl, rfl, rfl, rfl⟩ | ⟨rfl, rfl, rfl, rfl, rfl, rfl⟩ | ⟨rfl, rfl, rfl, rfl, rfl, rfl⟩ | ⟨rfl, rfl, rfl, rfl, rfl, rfl⟩
  all_goals unfold exR
  all_goals simp (disch := omega) only [up_s, up_n, pk_us]
  · exact ⟨⟨trivial, v, h1, h2, rfl⟩, r2, r3, r4⟩
  · exact ⟨r1, ⟨trivial, v, h1, h2, rfl⟩, r3, r4⟩
  · exact ⟨r1, r2, ⟨trivial, v, h1, h2, rfl⟩, r4⟩
  · exact ⟨r1, r2, r3, trivial, v, h1, h2, rfl⟩
theorem exT_o {o kc ro k lo hi : Nat} (h : exT o kc ro k lo hi) : 11 ≤ o ∧ o ≤ 14 ∧ 134 ≤ ro ∧ ro ≤ 137 ∧ lo ≤ hi ∧ hi ≤ 9999 := by
  rcases h with ⟨rfl, rfl, rfl, rfl, rfl, rfl⟩ | ⟨rfl, rfl, rfl, rfl, rfl, rfl⟩ | ⟨rfl, rfl, rfl, rfl, rfl, rfl⟩ | ⟨rfl, rfl, rfl, rfl, rfl, rfl⟩ <;> omega
theorem exF_u {o ro n : Nat} {x y : Int32} {X Y : Mem} (ht : isTe s) (h1 : 11 ≤ o) (h2 : o ≤ 14) (h3 : 134 ≤ ro) (h4 : ro ≤ 137) : exF s n X (va_up X (s + o) (upd (X (s + o)) n x)) Y (va_up Y ro (upd (Y ro) (6 + n) y)) := by
  have ht2 := te_hi ht
  refine ⟨fun c a1 a2 a3 => up_n (by omega), fun c k a1 a2 a3 => ?_, fun k _ _ _ => by rw [up_n (by omega)], fun c a1 a2 => up_n (by omega), fun c k a1 a2 a3 => ?_, fun k _ _ => by rw [up_n (by omega)]⟩
  · by_cases w : c = s + o
    · subst w; rw [up_s, pk_un a3]
    · rw [up_n w]
  · by_cases w : c = ro
    · subst w; rw [up_s, pk_un a3]
    · rw [up_n w]
theorem exC4 (a b c e : Bool) : exC a b c e ≤ 4 := by revert a b c e; decide
/-- the loop of both, from token to token -/
theorem exl_p {d n : Nat} {at1 : Int32} (hn : n < 6) (ht : isTe s) (hR : R 56 1 = some s) : ∀ (r i : Nat) (a b c e : Bool) (X Y : Mem) (p : Nat) (l4 l5 m4 : Option Value), i + r = 4 → exC a b c e = i → psR X Y L u p → exR X Y s n → Y 123 18 = nI n →
    (∃ X' Y', E (C (d + 4)) MX7_extras 4 [some (.ref 56), some (.int (nI n)), some (.int (bitC a b c e)), some (.int (nI i)), l4, l5] [] (hp X J R) = some (some (.int 0), hp X' J R) ∧ E (C (d + 4)) MX12_clockLine 231 [some (.ref 123), some (.int (nI (6 + n))), some (.int at1), some (.int (bitM a b c e)), m4] [] (hp Y J2 R2) = some (some (.int 0), hp Y' J2 R2) ∧ faR X' Y' ∧ exF s n X X' Y Y') ∨
    (∃ X' Y' p', E (C (d + 4)) MX7_extras 4 [some (.ref 56), some (.int (nI n)), some (.int (bitC a b c e)), some (.int (nI i)), l4, l5] [] (hp X J R) = some (some (.int 1), hp X' J R) ∧ E (C (d + 4)) MX12_clockLine 231 [some (.ref 123), some (.int (nI (6 + n))), some (.int at1), some (.int (bitM a b c e)), m4] [] (hp Y J2 R2) = some (some (.int 1), hp Y' J2 R2) ∧ psR X' Y' L u p' ∧ p ≤ p' ∧ exR X' Y' s n ∧ Y' 123 18 = nI (n + 1) ∧ exF s n X X' Y Y') := by
  have ht2 := te_hi ht
  intro r
  induction r using Nat.strongRecOn with
  | _ r ih =>
    intro i a b c e X Y p l4 l5 m4 hi hc hp hr h18
    obtain ⟨pl, hS⟩ : ∃ pl, tkS X Y L p pl := hp.2
    have hTR := hS.2.2.2.2.2.2
    by_cases hk : ∃ o kc ro k lo hi', exT o kc ro k lo hi' ∧ X 57 4 = nI kc
    · obtain ⟨o, kc, ro, k, lo, hi', hT, hkc⟩ := hk
      obtain ⟨y8, y9⟩ := (exT_k hT hTR).mp hkc
      obtain ⟨t1, t2, t3⟩ := exT_b (a := a) (b := b) (c := c) (e := e) hT
      obtain ⟨o1, o2, o3, o4, o5, o6⟩ := exT_o hT
      by_cases hf : exB o a b c e = true
      · obtain ⟨f1, f2, f3⟩ := ref_p (k := 3) hp
        exact Or.inl ⟨_, _, exs_a hT (by omega) hn ht hR hkc (t1.mpr hf), exm_a hT y8 y9 (t2.mpr hf), f1, exF_f ht f2 f3⟩
      · have hf' : exB o a b c e = false := by simpa using hf
        obtain ⟨a', b', c', e', u1, u2, u3⟩ := t3 hf'
        have g1 : ¬ bitC a b c e >>> (nI kc &&& 31) &&& 1 = 1 := fun q => hf (t1.mp q)
        have g2 : ¬ isB (bitM a b c e) (nI k) := fun q => hf (t2.mp q)
        obtain ⟨X1, Y1, p1, e1, m1, s1, -, l1, v1, w1, w1'⟩ := nxt_p (d := d + 1) (J := J) (J2 := J2) (R := R) (R2 := R2) hp
        have fx1 : exF s n X X1 Y Y1 := ⟨fun c _ h2 _ => v1 c h2, fun c k _ _ _ => by rw [v1 c (by omega)], fun k _ _ _ => by rw [v1 56 (by omega)], fun c h1 _ => w1 c h1, fun c k _ _ _ => by rw [w1 c (by omega)], fun k h1 _ => w1' k (by omega)⟩
        rcases num_p (d := d) (J := J) (J2 := J2) (R := R) (R2 := R2) (lo := lo) (hi := hi') s1 o5 o6 with ⟨X2, Y2, e2, m2, f1, f2, f3⟩ | ⟨X2, Y2, p2, v, e2, m2, s2, l2, f2, f3, q1, q2, q3, q4, -, -⟩
        · exact Or.inl ⟨X2, Y2, (exs_n hT (by omega) hn ht hR hkc g1 e1).1 e2, (exm_n hT hn y8 y9 g2 m1).1 m2, f1, fx1.tr (exF_f ht f2 f3)⟩
        · have r2 : exR X2 Y2 s n := by
            unfold exR
            rw [f2.1 (s + 11) (by omega) (by omega), f2.1 (s + 12) (by omega) (by omega), f2.1 (s + 13) (by omega) (by omega), f2.1 (s + 14) (by omega) (by omega), f3.1 134 (by omega), f3.1 135 (by omega), f3.1 136 (by omega), f3.1 137 (by omega), v1 (s + 11) (by omega), v1 (s + 12) (by omega), v1 (s + 13) (by omega), v1 (s + 14) (by omega), w1 134 (by omega), w1 135 (by omega), w1 136 (by omega), w1 137 (by omega)]
            exact hr
          have ec := (exs_n (i := i) (l4 := l4) (l5 := l5) hT (by omega) hn ht hR hkc g1 e1).2 e2
          have em := (exm_n (at1 := at1) (l4 := m4) hT hn y8 y9 g2 m1).2 m2
          rw [q3, u1] at ec
          rw [q4, u2] at em
          rw [ec, em]
          have r3 := exT_r hT r2 q1 q2
          have fu := exF_u (n := n) (x := nI v) (y := nI v) (X := X2) (Y := Y2) ht o1 o2 o3 o4
          have s3 : psR (va_up X2 (s + o) (upd (X2 (s + o)) n (nI v))) (va_up Y2 ro (upd (Y2 ro) (6 + n) (nI v))) L u p2 := psR_m (psR_c s2 (fun c hc => up_n (by omega)) (fun k _ => by rw [up_n (by omega)])) (up_n (by omega)) (up_n (by omega)) (fun k _ _ => by rw [up_n (by omega)])
          have y3 : va_up Y2 ro (upd (Y2 ro) (6 + n) (nI v)) 123 18 = nI n := by rw [up_n (by omega), f3.2 18 (by omega), w1' 18 (by omega)]; exact h18
          have h4 := exC4 a' b' c' e'
          have fa := (fx1.tr (exF_f ht f2 f3)).tr fu
          rcases ih (r - 1) (by omega) (i + 1) a' b' c' e' _ _ p2 (some (.ref (s + o))) (some (.int (nI kc))) (some (.int (nI k))) (by omega) (by omega) s3 r3 y3 with ⟨X', Y', z1, z2, z3, z4⟩ | ⟨X', Y', p', z1, z2, z3, z4, z5, z6, z7⟩
          · exact Or.inl ⟨X', Y', z1, z2, z3, fa.tr z4⟩
          · exact Or.inr ⟨X', Y', p', z1, z2, z3, by omega, z5, z6, fa.tr z7⟩
    · have t1 : exT 11 29 134 5 0 999 := Or.inl ⟨rfl, rfl, rfl, rfl, rfl, rfl⟩
      have t2 : exT 12 30 135 6 0 99 := Or.inr (Or.inl ⟨rfl, rfl, rfl, rfl, rfl, rfl⟩)
      have t3 : exT 13 21 136 15 1 999 := Or.inr (Or.inr (Or.inl ⟨rfl, rfl, rfl, rfl, rfl, rfl⟩))
      have t4 : exT 14 31 137 7 0 999 := Or.inr (Or.inr (Or.inr ⟨rfl, rfl, rfl, rfl, rfl, rfl⟩))
      have k1 : X 57 4 ≠ 29 := fun q => hk ⟨_, _, _, _, _, _, t1, q⟩
      have k2 : X 57 4 ≠ 30 := fun q => hk ⟨_, _, _, _, _, _, t2, q⟩
      have k3 : X 57 4 ≠ 21 := fun q => hk ⟨_, _, _, _, _, _, t3, q⟩
      have k4 : X 57 4 ≠ 31 := fun q => hk ⟨_, _, _, _, _, _, t4, q⟩
      have hm : ¬ (Y 123 8 = 1 ∧ (Y 123 9 = 5 ∨ Y 123 9 = 6 ∨ Y 123 9 = 15 ∨ Y 123 9 = 7)) := by
        rintro ⟨q, w | w | w | w⟩
        · exact k1 ((exT_k t1 hTR).mpr ⟨q, w⟩)
        · exact k2 ((exT_k t2 hTR).mpr ⟨q, w⟩)
        · exact k3 ((exT_k t3 hTR).mpr ⟨q, w⟩)
        · exact k4 ((exT_k t4 hTR).mpr ⟨q, w⟩)
      refine Or.inr ⟨X, va_up Y 123 (upd (Y 123) 18 (nI (n + 1))), p, exs_e (by omega) ht hR k1 k2 k3 k4, exm_e hm h18 hn, psR_m hp (up_n (by decide)) (up_n (by decide)) (fun k h1 h2 => by rw [up_s, pk_un (by omega)]), by omega, ?_, by rw [up_s, pk_us], ⟨fun _ _ _ _ => rfl, fun _ _ _ _ _ => rfl, fun _ _ _ _ => rfl, fun c h1 _ => up_n h1, fun c k _ _ _ => by rw [up_n (by omega)], fun k _ h2 => by rw [up_s, pk_un h2]⟩⟩
      unfold exR
      rw [up_n (by decide), up_n (by decide), up_n (by decide), up_n (by decide)]
      exact hr
end EL

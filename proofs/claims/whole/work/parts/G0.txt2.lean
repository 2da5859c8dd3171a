-- TEXT, 37: a new text, all of it
section TN
variable {I2 X' Y' : Mem} {R1 : MemR} {s t n b m fL lL fG lG : Nat}
theorem lw1_c {g ix f l tot : Nat} (hx : ix = 0 ∨ ix = 1) (h : lw1 X' Y' g (2 + ix) f l tot) (e0 : I2 g = X' g) (e1 : I2 (g + 1) = X' (g + 1)) (e2 : I2 (g + 2) = X' (g + 2)) (k2 : ∀ a k, 126 ≤ a → a ≤ 146 → k < hfM a → I2 a k = Y' a (hfM a + k)) : (I2 g 0 = 0 ↔ I2 141 ix = 0) ∧ I2 g 1 = nI l ∧ (I2 g 0 = 0 ∨ (cLaw (I2 (g + 1)) (I2 (g + 2)) (I2 144) (I2 145) (I2 146) f l ∧ I2 142 ix = nI f ∧ I2 143 ix = nI (f + l))) := by
  obtain ⟨⟨h1, -⟩, h2, -, h4⟩ := h
  have q1 : I2 141 ix = Y' 141 (2 + ix) := k2 141 ix (by omega) (by omega) (show ix < 2 by omega)
  have q2 : I2 142 ix = Y' 142 (2 + ix) := k2 142 ix (by omega) (by omega) (show ix < 2 by omega)
  have q3 : I2 143 ix = Y' 143 (2 + ix) := k2 143 ix (by omega) (by omega) (show ix < 2 by omega)
  rw [e0, e1, e2, q1, q2, q3]
  refine ⟨by rw [h1], h2, h4.imp id (fun q => ?_)⟩
  obtain ⟨p1, p2, p3, p4⟩ := q
  refine ⟨cLaw_cg (fun _ _ => rfl) (fun _ _ => rfl) (fun j hj => ?_) p1, p2, p3⟩
  have := p1.2.1
  exact ⟨(k2 144 j (by omega) (by omega) (show j < 64 by omega)).symm, (k2 145 j (by omega) (by omega) (show j < 64 by omega)).symm, (k2 146 j (by omega) (by omega) (show j < 64 by omega)).symm⟩
theorem cNew (hs : isTe s) (ht : isTe t) (hst : s ≠ t) (r3 : R1 0 3 = some s) (r4 : R1 0 4 = some t) (r60 : R1 60 0 = some s) (hr : rdR X' Y' s b n m fL lL fG lG) (k1 : I2 123 12 = Y' 123 17 ∧ I2 123 13 = Y' 123 18 ∧ I2 123 14 = Y' 123 19 ∧ I2 123 15 = Y' 123 20 ∧ I2 123 16 = Y' 123 21) (k2 : ∀ a k, 126 ≤ a → a ≤ 146 → k < hfM a → I2 a k = Y' a (hfM a + k)) (k3 : ∀ k, k < 6 → I2 151 k = Y' 130 (6 + k) ∧ I2 152 k = Y' 131 (6 + k)) (k4 : ∀ k, k < n → I2 153 k = Y' 134 (6 + k) ∧ I2 154 k = Y' 136 (6 + k) ∧ I2 155 k = 0 ∧ I2 156 k = 0) (k5 : I2 123 70 = 0 ∧ I2 123 73 = 0 ∧ I2 123 79 = 0 ∧ I2 123 80 = -1 ∧ I2 123 84 = 0) (c1 : ∀ a, s ≤ a → a < s + 27 → I2 a = X' a) (c2 : ∀ a, 60 ≤ a → a < 72 → I2 a = begM X' 60 s (s + 7) (s + 8) n a) (c4 : I2 0 7 = 0 ∧ I2 105 1 = 0 ∧ I2 107 4 = 0 ∧ I2 107 5 = -1 ∧ I2 0 1 = 0 ∧ I2 123 1 = 0) (c5 : cFau I2) : cAll I2 R1 s t n b m fL lL fG lG 0 := by
  have hs2 := te_hi hs
  obtain ⟨⟨⟨b1, b2⟩, b3, b4, b5⟩, ⟨⟨d1, d2⟩, d3, d4, d5, d6⟩, ⟨w1, w2, w3⟩, ⟨⟨m1, m2⟩, m3, m4, m5, m6⟩, l1, l2, l3, l4, l5, l6⟩ := hr
  obtain ⟨e12, e13, e14, e15, e16⟩ := k1
  have k3r : ∀ a i, 126 ≤ a → a ≤ 128 → i < 3 → I2 a i = Y' a (3 + i) := fun a i h1 h2 h3 => by
    have : hfM a = 3 := by unfold hfM; rw [if_pos (by omega)]
    have q := k2 a i h1 (by omega) (by omega)
    rw [this] at q
    exact q
  have k6r : ∀ a i, 129 ≤ a → a ≤ 137 → i < 6 → I2 a i = Y' a (6 + i) := fun a i h1 h2 h3 => by
    have : hfM a = 6 := by unfold hfM; rw [if_neg (by omega), if_pos (by omega)]
    have q := k2 a i (by omega) (by omega) (by omega)
    rw [this] at q
    exact q
  obtain ⟨f1, f2, f3, f4, f5, f6⟩ := c4
  obtain ⟨g70, g73, g79, g80, g84⟩ := k5
  obtain ⟨p1, p2, p3⟩ := lw1_c (ix := 0) (Or.inl rfl) l1 (c1 _ (by omega) (by omega)) (c1 _ (by omega) (by omega)) (c1 _ (by omega) (by omega)) k2
  obtain ⟨q1, q2, q3⟩ := lw1_c (ix := 1) (Or.inr rfl) l2 (c1 _ (by omega) (by omega)) (c1 _ (by omega) (by omega)) (c1 _ (by omega) (by omega)) k2
  have e60 := fun k hk => (congrFun (c2 60 (by omega) (by omega)) k).trans (begM_f (I := X') (m := 60) (t := s) (b := s + 7) (p := s + 8) (n := n) k hk)
  have r61 := (c2 61 (by omega) (by omega)).trans (begM_1 (m := 60))
  have r62 := (c2 62 (by omega) (by omega)).trans (begM_2 (m := 60))
  have r63 := (c2 63 (by omega) (by omega)).trans (begM_3 (m := 60))
  have r64 := (c2 64 (by omega) (by omega)).trans (begM_4 (m := 60))
  have r65 := (c2 65 (by omega) (by omega)).trans (begM_5 (m := 60))
  have r66 := (c2 66 (by omega) (by omega)).trans (begM_6 (m := 60))
  have r67 := (c2 67 (by omega) (by omega)).trans (begM_7 (m := 60))
  have r68 := (c2 68 (by omega) (by omega)).trans (begM_8 (m := 60))
  have r69 := (c2 69 (by omega) (by omega)).trans (begM_9 (m := 60))
  have r70 := (c2 70 (by omega) (by omega)).trans (begM_10 (m := 60))
  have r71 := (c2 71 (by omega) (by omega)).trans (begM_11 (m := 60))
  have x60 : I2 60 3 = X' s 12 := by rw [e60 3 (by omega)]; rfl
  refine ⟨hs, ht, hst, r3, r4, ⟨⟨by rw [c1 _ (by omega) (by omega)]; exact b1, by rw [e12]; exact b3, b4⟩, ⟨by rw [c1 _ (by omega) (by omega)]; exact d1, by rw [e13]; exact d3, d4⟩, ⟨by rw [c1 _ (by omega) (by omega)]; exact m1, by rw [e14]; exact m3, m4⟩, fun i hi => ?_, fun i hi => ?_, fun i hi => ?_, fun i h1 h2 => ?_, ⟨?_, ?_⟩, fun j hj => ⟨?_, fun c hc => ?_⟩⟩, ⟨p1, p2, by omega, p3, q1, q2, by omega, q3⟩, by rw [e15]; exact l3, ⟨r60, ?_, by rw [e60 2 (by omega)]; rfl, g70, by omega, ?_, by rw [e60 4 (by omega)]; rfl, fun i hi => ?_, ⟨fun i hi => ?_, fun i h1 h2 => ?_⟩, fun i hi => ?_, fun i hi => ?_, fun c q hc hq => ?_⟩, ⟨by rw [f1, g84], Or.inl f1⟩, fun τ hτ => absurd hτ (by omega), ⟨0, f2, g73, by omega, fun e he => absurd he (by omega)⟩, ⟨0, f3, g79, by omega, by rw [f4, g80], Or.inl f4, fun k hk => absurd hk (by omega)⟩, ⟨0, f5, f6, by omega, fun k hk => absurd hk (by omega)⟩, c5⟩
  · obtain ⟨x1, x2, x3, x4⟩ := b5 i hi
    rw [c1 (s + 2) (by omega) (by omega), c1 (s + 3) (by omega) (by omega), c1 (s + 4) (by omega) (by omega), k3r 126 i (by omega) (by omega) (by omega), k3r 127 i (by omega) (by omega) (by omega), k3r 128 i (by omega) (by omega) (by omega)]
    exact ⟨b2 i hi, x1, x2, x1 ▸ x3, x2 ▸ x4⟩
  · obtain ⟨⟨x1, -⟩, ⟨x2, -⟩, ⟨x3, -⟩, ⟨x4, -⟩, ⟨x5, -⟩, ⟨x6, -⟩, ⟨x7, -⟩, ⟨x8, -⟩⟩ := d5 i hi
    rw [c1 (s + 6) (by omega) (by omega), c1 (s + 7) (by omega) (by omega), c1 (s + 8) (by omega) (by omega), c1 (s + 9) (by omega) (by omega), c1 (s + 10) (by omega) (by omega), c1 (s + 11) (by omega) (by omega), c1 (s + 12) (by omega) (by omega), c1 (s + 13) (by omega) (by omega), c1 (s + 14) (by omega) (by omega), k6r 129 i (by omega) (by omega) (by omega), k6r 130 i (by omega) (by omega) (by omega), k6r 131 i (by omega) (by omega) (by omega), k6r 132 i (by omega) (by omega) (by omega), k6r 133 i (by omega) (by omega) (by omega), k6r 134 i (by omega) (by omega) (by omega), k6r 135 i (by omega) (by omega) (by omega), k6r 136 i (by omega) (by omega) (by omega), k6r 137 i (by omega) (by omega) (by omega)]
    exact ⟨d2 i hi, x1, x2, x3, x4, x5, x6, x7, x8⟩
  · obtain ⟨⟨x1, y1⟩, ⟨x2, y2⟩, ⟨x3, y3⟩, ⟨x4, y4⟩, ⟨x5, y5⟩, ⟨x6, y6⟩, ⟨x7, y7⟩, ⟨x8, y8⟩⟩ := d5 i hi
    rw [k6r 130 i (by omega) (by omega) (by omega), k6r 131 i (by omega) (by omega) (by omega), k6r 132 i (by omega) (by omega) (by omega), k6r 133 i (by omega) (by omega) (by omega), k6r 134 i (by omega) (by omega) (by omega), k6r 135 i (by omega) (by omega) (by omega), k6r 136 i (by omega) (by omega) (by omega), k6r 137 i (by omega) (by omega) (by omega)]
    rw [← x1, ← x2, ← x3, ← x4, ← x5, ← x6, ← x7, ← x8]
    exact ⟨y1, y2, y3, y4, y5, y6, y7, y8⟩
  · rw [c1 _ (by omega) (by omega)]; exact (d6 i h1 h2).1
  · rw [c1 s (by omega) (by omega), e16]; exact w2
  · rw [e16, ← w2]; exact w3
  · have q : I2 138 j = Y' 138 (4 + j) := k2 138 j (by omega) (by omega) (show j < 4 by omega)
    rw [c1 _ (by omega) (by omega), q]; exact m2 j hj
  · have q9 : I2 139 (j * 6 + c) = Y' 139 (24 + (j * 6 + c)) := k2 139 (j * 6 + c) (by omega) (by omega) (show j * 6 + c < 24 by omega)
    have q0 : I2 140 (j * 6 + c) = Y' 140 (24 + (j * 6 + c)) := k2 140 (j * 6 + c) (by omega) (by omega) (show j * 6 + c < 24 by omega)
    obtain ⟨x1, x2⟩ := m5 (j * 6 + c) (by omega)
    rw [c1 (s + 17) (by omega) (by omega), c1 (s + 18) (by omega) (by omega), q9, q0, ← x1]
    refine ⟨rfl, x2.imp id (fun z => ?_)⟩
    obtain ⟨z1, z2, z3⟩ := z
    exact ⟨z1, z2, z2 ▸ z3⟩
  · rw [e60 1 (by omega)]; exact d1
  · rw [x60, c1 s (by omega) (by omega)]
  · rw [r61, cpF_at (by omega), c1 _ (by omega) (by omega)]
  · obtain ⟨⟨x1, y1⟩, ⟨x2, y2⟩, -⟩ := d5 i hi
    rw [r62, r63, cpF_at (by omega), cpF_at (by omega), Nat.zero_add, (k3 i (by omega)).1, (k3 i (by omega)).2]
    exact ⟨x1, y1, x2, y2⟩
  · rw [r62, cpF_at (by omega)]; exact (d6 i h1 h2).1
  · rw [r64, r65, r66, cpF_at (by omega), cpF_at (by omega), cpF_at (by omega), c1 (s + 9) (by omega) (by omega), c1 (s + 10) (by omega) (by omega), c1 (s + 14) (by omega) (by omega)]
    exact ⟨rfl, rfl, rfl⟩
  · obtain ⟨-, -, -, -, ⟨x5, z, z1, z2, z3⟩, -, ⟨x7, -⟩, -⟩ := d5 i hi
    obtain ⟨o1, o2, o3, o4⟩ := k4 i hi
    rw [r67, r68, r69, r70, cpF_at (by omega), cpF_at (by omega), o1, o2, o3, o4]
    refine ⟨x5, ⟨z, by omega, z3⟩, x7, ?_, ?_⟩
    · unfold zerF
      rw [if_pos (by omega)]
    · unfold zerF
      rw [if_pos (by omega)]
  · rw [r71, mesF_at d4 c q hc hq, x60, r61, r62, r63, r64, c1 (s + 3) (by omega) (by omega)]
end TN

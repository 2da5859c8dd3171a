-- TEXT, 17: a clock's line behind its place
/-- what the rest of a clock's line leaves alone -/
def ckF (s n : Nat) (X X' Y Y' : Mem) : Prop := (∀ c, c ≠ 56 → c ≠ 57 → c < s + 9 ∨ s + 14 < c → X' c = X c) ∧ (∀ c k, s + 9 ≤ c → c ≤ s + 14 → k ≠ n → X' c k = X c k) ∧ (∀ k, k ≠ 2 → k ≠ 3 → k ≠ 6 → X' 56 k = X 56 k) ∧ (∀ c, c ≠ 123 → c < 132 ∨ 137 < c → Y' c = Y c) ∧ (∀ c k, 132 ≤ c → c ≤ 137 → k ≠ 6 + n → Y' c k = Y c k) ∧ ∀ k, k < 4 ∨ 11 < k → k ≠ 18 → Y' 123 k = Y 123 k
theorem ckF.tr {s n : Nat} {X X' X'' Y Y' Y'' : Mem} (h : ckF s n X X' Y Y') (g : ckF s n X' X'' Y' Y'') : ckF s n X X'' Y Y'' := by
  obtain ⟨h1, h2, h3, h4, h5, h6⟩ := h
  obtain ⟨g1, g2, g3, g4, g5, g6⟩ := g
  exact ⟨fun c a1 a2 a3 => (g1 c a1 a2 a3).trans (h1 c a1 a2 a3), fun c k a1 a2 a3 => (g2 c k a1 a2 a3).trans (h2 c k a1 a2 a3), fun k a1 a2 a3 => (g3 k a1 a2 a3).trans (h3 k a1 a2 a3), fun c a1 a2 => (g4 c a1 a2).trans (h4 c a1 a2), fun c k a1 a2 a3 => (g5 c k a1 a2 a3).trans (h5 c k a1 a2 a3), fun k a1 a2 => (g6 k a1 a2).trans (h6 k a1 a2)⟩
theorem ckF_f {s n : Nat} {X X' Y Y' : Mem} (ht : isTe s) (h : cF X X') (g : mF Y Y') : ckF s n X X' Y Y' := by
  have ht2 := te_hi ht
  exact ⟨fun c a1 a2 _ => h.1 c a1 a2, fun c k a1 a2 _ => by rw [h.1 c (by omega) (by omega)], h.2, fun c a1 _ => g.1 c a1, fun c k a1 a2 _ => by rw [g.1 c (by omega)], fun k a1 _ => g.2 k a1⟩
theorem exF.ck {s n : Nat} {X X' Y Y' : Mem} (ht : isTe s) (h : exF s n X X' Y Y') : ckF s n X X' Y Y' := by
  have ht2 := te_hi ht
  obtain ⟨h1, h2, h3, h4, h5, h6⟩ := h
  refine ⟨fun c a1 a2 a3 => h1 c a1 a2 (by omega), fun c k a1 a2 a3 => ?_, h3, fun c a1 a2 => h4 c a1 (by omega), fun c k a1 a2 a3 => ?_, h6⟩
  · by_cases w : s + 11 ≤ c
    · exact h2 c k w a2 a3
    · rw [h1 c (by omega) (by omega) (by omega)]
  · by_cases w : 134 ≤ c
    · exact h5 c k w a2 a3
    · rw [h4 c (by omega) (by omega)]
theorem ckF_u {s o ro n : Nat} {x y : Int32} {X Y : Mem} (ht : isTe s) (h1 : 9 ≤ o) (h2 : o ≤ 14) (h3 : 132 ≤ ro) (h4 : ro ≤ 137) : ckF s n X (va_up X (s + o) (upd (X (s + o)) n x)) Y (va_up Y ro (upd (Y ro) (6 + n) y)) := by
  have ht2 := te_hi ht
  refine ⟨fun c a1 a2 a3 => up_n (by omega), fun c k a1 a2 a3 => ?_, fun k _ _ _ => by rw [up_n (by omega)], fun c a1 a2 => up_n (by omega), fun c k a1 a2 a3 => ?_, fun k _ _ => by rw [up_n (by omega)]⟩
  · by_cases w : c = s + o
    · subst w; rw [up_s, pk_un a3]
    · rw [up_n w]
  · by_cases w : c = ro
    · subst w; rw [up_s, pk_un a3]
    · rw [up_n w]
theorem ckF.fc {s n : Nat} {X X' Y Y' : Mem} (h : ckF s n X X' Y Y') : fC s X X' := fun a h1 h2 h3 _ => h.1 a h2 h3 (by omega)
theorem ckF.fm {s n : Nat} {X X' Y Y' : Mem} (h : ckF s n X X' Y Y') : fM Y Y' := by
  obtain ⟨-, -, -, h4, h5, h6⟩ := h
  refine ⟨fun a h1 => h4 a (by omega) (by omega), fun a k h1 h2 h3 => ?_, fun k hk => h6 k (by omega) (by omega)⟩
  by_cases w : 132 ≤ a ∧ a ≤ 137
  · have : hfM a = 6 := by
      unfold hfM
      rw [if_neg (by omega), if_pos (by omega)]
    exact h5 a k w.1 w.2 (by omega)
  · rw [h4 a (by omega) (by omega)]

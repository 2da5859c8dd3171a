-- THE CONSTRUCTORS, 4: the model's, and the invariant at the start
section CON4
variable {l : Launch}
theorem con_Bg {h2 : Hp} {h : Hp} {o : Option Cf} (hT : ∀ (d : Nat) (M : Mth) (as : List Value) (h : Hp) (r : Rs), 6 ≤ d → mG M → tokT M as h = some r → Mon h r.2 ∧ MetP l (d + 1) M as h r) (e : o = runC (Cfu tokT 10) MX12_init rwX12 (0, [some (.ref 123)], [], h)) (q : o = some (1030, [some (.ref 123)], [], h2)) (v : eqv h2 (hq (hI h2) (hJ h2) (hR h2))) {Y : Mem} (hY : E (C 10) MX12_init 1030 [some (.ref 123)] [] (hq (hI h2) (hJ h2) (hR h2)) = some (none, hq Y (hJ h2) (hR h2))) : hTop h ≤ 171 ∧ hSl h ≤ 64802 ∧ MetP l 11 MX12_init [.ref 123] h (none, hq Y (hJ h2) (hR h2)) := by
  obtain ⟨m1, k1⟩ := runC_ok (d := 10) (Cfu_ok l tokT hT 10) rwX12 _ _ rwX12_ok (e.symm.trans q)
  obtain ⟨n, hn⟩ := E_iff.mp hY
  obtain ⟨m2, k2⟩ := runs_GW (d := 10) (C_ok l 10) n 1030 _ _ _ hn
  have t2 : hTop h2 = 171 := v.2.1
  have s2 : hSl h2 = 64802 := v.2.2.1
  refine ⟨by rw [← t2]; exact m1.1, by rw [← s2]; exact m1.2.1, Met_GW (d := 10) mgX12_init (Nat.le_of_ble_eq_true rfl) (fun t0 s0 mc ms b ht hs => ?_)⟩
  have ht : 171 = t0 + mc := ht
  have hs : 64802 = s0 + ms := hs
  exact k1 t0 s0 mc ms b _ (by show hTop h2 ≤ _; rw [t2, ht]; exact Nat.le_refl _) (by show hSl h2 ≤ _; rw [s2, hs]; exact Nat.le_refl _) (v.gw (k2 t0 s0 mc ms b ht hs))
theorem cB_def : cB = runC (Cfu tokT 10) MX12_init rwX12 (0, [some (.ref 123)], [], hB) := by
  unfold cB
  rfl
/-- what is known of the ints and references behind the constructors -/
def inZ (I : Mem) (R : MemR) : Prop := (∀ x ∈ zeC, I x.1 x.2 = 0) ∧ (∀ i, i < 6 → I 9 i = -1 ∧ I 62 i = -1) ∧ (I 107 5 = -1 ∧ I 56 2 = I 123 4 ∧ I 56 3 = I 123 5) ∧ (∀ k, k < 107 → I 125 k = nI (wrdL.getD k 0)) ∧ (∀ k, k < 21 → I 58 k = nI (lngL.getD k 0)) ∧ (R 0 3 = some 2 ∧ R 0 4 = some 29 ∧ R 60 0 = some 2)
theorem inZ_of {h : Hp} (hc : chI h = true) : inZ (hI h) (hR h) := by
  unfold chI at hc
  simp only [Bool.and_eq_true, beq_iff_eq, List.all_eq_true, List.mem_range] at hc
  obtain ⟨⟨⟨⟨⟨a1, a2⟩, a3⟩, a4⟩, a5⟩, a6⟩ := hc
  exact ⟨fun x hx => a1 x hx, a2, ⟨a3.1.1, a3.1.2, a3.2⟩, a4, a5, ⟨a6.1.1, a6.1.2, a6.2⟩⟩
def inY (I Y : Mem) : Prop := (Y 123 12 = 0 ∧ Y 123 13 = 0 ∧ Y 123 14 = 0 ∧ Y 123 15 = 0 ∧ Y 123 16 = 0) ∧ (Y 141 0 = 0 ∧ Y 141 1 = 0) ∧ (Y 123 70 = 0 ∧ Y 123 73 = 0 ∧ Y 123 79 = 0 ∧ Y 123 80 = -1 ∧ Y 123 84 = 0) ∧ (∀ k, k < 12 → Y 123 k = I 123 k) ∧ ∀ c, c < 123 ∨ c = 124 ∨ c = 125 → Y c = I c
theorem con_B (hT : ∀ (d : Nat) (M : Mth) (as : List Value) (h : Hp) (r : Rs), 6 ≤ d → mG M → tokT M as h = some r → Mon h r.2 ∧ MetP l (d + 1) M as h r) : ∃ (I Y : Mem) (J : MemL) (R : MemR), inZ I R ∧ inY I Y ∧ MetP l 11 MX12_init [.ref 123] hB (none, hq Y J R) := by
  obtain ⟨Y, h1, h2⟩ := con_E (d := 8) (I := hI hB2) (J := hJ hB2) (R := hR hB2)
  exact ⟨hI hB2, Y, hJ hB2, hR hB2, inZ_of evI, h2, (con_Bg hT cB_def cB_eq eqB2 h1).2.2⟩
/-- the invariant at the loop's start -/
theorem con_inv {I Y : Mem} {R : MemR} {f : Nat → Int32} {g : Nat → Option Nat} (z : inZ I R) (y : inY I Y) : lInv (va_up Y 171 f) (va_up R 171 g) := by
  obtain ⟨z1, z2, z3, z4, z5, z6⟩ := z
  obtain ⟨y1, y2, y3, y4, y5⟩ := y
  have Z : ∀ c k, (c, k) ∈ zeC → c < 123 → va_up Y 171 f c k = 0 := fun c k h1 h2 => by
    rw [up_n (by omega), y5 c (by omega)]
    exact z1 (c, k) h1
  have M : ∀ k, va_up Y 171 f 123 k = Y 123 k := fun k => by rw [up_n (by decide)]
  have e0 : nI 0 = 0 := rfl
  have m1 : va_up Y 171 f 123 1 = 0 := by
    rw [M, y4 1 (by omega)]
    exact z1 (123, 1) (by decide)
  refine ⟨2, 29, 0, 0, 0, 0, 0, 0, 0, 0, ⟨Or.inl rfl, Or.inr rfl, by decide, ?_, ?_, ⟨⟨?_, ?_, by omega⟩, ⟨?_, ?_, by omega⟩, ⟨?_, ?_, by omega⟩, fun i hi => absurd hi (by omega), fun i hi => absurd hi (by omega), fun i hi => absurd hi (by omega), fun i _ hi => ?_, ⟨?_, ⟨0, by omega, by omega, ?_⟩⟩, fun m hm => absurd hm (by omega)⟩, ⟨⟨fun _ => ?_, fun _ => ?_⟩, ?_, by omega, Or.inl ?_, ⟨fun _ => ?_, fun _ => ?_⟩, ?_, by omega, Or.inl ?_⟩, ?_, ⟨?_, ?_, ?_, ?_, by omega, ?_, ?_, fun i hi => absurd hi (by omega), ⟨fun i hi => absurd hi (by omega), fun i _ hi => ?_⟩, fun i hi => absurd hi (by omega), fun i hi => absurd hi (by omega), fun c q hc => absurd hc (by omega)⟩, ⟨?_, Or.inl ?_⟩, fun τ hτ => absurd hτ (by omega), ⟨0, ?_, ?_, by omega, fun e he => absurd he (by omega)⟩, ⟨0, ?_, ?_, by omega, ?_, Or.inl ?_, fun k hk => absurd hk (by omega)⟩, ⟨0, ?_, ?_, by omega, fun k hk => absurd hk (by omega)⟩, ?_, ?_, fun k hk => ?_, fun k hk => ?_⟩, Or.inl ?_, Or.inl ?_⟩
  · rw [up_n (by decide)]; exact z6.1
  · rw [up_n (by decide)]; exact z6.2.1
  · exact Z 3 1 (by decide) (by decide)
  · rw [M]; exact y1.1
  · exact Z 7 1 (by decide) (by decide)
  · rw [M]; exact y1.2.1
  · exact Z 17 1 (by decide) (by decide)
  · rw [M]; exact y1.2.2.1
  · rw [up_n (by decide), y5 _ (by decide)]; exact (z2 i hi).1
  · rw [M, y1.2.2.2.2]; exact Z 2 12 (by decide) (by decide)
  · rw [M, y1.2.2.2.2]; rfl
  · rw [up_n (by decide)]; exact y2.1
  · exact Z 21 0 (by decide) (by decide)
  · exact Z 21 1 (by decide) (by decide)
  · exact Z 21 0 (by decide) (by decide)
  · rw [up_n (by decide)]; exact y2.2
  · exact Z 25 0 (by decide) (by decide)
  · exact Z 25 1 (by decide) (by decide)
  · exact Z 25 0 (by decide) (by decide)
  · rw [M]; exact y1.2.2.2.1
  · rw [up_n (by decide)]; exact z6.2.2
  · exact Z 60 1 (by decide) (by decide)
  · exact Z 60 2 (by decide) (by decide)
  · rw [M]; exact y3.1
  · exact (Z 60 3 (by decide) (by decide)).trans (Z 2 12 (by decide) (by decide)).symm
  · exact Z 60 4 (by decide) (by decide)
  · rw [up_n (by decide), y5 _ (by decide)]; exact (z2 i hi).2
  · rw [M, y3.2.2.2.2]; exact Z 0 7 (by decide) (by decide)
  · exact Z 0 7 (by decide) (by decide)
  · exact Z 105 1 (by decide) (by decide)
  · rw [M]; exact y3.2.1
  · exact Z 107 4 (by decide) (by decide)
  · rw [M]; exact y3.2.2.1
  · rw [M, y3.2.2.2.1, up_n (by decide), y5 _ (by decide)]; exact z3.1
  · rw [up_n (by decide), y5 _ (by decide)]; exact z3.1
  · exact Z 0 1 (by decide) (by decide)
  · exact m1
  · rw [M, y4 4 (by omega), up_n (by decide), y5 _ (by decide)]; exact z3.2.1
  · rw [M, y4 5 (by omega), up_n (by decide), y5 _ (by decide)]; exact z3.2.2
  · rw [up_n (by decide), y5 _ (by decide)]; exact z4 k hk
  · rw [up_n (by decide), y5 _ (by decide)]; exact z5 k hk
  · exact Z 117 4 (by decide) (by decide)
  · exact Z 112 7 (by decide) (by decide)
end CON4

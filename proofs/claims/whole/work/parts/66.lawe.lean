-- LAWS OF BOTH, 4
theorem law_eq {told told' : Int32} {ki nu kn pa ot : Nat → Int32} {na : Nat → Int64} {fi len : Nat} {most oth : Int32} (ht : told = 0 ↔ told' = 0) (hc : told = 0 ∨ cLaw ki nu kn pa ot fi len) (hn : ∀ j, j < 7 → inL (na j)) :
    lawF told ki nu na len most oth = lawM told' kn pa ot na fi (fi + len) oth most := by
  unfold lawF worF lawM lawR
  by_cases z : told = 0
  · rw [if_pos z, if_pos (ht.mp z)]
  · have hc := hc.resolve_left z
    rw [if_neg z, if_neg (fun q => z (ht.mpr q)), show fi + len - fi = len by omega]
    have h := law_sim hc hn len 0 (fun _ => 0) (fun _ => 0) (by omega) (fun j hj => absurd hj (by unfold hgt; omega))
    have h0 : hgt ki 0 = 0 := rfl
    rw [h0, Nat.add_zero] at h
    rcases h with ⟨h1, h2⟩ | ⟨S', h1, h2, h3⟩
    · rw [h1, if_neg h2]
      rfl
    · rw [h1, if_pos h2]
      show wfin most (S' 0) = _
      have hp := wf_pos hc.1
      rw [h3 0 (by rw [hc.1.2]; omega)]
      obtain ⟨l, rfl⟩ : ∃ l, len = l + 1 := ⟨len - 1, by omega⟩
      have hx : ixs ki (l + 1) 0 = l := by
        show va_up (ixs ki l) (hgt ki (l + 1) - 1) l 0 = l
        rw [hc.1.2]
        exact up_s _ _ _
      rw [hx, show fi + (l + 1) - 1 = fi + l by omega]
theorem in_namF {x0 x1 x2 x3 x4 x5 x6 : Int32} : ∀ j, j < 7 → inL (namF x0 x1 x2 x3 x4 x5 x6 j) := by
  intro j _
  unfold namF
  repeat' split
  all_goals exact in_i32 _
theorem cLaw_wfM {ki nu kn pa ot : Nat → Int32} {fi len : Nat} (hc : cLaw ki nu kn pa ot fi len) : wfM kn pa ot fi (fi + len) := by
  obtain ⟨hw, h64, hcl⟩ := hc
  have hp := wf_pos hw
  refine ⟨by omega, h64, fun q h1 h2 => ?_⟩
  obtain ⟨i, rfl⟩ : ∃ i, q = fi + i := ⟨q - fi, by omega⟩
  have hil : i < len := by omega
  have hix := fun j hj => ixs_lt hw i (by omega) j hj
  have hk := hw.1 i hil
  rcases hcl i hil with ⟨a1, a2, a3⟩ | ⟨a1, a2, a3, a4⟩ | ⟨a1, a2, a3⟩ | ⟨a1, a2, a3, a4⟩
  · exact ⟨⟨by omega, fun e => by rw [a2] at e; exact absurd e (by decide), fun e => absurd a2 e, fun e => absurd a2 e⟩, fun e => absurd a2 e, fun e => absurd a2 e⟩
  · refine ⟨⟨by omega, fun _ => by rw [a4]; exact in26 a1 a2, fun _ e => absurd a3 e, fun _ e => absurd a3 e⟩, fun _ e => absurd a3 e, fun _ e => absurd a3 e⟩
  · have n2 : ¬ ki i = 2 := fun q => by rw [a1] at q; exact absurd q (by decide)
    have n3 : ¬ (20 ≤ ki i ∧ ki i ≤ 26) := fun q => by rw [a1] at q; exact absurd q.1 (by decide)
    have hp : 0 < hgt ki i := by
      rcases hk with ⟨k1, k2⟩ | ⟨k1, k2, k3⟩ | ⟨k1, k2⟩ | ⟨k1, k2, k3, k4⟩
      · exact absurd k1 n2
      · exact absurd ⟨k1, k2⟩ n3
      · exact k2
      · exact absurd a1 k3
    have hx1 := hix (hgt ki i - 1) (by omega)
    refine ⟨⟨by omega, fun e => by rw [a2] at e; exact absurd e (by decide), fun _ _ => by rw [a3]; exact inb_n (by omega) (by omega), fun _ _ e => absurd a2 e⟩, fun _ _ => by rw [a3, nI_clamp (by omega)]; omega, fun _ _ e => absurd a2 e⟩
  · obtain ⟨n2, n3, n4⟩ := bin_no a1
    obtain ⟨m0, m1, m2⟩ := kmp_no a1
    have hp : 1 < hgt ki i := by
      rcases hk with ⟨k1, k2⟩ | ⟨k1, k2, k3⟩ | ⟨k1, k2⟩ | ⟨k1, k2, k3, k4⟩
      · exact absurd k1 n2
      · exact absurd ⟨k1, k2⟩ n3
      · exact absurd k1 n4
      · exact k4
    have hx1 := hix (hgt ki i - 1) (by omega)
    have hx2 := hix (hgt ki i - 2) (by omega)
    refine ⟨⟨by omega, fun e => by rw [a2] at e; exact absurd e m1, fun _ _ => by rw [a3]; exact inb_n (by omega) (by omega), fun _ _ _ => by rw [a4]; exact inb_n (by omega) (by omega)⟩, fun _ _ => by rw [a3, nI_clamp (by omega)]; omega, fun _ _ _ => by rw [a4, nI_clamp (by omega)]; omega⟩

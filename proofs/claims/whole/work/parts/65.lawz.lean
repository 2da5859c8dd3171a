-- LAWS OF BOTH, 3: the postfix row and the knots are worth the same
def ixs (ki : Nat → Int32) : Nat → Nat → Nat
  | 0 => fun _ => 0
  | i + 1 => va_up (ixs ki i) (hgt ki (i + 1) - 1) i
theorem ixs_lt {ki : Nat → Int32} {len : Nat} (hw : wfP ki len) : ∀ i, i ≤ len → ∀ j, j < hgt ki i → ixs ki i j < i
  | 0, _, j, h => by
    unfold hgt at h
    omega
  | i + 1, hi, j, h => by
    show va_up (ixs ki i) (hgt ki (i + 1) - 1) i j < i + 1
    by_cases hj : j = hgt ki (i + 1) - 1
    · rw [hj, up_s]
      omega
    · rw [up_n hj]
      have hk := hw.1 i (by omega)
      have : j < hgt ki i := by
        unfold hgt at h hj
        rcases hk with ⟨k1, k2⟩ | ⟨k1, k2, k3⟩ | ⟨k1, k2⟩ | ⟨k1, k2, k3, k4⟩
        · rw [if_pos (Or.inl k1)] at h hj
          omega
        · rw [if_pos (Or.inr ⟨k1, k2⟩)] at h hj
          omega
        · rw [if_neg (by rintro (q | q); · rw [k1] at q; exact absurd q (by decide)
                         · rw [k1] at q; exact absurd q.1 (by decide)), if_pos k1] at h hj
          omega
        · rw [if_neg (fun q => q.elim k1 k2), if_neg k3] at h hj
          omega
      have := ixs_lt hw i (by omega) j this
      omega
/-- element i of the row and knot fi + i -/
def cLw (ki nu kn pa ot : Nat → Int32) (fi i : Nat) : Prop :=
  (ki i = 2 ∧ kn (fi + i) = 0 ∧ pa (fi + i) = nu i) ∨
  (20 ≤ ki i ∧ ki i ≤ 26 ∧ kn (fi + i) = 1 ∧ pa (fi + i) = ki i - 20) ∨
  (ki i = 17 ∧ kn (fi + i) = 2 ∧ pa (fi + i) = nI (fi + ixs ki i (hgt ki i - 1))) ∨
  (isBin (ki i) ∧ kn (fi + i) = kmp (ki i) ∧ pa (fi + i) = nI (fi + ixs ki i (hgt ki i - 2)) ∧ ot (fi + i) = nI (fi + ixs ki i (hgt ki i - 1)))
def cLaw (ki nu kn pa ot : Nat → Int32) (fi len : Nat) : Prop := wfP ki len ∧ fi + len ≤ 64 ∧ ∀ i, i < len → cLw ki nu kn pa ot fi i
theorem bin_no {k : Int32} (h : isBin k) : ¬ k = 2 ∧ ¬ (20 ≤ k ∧ k ≤ 26) ∧ ¬ k = 17 := by
  rcases h with rfl | rfl | rfl | rfl | rfl | rfl | rfl | rfl | rfl | rfl | rfl | rfl <;> decide
theorem kmp_no {k : Int32} (h : isBin k) : ¬ kmp k = 0 ∧ ¬ kmp k = 1 ∧ ¬ kmp k = 2 := by
  rcases h with rfl | rfl | rfl | rfl | rfl | rfl | rfl | rfl | rfl | rfl | rfl | rfl <;> decide
theorem wf_pos {ki : Nat → Int32} {len : Nat} (hw : wfP ki len) : 0 < len := by
  rcases Nat.eq_zero_or_pos len with h | h
  · subst h
    exact absurd hw.2 (by unfold hgt; omega)
  · exact h
theorem valR_err {kn pa ot : Nat → Int32} {na V : Nat → Int64} {err : Int32} {k : Nat} (h : ¬ err = 0) : ¬ (valR kn pa ot na V err k).2 = 0 := by
  have n1 : ¬ (1 : Int32) = 0 := by decide
  unfold valR
  repeat' split
  all_goals first | exact h | (unfold bouF badB; rw [if_pos (Or.inl h)]; exact n1) | (unfold timF; rw [if_pos (Or.inl h)]; exact n1) | (unfold divF; rw [if_pos (Or.inl h)]; exact n1)
theorem itf_err {kn pa ot : Nat → Int32} {na : Nat → Int64} : ∀ (k i : Nat) (V : Nat → Int64) (err : Int32), ¬ err = 0 → ¬ (itf (valS kn pa ot na) k i (V, err)).2 = 0
  | 0, _, _, _, h => h
  | k + 1, i, V, err, h => by
    unfold itf
    exact itf_err k (i + 1) _ _ (valR_err h)
theorem valR_bin {kn pa ot : Nat → Int32} {na V : Nat → Int64} {err : Int32} {k : Nat} (h0 : ¬ kn k = 0) (h1 : ¬ kn k = 1) (h2 : ¬ kn k = 2) : valR kn pa ot na V err k = binR (kn k) err (V (pa k).toNatClampNeg) (V (ot k).toNatClampNeg) := by
  unfold valR binR
  rw [if_neg h0, if_neg h1, if_neg h2]
theorem law_sim {ki nu kn pa ot : Nat → Int32} {na : Nat → Int64} {fi len : Nat} (hc : cLaw ki nu kn pa ot fi len) (hn : ∀ j, j < 7 → inL (na j)) : ∀ (k i : Nat) (S V : Nat → Int64), i + k = len → (∀ j, j < hgt ki i → S j = V (fi + ixs ki i j) ∧ inL (S j)) →
    (wrun ki nu na k i (hgt ki i, S) = none ∧ ¬ (itf (valS kn pa ot na) k (fi + i) (V, 0)).2 = 0) ∨
    ∃ S', wrun ki nu na k i (hgt ki i, S) = some (hgt ki len, S') ∧ (itf (valS kn pa ot na) k (fi + i) (V, 0)).2 = 0 ∧ ∀ j, j < hgt ki len → S' j = (itf (valS kn pa ot na) k (fi + i) (V, 0)).1 (fi + ixs ki len j)
  | 0, i, S, V, hi, hs => by
    obtain rfl : i = len := by omega
    exact Or.inr ⟨S, rfl, rfl, fun j hj => (hs j hj).1⟩
  | k + 1, i, S, V, hi, hs => by
    obtain ⟨hw, h64, hcl⟩ := id hc
    have hil : i < len := by omega
    have hix := fun j hj => ixs_lt hw i (by omega) j hj
    -- one element: the value that it leaves, at the place that it leaves it
    have step : ∀ (v : Int64), inL v → hgt ki (i + 1) - 1 < hgt ki (i + 1) → (∀ j, j < hgt ki (i + 1) → j ≠ hgt ki (i + 1) - 1 → j < hgt ki i) →
        wstep ki nu na i (hgt ki i, S) = some (hgt ki (i + 1), vp_updL S (hgt ki (i + 1) - 1) v) → valR kn pa ot na V 0 (fi + i) = (v, 0) →
        (wrun ki nu na (k + 1) i (hgt ki i, S) = none ∧ ¬ (itf (valS kn pa ot na) (k + 1) (fi + i) (V, 0)).2 = 0) ∨
        ∃ S', wrun ki nu na (k + 1) i (hgt ki i, S) = some (hgt ki len, S') ∧ (itf (valS kn pa ot na) (k + 1) (fi + i) (V, 0)).2 = 0 ∧ ∀ j, j < hgt ki len → S' j = (itf (valS kn pa ot na) (k + 1) (fi + i) (V, 0)).1 (fi + ixs ki len j) := by
      intro v hv hpos hlow h1 h2
      have hv2 : valS kn pa ot na (fi + i) (V, 0) = (vp_updL V (fi + i) v, 0) := by
        unfold valS
        dsimp only
        rw [h2]
      unfold wrun itf
      rw [h1, hv2, Option.bind_some, show fi + i + 1 = fi + (i + 1) by omega]
      refine law_sim hc hn k (i + 1) _ _ (by omega) (fun j hj => ?_)
      show vp_updL S (hgt ki (i + 1) - 1) v j = vp_updL V (fi + i) v (fi + va_up (ixs ki i) (hgt ki (i + 1) - 1) i j) ∧ inL (vp_updL S (hgt ki (i + 1) - 1) v j)
      by_cases hjp : j = hgt ki (i + 1) - 1
      · rw [hjp, pk_uLs, up_s, pk_uLs]
        exact ⟨rfl, hv⟩
      · have hjl := hlow j hj hjp
        have := hix j hjl
        rw [pk_uLn hjp, up_n hjp, pk_uLn (by omega)]
        exact hs j hjl
    have hk := hw.1 i hil
    rcases hcl i hil with ⟨a1, a2, a3⟩ | ⟨a1, a2, a3, a4⟩ | ⟨a1, a2, a3⟩ | ⟨a1, a2, a3, a4⟩
    · have hh : hgt ki (i + 1) = hgt ki i + 1 := by rw [hgt, if_pos (Or.inl a1)]
      have hlt : hgt ki i < 64 := by
        rcases hk with ⟨k1, k2⟩ | ⟨k1, k2, k3⟩ | ⟨k1, k2⟩ | ⟨k1, k2, k3, k4⟩
        · exact k2
        · exact k3
        · rw [a1] at k1; exact absurd k1 (by decide)
        · exact absurd a1 k1
      refine step (nu i).toInt64 (in_i32 _) (by omega) (by omega) ?_ ?_
      · unfold wstep
        dsimp only
        rw [if_pos ⟨a1, hlt⟩, hh, Nat.add_sub_cancel]
      · unfold valR
        rw [if_pos a2, a3]
    · have n2 : ¬ ki i = 2 := fun q => by rw [q] at a1; exact absurd a1 (by decide)
      have hh : hgt ki (i + 1) = hgt ki i + 1 := by rw [hgt, if_pos (Or.inr ⟨a1, a2⟩)]
      have hlt : hgt ki i < 64 := by
        rcases hk with ⟨k1, k2⟩ | ⟨k1, k2, k3⟩ | ⟨k1, k2⟩ | ⟨k1, k2, k3, k4⟩
        · exact k2
        · exact k3
        · rw [k1] at a1; exact absurd a1 (by decide)
        · exact absurd ⟨a1, a2⟩ k2
      refine step (na (ki i - 20).toNatClampNeg) (hn _ (inb_7 (in26 a1 a2))) (by omega) (by omega) ?_ ?_
      · unfold wstep
        dsimp only
        rw [if_neg (fun q => n2 q.1), if_pos ⟨a1, a2, hlt⟩, hh, Nat.add_sub_cancel]
      · unfold valR
        rw [if_neg (by rw [a3]; decide), if_pos a3, a4]
    · have n2 : ¬ ki i = 2 := fun q => by rw [a1] at q; exact absurd q (by decide)
      have n3 : ¬ (20 ≤ ki i ∧ ki i ≤ 26) := fun q => by rw [a1] at q; exact absurd q.1 (by decide)
      have hh : hgt ki (i + 1) = hgt ki i := by rw [hgt, if_neg (fun q => q.elim n2 n3), if_pos a1]
      have hp : 0 < hgt ki i := by
        rcases hk with ⟨k1, k2⟩ | ⟨k1, k2, k3⟩ | ⟨k1, k2⟩ | ⟨k1, k2, k3, k4⟩
        · exact absurd k1 n2
        · exact absurd ⟨k1, k2⟩ n3
        · exact k2
        · exact absurd a1 k3
      have hs1 := hs (hgt ki i - 1) (by omega)
      have hx1 := hix (hgt ki i - 1) (by omega)
      refine step (if S (hgt ki i - 1) = 0 then 1 else 0) in_if.2 (by omega) (by omega) ?_ ?_
      · unfold wstep
        dsimp only
        rw [if_neg (fun q => n2 q.1), if_neg (fun q => n3 ⟨q.1, q.2.1⟩), if_pos ⟨a1, hp⟩, hh]
      · unfold valR
        rw [if_neg (by rw [a2]; decide), if_neg (by rw [a2]; decide), if_pos a2, a3, nI_clamp (by omega)]
        simp only [hs1.1]
    · obtain ⟨n2, n3, n4⟩ := bin_no a1
      obtain ⟨m0, m1, m2⟩ := kmp_no a1
      have hh : hgt ki (i + 1) = hgt ki i - 1 := by rw [hgt, if_neg (fun q => q.elim n2 n3), if_neg n4]
      have hp : 1 < hgt ki i := by
        rcases hk with ⟨k1, k2⟩ | ⟨k1, k2, k3⟩ | ⟨k1, k2⟩ | ⟨k1, k2, k3, k4⟩
        · exact absurd k1 n2
        · exact absurd ⟨k1, k2⟩ n3
        · exact absurd k1 n4
        · exact k4
      have hs1 := hs (hgt ki i - 1) (by omega)
      have hx1 := hix (hgt ki i - 1) (by omega)
      have hs2 := hs (hgt ki i - 2) (by omega)
      have hx2 := hix (hgt ki i - 2) (by omega)
      have hval : valR kn pa ot na V 0 (fi + i) = binR (kmp (ki i)) 0 (S (hgt ki i - 2)) (S (hgt ki i - 1)) := by
        rw [valR_bin (by rw [a2]; exact m0) (by rw [a2]; exact m1) (by rw [a2]; exact m2), a2, a3, a4, nI_clamp (by omega), nI_clamp (by omega), ← hs1.1, ← hs2.1]
      have hws : ∀ o, (if joiF (ki i) (S (hgt ki i - 2)) (S (hgt ki i - 1)) = ERR then none else some (hgt ki i - 1, vp_updL S (hgt ki i - 2) (joiF (ki i) (S (hgt ki i - 2)) (S (hgt ki i - 1))))) = o → wstep ki nu na i (hgt ki i, S) = o := by
        intro o ho
        unfold wstep
        dsimp only
        rw [if_neg (fun q => n2 q.1), if_neg (fun q => n3 ⟨q.1, q.2.1⟩), if_neg (fun q => n4 q.1), if_pos hp]
        exact ho
      rcases bin_rel a1 hs2.2 hs1.2 with ⟨q1, q2⟩ | ⟨q1, q2⟩
      · refine Or.inl ⟨?_, ?_⟩
        · unfold wrun
          rw [hws none (if_pos q1)]
          rfl
        · unfold itf
          refine itf_err k (fi + i + 1) _ _ ?_
          show ¬ (valR kn pa ot na V 0 (fi + i)).2 = 0
          rw [hval, q2]
          decide
      · refine step _ q1 (by omega) (by omega) (hws _ ?_) (by rw [hval]; exact q2)
        rw [if_neg (inL_ne q1), hh, show hgt ki i - 1 - 1 = hgt ki i - 2 by omega]

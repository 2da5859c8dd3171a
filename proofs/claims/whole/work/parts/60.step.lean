-- THE STEP, for both: by its parameters, on the clocks below n
def eqR (n : Nat) (f g : Nat → Int32) : Prop := ∀ c, c < n → f c = g c
def eqS (n : Nat) (s s' : S5) : Prop := eqR n s.1 s'.1 ∧ eqR n s.2.1 s'.2.1 ∧ eqR n s.2.2.1 s'.2.2.1 ∧ eqR n s.2.2.2.1 s'.2.2.2.1 ∧ s.2.2.2.2 = s'.2.2.2.2
theorem eqR_up {n : Nat} {f g : Nat → Int32} {i : Nat} {v : Int32} (h : eqR n f g) : eqR n (upd f i v) (upd g i v) := by
  intro c hc
  by_cases hi : c = i
  · rw [hi, pk_us, pk_us]
  · rw [pk_un hi, pk_un hi]
    exact h c hc
theorem eqR.rf {n : Nat} {f : Nat → Int32} : eqR n f f := fun _ _ => rfl
theorem eqR.sm {n : Nat} {f g : Nat → Int32} (h : eqR n f g) : eqR n g f := fun c hc => (h c hc).symm
theorem eqR.tr {n : Nat} {f g k : Nat → Int32} (h : eqR n f g) (h2 : eqR n g k) : eqR n f k := fun c hc => (h c hc).trans (h2 c hc)
theorem eqS.rf {n : Nat} {s : S5} : eqS n s s := ⟨eqR.rf, eqR.rf, eqR.rf, eqR.rf, rfl⟩
theorem eqS.sm {n : Nat} {s s' : S5} (h : eqS n s s') : eqS n s' s := ⟨h.1.sm, h.2.1.sm, h.2.2.1.sm, h.2.2.2.1.sm, h.2.2.2.2.symm⟩
theorem eqS.tr {n : Nat} {s s' s'' : S5} (h : eqS n s s') (h2 : eqS n s' s'') : eqS n s s'' := ⟨h.1.tr h2.1, h.2.1.tr h2.2.1, h.2.2.1.tr h2.2.2.1, h.2.2.2.1.tr h2.2.2.2.1, h.2.2.2.2.trans h2.2.2.2.2⟩
def eqLo (lose lose' : (Nat → Int64) → Int32) : Prop := ∀ x0 x1 x2 x3 x4 x5 x6 : Int32, lose (namF x0 x1 x2 x3 x4 x5 x6) = lose' (namF x0 x1 x2 x3 x4 x5 x6)
def eqGo (go go' : (Nat → Int64) → Int32 → Int32) : Prop := ∀ x0 x1 x2 x3 x4 x5 x6 y : Int32, go (namF x0 x1 x2 x3 x4 x5 x6) y = go' (namF x0 x1 x2 x3 x4 x5 x6) y
theorem eqLo.rf {lose : (Nat → Int64) → Int32} : eqLo lose lose := fun _ _ _ _ _ _ _ => rfl
theorem eqGo.rf {go : (Nat → Int64) → Int32 → Int32} : eqGo go go := fun _ _ _ _ _ _ _ _ => rfl
def movX (lose : (Nat → Int64) → Int32) (dr sp we pl pu : Nat → Int32) (t : Int32) (i : Nat) (s : S5) : Int32 := btwF 0 (s.2.1 i + dr i - lose (namF (sp i) (s.2.1 i) (pu i / 1000) (we i) (pl i) t (s.2.2.1 i))) 999
def movV (go : (Nat → Int64) → Int32 → Int32) (sp we pl pu : Nat → Int32) (t : Int32) (i : Nat) (s : S5) (x : Int32) : Int32 := go (namF (sp i) x (pu i / 1000) (we i) (pl i) t (s.2.2.1 i)) (sp i) + (if 1000 * we i = 0 then 0 else pu i / (1000 * we i))
def movT (x p : Int32) (i : Nat) (s : S5) : S5 := if x = 0 then (s.1, upd s.2.1 i 0, s.2.2.1, upd s.2.2.2.1 i 2, s.2.2.2.2) else if p < 1000 then (upd s.1 i p, upd s.2.1 i x, s.2.2.1, s.2.2.2.1, s.2.2.2.2) else (upd s.1 i (p - 1000), upd s.2.1 i x, upd s.2.2.1 i (s.2.2.1 i + 1), s.2.2.2.1, s.2.2.2.2 ||| 1 <<< (nI i &&& 31))
theorem movS_eq {lose : (Nat → Int64) → Int32} {go : (Nat → Int64) → Int32 → Int32} {dr sp we pl pu : Nat → Int32} {t : Int32} {i : Nat} {s : S5} : movS lose go dr sp we pl pu t i s = movT (movX lose dr sp we pl pu t i s) (s.1 i + btwF 0 (movV go sp we pl pu t i s (movX lose dr sp we pl pu t i s)) 499) i s := rfl
theorem movT_cong {n i : Nat} {x p : Int32} {s s' : S5} (hi : i < n) (hs : eqS n s s') : eqS n (movT x p i s) (movT x p i s') := by
  obtain ⟨a1, a2, a3, a4, a5⟩ := hs
  unfold movT
  by_cases z : x = 0
  · rw [if_pos z, if_pos z]
    exact ⟨a1, eqR_up a2, a3, eqR_up a4, a5⟩
  · rw [if_neg z, if_neg z]
    by_cases w : p < 1000
    · rw [if_pos w, if_pos w]
      exact ⟨eqR_up a1, eqR_up a2, a3, a4, a5⟩
    · rw [if_neg w, if_neg w, a5, a3 i hi]
      exact ⟨eqR_up a1, eqR_up a2, eqR_up a3, a4, rfl⟩
theorem movS_cong {n i : Nat} {lose lose' : (Nat → Int64) → Int32} {go go' : (Nat → Int64) → Int32 → Int32} {dr dr' sp sp' we we' pl pl' pu pu' : Nat → Int32} {t : Int32} {s s' : S5} (hi : i < n) (hl : eqLo lose lose') (hg : eqGo go go') (h1 : dr i = dr' i) (h2 : sp i = sp' i) (h3 : we i = we' i) (h4 : pl i = pl' i) (h5 : pu i = pu' i) (hs : eqS n s s') :
    eqS n (movS lose go dr sp we pl pu t i s) (movS lose' go' dr' sp' we' pl' pu' t i s') := by
  have b1 := hs.1 i hi
  have b2 := hs.2.1 i hi
  have b3 := hs.2.2.1 i hi
  have hx : movX lose dr sp we pl pu t i s = movX lose' dr' sp' we' pl' pu' t i s' := by
    unfold movX
    rw [h1, h2, h3, h4, h5, b2, b3, hl]
  have hv : ∀ x, movV go sp we pl pu t i s x = movV go' sp' we' pl' pu' t i s' x := by
    intro x
    unfold movV
    rw [h2, h3, h4, h5, b3, hg]
  rw [movS_eq, movS_eq, hx, hv, b1]
  exact movT_cong hi hs
theorem runS_cong {n : Nat} {lose lose' : (Nat → Int64) → Int32} {go go' : (Nat → Int64) → Int32 → Int32} {dr dr' sp sp' we we' pl pl' pu pu' : Nat → Int32} {t : Int32} {s s' : S5} (hl : eqLo lose lose') (hg : eqGo go go') (h1 : eqR n dr dr') (h2 : eqR n sp sp') (h3 : eqR n we we') (h4 : eqR n pl pl') (h5 : eqR n pu pu') (hs : eqS n s s') :
    eqS n (runS lose go dr sp we pl pu t n s) (runS lose' go' dr' sp' we' pl' pu' t n s') := by
  unfold runS
  have key : ∀ (k i : Nat) (s s' : S5), i + k = n → eqS n s s' → eqS n (itf (fun i s => if s.2.2.2.1 i = 1 then movS lose go dr sp we pl pu t i s else s) k i s) (itf (fun i s => if s.2.2.2.1 i = 1 then movS lose' go' dr' sp' we' pl' pu' t i s else s) k i s') := by
    intro k
    induction k with
    | zero => intro i s s' _ hs; exact hs
    | succ k ih =>
      intro i s s' hi hs
      unfold itf
      refine ih (i + 1) _ _ (by omega) ?_
      have e := hs.2.2.2.1 i (by omega)
      by_cases z : s.2.2.2.1 i = 1
      · rw [if_pos z, if_pos (by rw [← e]; exact z)]
        exact movS_cong (by omega) hl hg (h1 i (by omega)) (h2 i (by omega)) (h3 i (by omega)) (h4 i (by omega)) (h5 i (by omega)) hs
      · rw [if_neg z, if_neg (by rw [← e]; exact z)]
        exact hs
  exact key n 0 s s' (by omega) hs
/-- who waits and starts, runs -/
def actF (act : Nat → Bool) (sa : Nat → Int32) : Nat → Int32 := fun i => if sa i = 0 then (if act i = true then 1 else sa i) else sa i
def tugG (bo : Nat → Nat → Int32) (ph sa : Nat → Int32) (c k : Nat) : Int32 := if k = c then 0 else if sa k = 1 then bo c k * leaF (ph k - ph c) else 0
def pulG (bo : Nat → Nat → Int32) (ph sa : Nat → Int32) (n : Nat) : Nat → Int32 := fun c => if sa c = 1 then smI (tugG bo ph sa c) n else 0
def stepG (lose : (Nat → Int64) → Int32) (go : (Nat → Int64) → Int32 → Int32) (dr sp we pl : Nat → Int32) (bo : Nat → Nat → Int32) (act : Nat → Bool) (t : Int32) (n : Nat) (s : S5) : S5 :=
  runS lose go dr sp we pl (pulG bo s.1 (actF act s.2.2.2.1) n) t n (s.1, s.2.1, s.2.2.1, actF act s.2.2.2.1, 0)
theorem stepG_cong {n : Nat} {lose lose' : (Nat → Int64) → Int32} {go go' : (Nat → Int64) → Int32 → Int32} {dr dr' sp sp' we we' pl pl' : Nat → Int32} {bo bo' : Nat → Nat → Int32} {act act' : Nat → Bool} {t : Int32} {s s' : S5} (hl : eqLo lose lose') (hg : eqGo go go') (h1 : eqR n dr dr') (h2 : eqR n sp sp') (h3 : eqR n we we') (h4 : eqR n pl pl') (h5 : ∀ c k, c < n → k < n → c ≠ k → bo c k = bo' c k) (h6 : ∀ c, c < n → act c = act' c) (hs : eqR n s.1 s'.1 ∧ eqR n s.2.1 s'.2.1 ∧ eqR n s.2.2.1 s'.2.2.1 ∧ eqR n s.2.2.2.1 s'.2.2.2.1) :
    eqS n (stepG lose go dr sp we pl bo act t n s) (stepG lose' go' dr' sp' we' pl' bo' act' t n s') := by
  obtain ⟨a1, a2, a3, a4⟩ := hs
  have hA : eqR n (actF act s.2.2.2.1) (actF act' s'.2.2.2.1) := by
    intro c hc
    unfold actF
    rw [a4 c hc, h6 c hc]
  unfold stepG
  refine runS_cong hl hg h1 h2 h3 h4 ?_ ⟨a1, a2, a3, hA, rfl⟩
  intro c hc
  unfold pulG
  rw [hA c hc, smI_cong (g := tugG bo' s'.1 (actF act' s'.2.2.2.1) c) (fun k hk => ?_)]
  unfold tugG
  by_cases z : k = c
  · rw [if_pos z, if_pos z]
  · rw [if_neg z, if_neg z, hA k hk, a1 k hk, a1 c hc, h5 c k hc hk (fun q => z q.symm)]
/-- phases lie below 1000 -/
def phO (n : Nat) (ph : Nat → Int32) : Prop := ∀ c, c < n → ∃ p, p < 1000 ∧ ph c = nI p
theorem btw_499 (v : Int32) : ∃ q, q < 500 ∧ btwF 0 v 499 = nI q := by
  unfold btwF
  by_cases h : 0 ≤ v
  · rw [if_pos h]
    by_cases h2 : v ≤ 499
    · rw [if_pos h2]
      obtain ⟨j, hj, e⟩ := nI_of2 (M := 499) (n := 499) (by decide) (Int32.not_lt.mpr h) h2
      exact ⟨j, by omega, e⟩
    · rw [if_neg h2]
      exact ⟨499, by omega, rfl⟩
  · rw [if_neg h]
    exact ⟨0, by omega, rfl⟩
theorem movS_ph {n i : Nat} {lose : (Nat → Int64) → Int32} {go : (Nat → Int64) → Int32 → Int32} {dr sp we pl pu : Nat → Int32} {t : Int32} {s : S5} (hi : i < n) (h : phO n s.1) : phO n (movS lose go dr sp we pl pu t i s).1 := by
  rw [movS_eq]
  generalize movV go sp we pl pu t i s (movX lose dr sp we pl pu t i s) = v
  generalize movX lose dr sp we pl pu t i s = x
  obtain ⟨q, hq, e⟩ := btw_499 v
  obtain ⟨p, hp, e2⟩ := h i hi
  rw [e, e2, nI_add]
  unfold movT
  by_cases z : x = 0
  · rw [if_pos z]
    exact h
  · rw [if_neg z]
    by_cases w : nI (p + q) < 1000
    · rw [if_pos w]
      intro c hc
      dsimp only
      by_cases hci : c = i
      · rw [hci, pk_us]
        exact ⟨p + q, (nI_ltI (by omega) (by omega)).mp (show nI (p + q) < nI 1000 from w), rfl⟩
      · rw [pk_un hci]
        exact h c hc
    · rw [if_neg w]
      have hge : 1000 ≤ p + q := by
        rcases Nat.lt_or_ge (p + q) 1000 with u | u
        · exact absurd (show nI (p + q) < nI 1000 from (nI_ltI (by omega) (by omega)).mpr u) w
        · exact u
      intro c hc
      dsimp only
      by_cases hci : c = i
      · rw [hci, pk_us]
        exact ⟨p + q - 1000, by omega, by rw [show (1000 : Int32) = nI 1000 from rfl, pk_sub hge]⟩
      · rw [pk_un hci]
        exact h c hc
theorem stepG_ph {n : Nat} {lose : (Nat → Int64) → Int32} {go : (Nat → Int64) → Int32 → Int32} {dr sp we pl : Nat → Int32} {bo : Nat → Nat → Int32} {act : Nat → Bool} {t : Int32} {s : S5} (h : phO n s.1) : phO n (stepG lose go dr sp we pl bo act t n s).1 := by
  unfold stepG runS
  exact itf_inv (Q := fun _ (s : S5) => phO n s.1) (n := n) (fun i s hi q => by
    split
    · exact movS_ph hi q
    · exact q) n 0 _ (by omega) h

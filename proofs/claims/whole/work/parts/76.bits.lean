-- SETS OF CLOCKS AS BITS; groups: the pure part
def b6 (a b c d e f : Bool) : Int32 := nI ((if a = true then 1 else 0) + (if b = true then 2 else 0) + (if c = true then 4 else 0) + (if d = true then 8 else 0) + (if e = true then 16 else 0) + (if f = true then 32 else 0))
def bI (p : Nat → Bool) : Int32 := b6 (p 0) (p 1) (p 2) (p 3) (p 4) (p 5)
theorem bI_ext {p q : Nat → Bool} (h : ∀ k, k < 6 → p k = q k) : bI p = bI q := by
  unfold bI
  rw [h 0 (by omega), h 1 (by omega), h 2 (by omega), h 3 (by omega), h 4 (by omega), h 5 (by omega)]
theorem six {i : Nat} (h : i < 6) : i = 0 ∨ i = 1 ∨ i = 2 ∨ i = 3 ∨ i = 4 ∨ i = 5 := by omega
theorem b6_is : ∀ a b c d e f : Bool, bt (b6 a b c d e f) 0 = a ∧ bt (b6 a b c d e f) 1 = b ∧ bt (b6 a b c d e f) 2 = c ∧ bt (b6 a b c d e f) 3 = d ∧ bt (b6 a b c d e f) 4 = e ∧ bt (b6 a b c d e f) 5 = f := by decide +kernel
theorem bI_is {p : Nat → Bool} {i : Nat} (h : i < 6) : bt (bI p) i = p i := by
  have := b6_is (p 0) (p 1) (p 2) (p 3) (p 4) (p 5)
  unfold bI
  rcases six h with rfl | rfl | rfl | rfl | rfl | rfl
  · exact this.1
  · exact this.2.1
  · exact this.2.2.1
  · exact this.2.2.2.1
  · exact this.2.2.2.2.1
  · exact this.2.2.2.2.2
theorem b6_or : ∀ a b c d e f : Bool, b6 a b c d e f ||| (1 : Int32) <<< (nI 0 &&& 31) = b6 true b c d e f ∧ b6 a b c d e f ||| (1 : Int32) <<< (nI 1 &&& 31) = b6 a true c d e f ∧ b6 a b c d e f ||| (1 : Int32) <<< (nI 2 &&& 31) = b6 a b true d e f ∧ b6 a b c d e f ||| (1 : Int32) <<< (nI 3 &&& 31) = b6 a b c true e f ∧ b6 a b c d e f ||| (1 : Int32) <<< (nI 4 &&& 31) = b6 a b c d true f ∧ b6 a b c d e f ||| (1 : Int32) <<< (nI 5 &&& 31) = b6 a b c d e true := by decide +kernel
theorem bI_or {p : Nat → Bool} {i : Nat} (h : i < 6) : bI p ||| (1 : Int32) <<< (nI i &&& 31) = bI (fun k => p k || decide (k = i)) := by
  have := b6_or (p 0) (p 1) (p 2) (p 3) (p 4) (p 5)
  unfold bI
  rcases six h with rfl | rfl | rfl | rfl | rfl | rfl
  · rw [this.1]; simp
  · rw [this.2.1]; simp
  · rw [this.2.2.1]; simp
  · rw [this.2.2.2.1]; simp
  · rw [this.2.2.2.2.1]; simp
  · rw [this.2.2.2.2.2]; simp
theorem b6_an : ∀ a b c d e f : Bool, b6 a b c d e f &&& (1 : Int32) <<< (nI 0 &&& 31) = b6 a false false false false false ∧ b6 a b c d e f &&& (1 : Int32) <<< (nI 1 &&& 31) = b6 false b false false false false ∧ b6 a b c d e f &&& (1 : Int32) <<< (nI 2 &&& 31) = b6 false false c false false false ∧ b6 a b c d e f &&& (1 : Int32) <<< (nI 3 &&& 31) = b6 false false false d false false ∧ b6 a b c d e f &&& (1 : Int32) <<< (nI 4 &&& 31) = b6 false false false false e false ∧ b6 a b c d e f &&& (1 : Int32) <<< (nI 5 &&& 31) = b6 false false false false false f := by decide +kernel
theorem bI_an {p : Nat → Bool} {i : Nat} (h : i < 6) : bI p &&& (1 : Int32) <<< (nI i &&& 31) = bI (fun k => p k && decide (k = i)) := by
  have := b6_an (p 0) (p 1) (p 2) (p 3) (p 4) (p 5)
  unfold bI
  rcases six h with rfl | rfl | rfl | rfl | rfl | rfl
  · rw [this.1]; simp
  · rw [this.2.1]; simp
  · rw [this.2.2.1]; simp
  · rw [this.2.2.2.1]; simp
  · rw [this.2.2.2.2.1]; simp
  · rw [this.2.2.2.2.2]; simp
/-- what a word of six bits is by its bits -/
theorem bI_of {k : Nat} (h : k < 64) : nI k = bI (fun i => bt (nI k) i) := by
  have : ∀ k, k < 64 → nI k = b6 (bt (nI k) 0) (bt (nI k) 1) (bt (nI k) 2) (bt (nI k) 3) (bt (nI k) 4) (bt (nI k) 5) := by decide +kernel
  exact this k h
theorem b6_n (a b c d e f : Bool) : ∃ k, k < 64 ∧ b6 a b c d e f = nI k := ⟨_, by cases a <;> cases b <;> cases c <;> cases d <;> cases e <;> cases f <;> decide, rfl⟩
theorem b6_oo : ∀ a b c d e f a' b' c' d' e' f' : Bool, b6 a b c d e f ||| b6 a' b' c' d' e' f' = b6 (a || a') (b || b') (c || c') (d || d') (e || e') (f || f') := by decide +kernel
theorem bI_oo {p q : Nat → Bool} : bI p ||| bI q = bI (fun k => p k || q k) := b6_oo _ _ _ _ _ _ _ _ _ _ _ _
theorem b6_df : ∀ a b c d e f a' b' c' d' e' f' : Bool, b6 a b c d e f &&& (b6 a' b' c' d' e' f' ^^^ (-1)) = b6 (a && !a') (b && !b') (c && !c') (d && !d') (e && !e') (f && !f') := by decide +kernel
theorem bI_df {p q : Nat → Bool} : bI p &&& (bI q ^^^ (-1)) = bI (fun k => p k && !q k) := b6_df _ _ _ _ _ _ _ _ _ _ _ _
theorem b6_lo : ∀ a b c d e f : Bool, decide (b6 a b c d e f &&& ((1 : Int32) <<< (nI 0 &&& 31) - 1) = 0) = true ∧ decide (b6 a b c d e f &&& ((1 : Int32) <<< (nI 1 &&& 31) - 1) = 0) = !a ∧ decide (b6 a b c d e f &&& ((1 : Int32) <<< (nI 2 &&& 31) - 1) = 0) = (!a && !b) ∧ decide (b6 a b c d e f &&& ((1 : Int32) <<< (nI 3 &&& 31) - 1) = 0) = (!a && (!b && !c)) ∧ decide (b6 a b c d e f &&& ((1 : Int32) <<< (nI 4 &&& 31) - 1) = 0) = (!a && (!b && (!c && !d))) ∧ decide (b6 a b c d e f &&& ((1 : Int32) <<< (nI 5 &&& 31) - 1) = 0) = (!a && (!b && (!c && (!d && !e)))) := by decide +kernel
theorem bI_lo {p : Nat → Bool} {i : Nat} (h : i < 6) : bI p &&& ((1 : Int32) <<< (nI i &&& 31) - 1) = 0 ↔ ∀ k, k < i → p k = false := by
  have := b6_lo (p 0) (p 1) (p 2) (p 3) (p 4) (p 5)
  rw [← decide_eq_true_iff (p := bI p &&& ((1 : Int32) <<< (nI i &&& 31) - 1) = 0)]
  unfold bI
  rcases six h with rfl | rfl | rfl | rfl | rfl | rfl
  · rw [this.1]; exact ⟨fun _ k hk => absurd hk (by omega), fun _ => rfl⟩
  · rw [this.2.1]
    simp only [Bool.not_eq_true']
    exact ⟨fun q k hk => by obtain rfl : k = 0 := by omega
                            exact q, fun q => q 0 (by omega)⟩
  · rw [this.2.2.1]
    simp only [Bool.and_eq_true, Bool.not_eq_true']
    exact ⟨fun q k hk => by rcases (show k = 0 ∨ k = 1 by omega) with rfl | rfl
                            · exact q.1
                            · exact q.2, fun q => ⟨q 0 (by omega), q 1 (by omega)⟩⟩
  · rw [this.2.2.2.1]
    simp only [Bool.and_eq_true, Bool.not_eq_true']
    exact ⟨fun q k hk => by rcases (show k = 0 ∨ k = 1 ∨ k = 2 by omega) with rfl | rfl | rfl
                            · exact q.1
                            · exact q.2.1
                            · exact q.2.2, fun q => ⟨q 0 (by omega), q 1 (by omega), q 2 (by omega)⟩⟩
  · rw [this.2.2.2.2.1]
    simp only [Bool.and_eq_true, Bool.not_eq_true']
    exact ⟨fun q k hk => by rcases (show k = 0 ∨ k = 1 ∨ k = 2 ∨ k = 3 by omega) with rfl | rfl | rfl | rfl
                            · exact q.1
                            · exact q.2.1
                            · exact q.2.2.1
                            · exact q.2.2.2, fun q => ⟨q 0 (by omega), q 1 (by omega), q 2 (by omega), q 3 (by omega)⟩⟩
  · rw [this.2.2.2.2.2]
    simp only [Bool.and_eq_true, Bool.not_eq_true']
    exact ⟨fun q k hk => by rcases (show k = 0 ∨ k = 1 ∨ k = 2 ∨ k = 3 ∨ k = 4 by omega) with rfl | rfl | rfl | rfl | rfl
                            · exact q.1
                            · exact q.2.1
                            · exact q.2.2.1
                            · exact q.2.2.2.1
                            · exact q.2.2.2.2, fun q => ⟨q 0 (by omega), q 1 (by omega), q 2 (by omega), q 3 (by omega), q 4 (by omega)⟩⟩
theorem bI_0 : bI (fun _ => false) = 0 := by decide
theorem bI_ne {p : Nat → Bool} {k : Nat} (h : k < 6) (hp : p k = true) : ¬ bI p = 0 := by
  intro q
  have h1 := bI_is (p := p) h
  rw [q, hp] at h1
  rcases six h with rfl | rfl | rfl | rfl | rfl | rfl <;> exact absurd h1 (by decide)
theorem b6_bc : ∀ a b c d e f : Bool, bcE (b6 a b c d e f) = 0 + (if a = true then 1 else 0) + (if b = true then 1 else 0) + (if c = true then 1 else 0) + (if d = true then 1 else 0) + (if e = true then 1 else 0) + (if f = true then 1 else 0) := by decide +kernel
theorem bI_bc {p : Nat → Bool} : bcE (bI p) = smI (fun k => if p k = true then 1 else 0) 6 := b6_bc _ _ _ _ _ _
-- a round brings all that are near to one that is in
section GRP
variable {n : Nat} {run : Nat → Bool} {nr : Nat → Nat → Bool}
def oneF (n : Nat) (run : Nat → Bool) (nr : Nat → Nat → Bool) (a : Nat) (p : Nat → Bool) : Nat → Bool := fun k => p k || (p a && (decide (k < n) && (run k && nr a k)))
def rnd (n : Nat) (run : Nat → Bool) (nr : Nat → Nat → Bool) (p : Nat → Bool) : Nat → Bool := itf (oneF n run nr) n 0 p
def itr (n : Nat) (run : Nat → Bool) (nr : Nat → Nat → Bool) : Nat → (Nat → Bool) → Nat → Bool
  | 0, p => p
  | j + 1, p => rnd n run nr (itr n run nr j p)
theorem itr_s : ∀ j p, itr n run nr j (rnd n run nr p) = rnd n run nr (itr n run nr j p)
  | 0, p => rfl
  | j + 1, p => by
    show rnd n run nr (itr n run nr j (rnd n run nr p)) = _
    rw [itr_s j p]
    rfl
theorem itr_itf : ∀ j i p, itf (fun _ p => rnd n run nr p) j i p = itr n run nr j p
  | 0, _, _ => rfl
  | j + 1, i, p => by
    unfold itf
    rw [itr_itf j (i + 1) (rnd n run nr p), itr_s]
    rfl
theorem one_mono {a k : Nat} {p : Nat → Bool} (h : p k = true) : oneF n run nr a p k = true := by simp [oneF, h]
theorem itf_mono : ∀ {j i k : Nat} {p : Nat → Bool}, p k = true → itf (oneF n run nr) j i p k = true
  | 0, _, _, _, h => h
  | j + 1, i, k, p, h => by
    unfold itf
    exact itf_mono (one_mono h)
theorem rnd_mono {k : Nat} {p : Nat → Bool} (h : p k = true) : rnd n run nr p k = true := itf_mono h
def clo (n : Nat) (run : Nat → Bool) (nr : Nat → Nat → Bool) (p : Nat → Bool) : Prop := ∀ a k, a < n → k < n → p a = true → run k = true → nr a k = true → p k = true
theorem one_clo {a : Nat} {p : Nat → Bool} (h : clo n run nr p) (ha : a < n) : oneF n run nr a p = p := by
  funext k
  unfold oneF
  cases hk : p k with
  | true => simp
  | false =>
    simp only [Bool.false_or]
    cases hq : (p a && (decide (k < n) && (run k && nr a k))) with
    | false => rfl
    | true =>
      simp only [Bool.and_eq_true, decide_eq_true_eq] at hq
      rw [h a k ha hq.2.1 hq.1 hq.2.2.1 hq.2.2.2] at hk
      exact hk
theorem rnd_clo {p : Nat → Bool} (h : clo n run nr p) : rnd n run nr p = p := by
  have : ∀ j i, i + j = n → itf (oneF n run nr) j i p = p := by
    intro j
    induction j with
    | zero => intro i _; rfl
    | succ j ih =>
      intro i hi
      unfold itf
      rw [one_clo h (by omega)]
      exact ih (i + 1) (by omega)
  exact this n 0 (by omega)
theorem rnd_new {a k : Nat} {p : Nat → Bool} (ha : a < n) (hk : k < n) (pa : p a = true) (hr : run k = true) (hn : nr a k = true) : rnd n run nr p k = true := by
  have : ∀ j i (p : Nat → Bool), i + j = n → i ≤ a → p a = true → itf (oneF n run nr) j i p k = true := by
    intro j
    induction j with
    | zero => intro i p h1 h2 _; omega
    | succ j ih =>
      intro i p h1 h2 hp
      unfold itf
      by_cases hi : i = a
      · subst hi
        refine itf_mono ?_
        simp [oneF, hp, hk, hr, hn]
      · exact ih (i + 1) _ (by omega) (by omega) (one_mono hp)
  exact this n 0 p (by omega) (by omega) pa
def cnt (p : Nat → Bool) : Nat → Nat
  | 0 => 0
  | n + 1 => cnt p n + (if p n = true then 1 else 0)
theorem cnt_le {p : Nat → Bool} : ∀ n, cnt p n ≤ n
  | 0 => Nat.le_refl 0
  | n + 1 => by
    have := cnt_le (p := p) n
    unfold cnt
    split <;> omega
theorem cnt_mono {p q : Nat → Bool} (h : ∀ k, p k = true → q k = true) : ∀ n, cnt p n ≤ cnt q n
  | 0 => Nat.le_refl 0
  | n + 1 => by
    have := cnt_mono h n
    unfold cnt
    by_cases z : p n = true
    · rw [if_pos z, if_pos (h n z)]
      omega
    · rw [if_neg z]
      split <;> omega
theorem cnt_lt {p q : Nat → Bool} (h : ∀ k, p k = true → q k = true) {j : Nat} (hp : ¬ p j = true) (hq : q j = true) : ∀ n, j < n → cnt p n < cnt q n
  | 0, hj => absurd hj (by omega)
  | n + 1, hj => by
    unfold cnt
    by_cases e : j = n
    · subst e
      have := cnt_mono h j
      rw [if_neg hp, if_pos hq]
      omega
    · have := cnt_lt h hp hq n (by omega)
      by_cases z : p n = true
      · rw [if_pos z, if_pos (h n z)]
        omega
      · rw [if_neg z]
        split <;> omega
theorem cnt_pos {p : Nat → Bool} {j : Nat} (hp : p j = true) : ∀ n, j < n → 1 ≤ cnt p n
  | 0, hj => absurd hj (by omega)
  | n + 1, hj => by
    unfold cnt
    by_cases e : j = n
    · subst e
      rw [if_pos hp]
      omega
    · have := cnt_pos hp n (by omega)
      omega
theorem itr_or {p : Nat → Bool} (h : 1 ≤ cnt p n) : ∀ j, clo n run nr (itr n run nr j p) ∨ j + 1 ≤ cnt (itr n run nr j p) n
  | 0 => Or.inr h
  | j + 1 => by
    show clo n run nr (rnd n run nr (itr n run nr j p)) ∨ _
    rcases Classical.em (clo n run nr (itr n run nr j p)) with c | c
    · rw [rnd_clo c]
      exact Or.inl c
    · have h2 := (itr_or h j).resolve_left c
      unfold clo at c
      have : ∃ a k, a < n ∧ k < n ∧ itr n run nr j p a = true ∧ run k = true ∧ nr a k = true ∧ ¬ itr n run nr j p k = true := by
        refine Classical.byContradiction (fun q => c (fun a k h1 h2 h3 h4 h5 => Classical.byContradiction (fun h6 => q ⟨a, k, h1, h2, h3, h4, h5, h6⟩)))
      obtain ⟨a, k, h3, h4, h5, h6, h7, h8⟩ := this
      have := cnt_lt (p := itr n run nr j p) (q := rnd n run nr (itr n run nr j p)) (fun k h => rnd_mono h) h8 (rnd_new h3 h4 h5 h6 h7) n h4
      refine Or.inr ?_
      show j + 1 + 1 ≤ cnt (rnd n run nr (itr n run nr j p)) n
      omega
theorem itr_clo {p : Nat → Bool} {c : Nat} (hc : c < n) (hp : p c = true) : clo n run nr (itr n run nr n p) := by
  rcases itr_or (run := run) (nr := nr) (cnt_pos hp n hc) n with h | h
  · exact h
  · have := cnt_le (p := itr n run nr n p) n
    omega
theorem itr_add {p : Nat → Bool} (h : clo n run nr (itr n run nr n p)) : ∀ e, itr n run nr (n + e) p = itr n run nr n p
  | 0 => rfl
  | e + 1 => by
    show rnd n run nr (itr n run nr (n + e) p) = _
    rw [itr_add h e, rnd_clo h]
theorem itr_6 {p : Nat → Bool} {c : Nat} (hn : n ≤ 6) (hc : c < n) (hp : p c = true) : itr n run nr 6 p = itr n run nr n p := by
  have := itr_add (itr_clo (run := run) (nr := nr) hc hp) (6 - n)
  rw [show n + (6 - n) = 6 by omega] at this
  exact this
theorem itr_mono {p : Nat → Bool} {k : Nat} (h : p k = true) : ∀ j, itr n run nr j p k = true
  | 0 => h
  | j + 1 => rnd_mono (itr_mono h j)
theorem rnd_min {p q : Nat → Bool} (hq : clo n run nr q) (h : ∀ k, p k = true → q k = true) : ∀ k, rnd n run nr p k = true → q k = true := by
  have : ∀ j i (p : Nat → Bool), i + j = n → (∀ k, p k = true → q k = true) → ∀ k, itf (oneF n run nr) j i p k = true → q k = true := by
    intro j
    induction j with
    | zero => intro i p _ hp k hk; exact hp k hk
    | succ j ih =>
      intro i p hi hp k hk
      unfold itf at hk
      refine ih (i + 1) (oneF n run nr i p) (by omega) (fun k hk => ?_) k hk
      unfold oneF at hk
      rcases (Bool.or_eq_true _ _).mp hk with h1 | h1
      · exact hp k h1
      · simp only [Bool.and_eq_true, decide_eq_true_eq] at h1
        exact hq i k (by omega) h1.2.1 (hp i h1.1) h1.2.2.1 h1.2.2.2
  exact this n 0 p (by omega) h
theorem itr_min {p q : Nat → Bool} (hq : clo n run nr q) (h : ∀ k, p k = true → q k = true) : ∀ j k, itr n run nr j p k = true → q k = true
  | 0 => h
  | j + 1 => rnd_min hq (itr_min hq h j)
/-- the group of c -/
def grp (n : Nat) (run : Nat → Bool) (nr : Nat → Nat → Bool) (c : Nat) : Nat → Bool := itr n run nr n (fun k => decide (k = c))
theorem grp_self {c : Nat} : grp n run nr c c = true := itr_mono (by simp) n
theorem grp_clo {c : Nat} (hc : c < n) : clo n run nr (grp n run nr c) := itr_clo hc (by simp)
theorem grp_min {c : Nat} {q : Nat → Bool} (hq : clo n run nr q) (h : q c = true) : ∀ k, grp n run nr c k = true → q k = true := itr_min hq (fun k hk => by rw [of_decide_eq_true hk]; exact h) n
theorem grp_in {c k : Nat} (hc : c < n) (hr : run c = true) (h : grp n run nr c k = true) : k < n ∧ run k = true := by
  have := grp_min (n := n) (run := run) (nr := nr) (c := c) (q := fun k => decide (k < n) && run k) (fun a k _ hk _ hr _ => by simp [hk, hr]) (by simp [hc, hr]) k h
  simpa using this
theorem grp_tr {c a k : Nat} (hc : c < n) (h1 : grp n run nr c a = true) (h2 : grp n run nr a k = true) : grp n run nr c k = true := grp_min (grp_clo hc) h1 k h2
theorem grp_sy {c a : Nat} (hs : ∀ a b, nr a b = nr b a) (hc : c < n) (hr : run c = true) (h : grp n run nr c a = true) : grp n run nr a c = true := by
  have ha := grp_in hc hr h
  cases hq : grp n run nr a c with
  | true => rfl
  | false =>
    exfalso
    have hcl := grp_clo (run := run) (nr := nr) (c := a) ha.1
    have := grp_min (n := n) (run := run) (nr := nr) (c := c) (q := fun k => run k && !grp n run nr a k) (fun x k hx hk h1 h2 h3 => by
      simp only [Bool.and_eq_true, Bool.not_eq_true'] at h1 ⊢
      refine ⟨h2, ?_⟩
      cases hg : grp n run nr a k with
      | false => rfl
      | true =>
        have := hcl k x hk hx hg h1.1 (by rw [hs]; exact h3)
        rw [this] at h1
        exact absurd h1.2 (by simp)) (by simp [hr, hq]) a h
    simp only [Bool.and_eq_true, Bool.not_eq_true'] at this
    rw [grp_self] at this
    exact absurd this.2 (by simp)
/-- those that are left at turn i, and how many groups were found -/
def lefS (n : Nat) (run : Nat → Bool) (nr : Nat → Nat → Bool) (i : Nat) (s : (Nat → Bool) × Int32) : (Nat → Bool) × Int32 := if s.1 i = true then (fun k => s.1 k && !grp n run nr i k, s.2 + 1) else s
theorem lef_fix {i : Nat} (hs : ∀ a b, nr a b = nr b a) (hn : i ≤ 6) : ∀ {s : (Nat → Bool) × Int32}, (∀ k, s.1 k = true ↔ k < n ∧ run k = true ∧ ∀ c, c < i → c < n → run c = true → ¬ grp n run nr c k = true) → ∀ k, (lefS n run nr i s).1 k = true ↔ k < n ∧ run k = true ∧ ∀ c, c < i + 1 → c < n → run c = true → ¬ grp n run nr c k = true := by
  intro s h k
  unfold lefS
  by_cases z : s.1 i = true
  · rw [if_pos z]
    have hz := (h i).mp z
    simp only [Bool.and_eq_true, Bool.not_eq_true', h k]
    constructor
    · rintro ⟨⟨h1, h2, h3⟩, h4⟩
      refine ⟨h1, h2, fun c hc hcn hcr => ?_⟩
      by_cases e : c = i
      · subst e
        rw [h4]
        simp
      · exact h3 c (by omega) hcn hcr
    · rintro ⟨h1, h2, h3⟩
      refine ⟨⟨h1, h2, fun c hc => h3 c (by omega)⟩, ?_⟩
      have := h3 i (by omega) hz.1 hz.2.1
      simpa using this
  · rw [if_neg z, h k]
    constructor
    · rintro ⟨h1, h2, h3⟩
      refine ⟨h1, h2, fun c hc hcn hcr hg => ?_⟩
      by_cases e : c = i
      · subst e
        have : ∃ c', c' < c ∧ c' < n ∧ run c' = true ∧ grp n run nr c' c = true := by
          refine Classical.byContradiction (fun q => z ((h c).mpr ⟨hcn, hcr, fun c' a b d e => q ⟨c', a, b, d, e⟩⟩))
        obtain ⟨c', q1, q2, q3, q4⟩ := this
        exact h3 c' q1 q2 q3 (grp_tr q2 q4 hg)
      · exact h3 c (by omega) hcn hcr hg
    · rintro ⟨h1, h2, h3⟩
      exact ⟨h1, h2, fun c hc => h3 c (by omega)⟩
/-- how many are the first of their group -/
def firS (n : Nat) (run : Nat → Bool) (nr : Nat → Nat → Bool) (i : Nat) (s : Int32) : Int32 := if run i = true ∧ ∀ k, k < i → grp n run nr i k = false then s + 1 else s
theorem lef_fir (hs : ∀ a b, nr a b = nr b a) (hn : n ≤ 6) : (itf (lefS n run nr) 6 0 (fun k => decide (k < n) && run k, 0)).2 = itf (firS n run nr) n 0 0 := by
  have h := itf_inv (f := fun i (s : ((Nat → Bool) × Int32) × Int32) => (lefS n run nr i s.1, if i < n then firS n run nr i s.2 else s.2)) (n := 6) (Q := fun i s => (∀ k, s.1.1 k = true ↔ k < n ∧ run k = true ∧ ∀ c, c < i → c < n → run c = true → ¬ grp n run nr c k = true) ∧ s.1.2 = s.2) (fun i s hi hq => by
    refine ⟨lef_fix hs (by omega) hq.1, ?_⟩
    have h1 := hq.1 i
    unfold lefS firS
    dsimp only
    by_cases hin : i < n
    · rw [if_pos hin]
      by_cases z : s.1.1 i = true
      · have hz := h1.mp z
        rw [if_pos z, if_pos ⟨hz.2.1, fun k hk => by
          cases hg : grp n run nr i k with
          | false => rfl
          | true =>
            have hk2 := grp_in hin hz.2.1 hg
            exact absurd (grp_sy hs hin hz.2.1 hg) (hz.2.2 k hk hk2.1 hk2.2)⟩, hq.2]
      · rw [if_neg z, if_neg (fun q => z (h1.mpr ⟨hin, q.1, fun c hc hcn hcr hg => by
          have := grp_sy hs hcn hcr hg
          rw [q.2 c hc] at this
          exact absurd this (by simp)⟩)), hq.2]
    · rw [if_neg hin, if_neg (fun q => hin (h1.mp q).1), hq.2]) 6 0 ((fun k => decide (k < n) && run k, 0), 0) (by omega) ⟨fun k => by simp, rfl⟩
  rw [itf2 (f := lefS n run nr) (g := fun i s => if i < n then firS n run nr i s else s)] at h
  have h2 := h.2
  dsimp only at h2
  rw [h2]
  have h3 : ∀ (j i : Nat) (s : Int32), i + j = 6 → itf (fun i s => if i < n then firS n run nr i s else s) j i s = itf (firS n run nr) (n - i) i s := by
    intro j
    induction j with
    | zero =>
      intro i s hi
      rw [show n - i = 0 by omega]
      rfl
    | succ j ih =>
      intro i s hi
      unfold itf
      by_cases hin : i < n
      · rw [if_pos hin, ih (i + 1) _ (by omega)]
        rw [show n - i = (n - (i + 1)) + 1 by omega]
      · rw [if_neg hin, ih (i + 1) _ (by omega), show n - (i + 1) = 0 by omega, show n - i = 0 by omega]
        rfl
  exact h3 6 0 0 (by omega)
end GRP
theorem dis_sy {x y : Int32} : disF x y = disF y x := by
  unfold disF
  by_cases h : y ≤ x
  · rw [if_pos h]
    by_cases h2 : x ≤ y
    · rw [if_pos h2, Int32.le_antisymm h h2]
    · rw [if_neg h2]
  · rw [if_neg h, if_pos (Int32.le_of_lt (Int32.not_le.mp h))]
theorem apa_sy {x y : Int32} : apaF x y = apaF y x := by
  unfold apaF
  rw [dis_sy]

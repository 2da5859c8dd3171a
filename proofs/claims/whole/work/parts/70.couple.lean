-- COUPLING, 1: the parameters of a step, class and model
theorem mesF_at {n : Nat} {B : Nat → Nat → Int32} {r : Nat → Int32} (hn : n ≤ 6) : ∀ i j, i < n → j < n → mesF n B r (i * 6 + j) = B i j := by
  have hin : ∀ (i : Nat) (r : Nat → Int32), i < n → ∀ a b, b < 6 → itf (fun j r => upd r (i * 6 + j) (B i j)) n 0 r (a * 6 + b) = if a = i ∧ b < n then B i b else r (a * 6 + b) := by
    intro i r hi
    have h := itf_inv (f := fun j (r : Nat → Int32) => upd r (i * 6 + j) (B i j)) (n := n) (Q := fun j s => ∀ a b, b < 6 → s (a * 6 + b) = if a = i ∧ b < j then B i b else r (a * 6 + b)) (by
      intro j s hj hq a b hb
      by_cases h1 : a * 6 + b = i * 6 + j
      · obtain ⟨rfl, rfl⟩ : a = i ∧ b = j := by omega
        rw [pk_us, if_pos ⟨rfl, by omega⟩]
      · rw [pk_un h1, hq a b hb]
        by_cases h2 : a = i ∧ b < j
        · rw [if_pos h2, if_pos ⟨h2.1, by omega⟩]
        · rw [if_neg h2, if_neg (fun q => h2 ⟨q.1, by
            rcases Nat.lt_or_ge b j with w | w
            · exact w
            · exfalso
              have : b = j := by omega
              exact h1 (by rw [q.1, this])⟩)]) n 0 r (by omega) (fun a b _ => by rw [if_neg (by omega)])
    exact h
  have h := itf_inv (f := fun i (r : Nat → Int32) => itf (fun j r => upd r (i * 6 + j) (B i j)) n 0 r) (n := n) (Q := fun i s => ∀ a b, a < i → b < n → s (a * 6 + b) = B a b) (by
    intro i s hi hq a b ha hb
    rw [hin i s hi a b (by omega)]
    by_cases h1 : a = i
    · rw [if_pos ⟨h1, hb⟩, h1]
    · rw [if_neg (fun q => h1 q.1)]
      exact hq a b (by omega) hb) n 0 r (by omega) (fun a b h _ => absurd h (by omega))
  exact fun i j hi hj => h i j hi hj
theorem dis_siz {p q : Nat} (hp : p < 2 ^ 30) (hq : q < 2 ^ 30) : disF (nI p) (nI q) = sizF (nI p - nI q) := by
  unfold disF sizF
  rcases Nat.le_total q p with h | h
  · rw [if_pos (nI_le h (by omega)), pk_sub h, if_pos (nI_pos' (by omega))]
  · by_cases e : p = q
    · subst e
      rw [if_pos (nI_le h (by omega)), pk_sub h, if_pos (nI_pos' (by omega))]
    · rw [if_neg (nI_ge (by omega) (by omega)), if_neg (fun w => ?_), Int32.neg_sub]
      exact absurd (pk_sneg (a := p) (b := q) hq (by omega)) (Int32.not_lt.mpr w)
theorem cut0 {x : Int32} : (if 0 ≤ x then x else 0) = if x ≤ 0 then 0 else x := by
  by_cases h : 0 ≤ x
  · rw [if_pos h]
    by_cases h2 : x ≤ 0
    · rw [if_pos h2]
      exact Int32.le_antisymm h2 h
    · rw [if_neg h2]
  · rw [if_neg h, if_pos (Int32.le_of_lt (Int32.not_le.mp h))]
/-- the reaches of both -/
theorem rea_eq {Im : Mem} {give stiff place beam : Nat → Int32} {wall : Int32} {at1 a b : Nat} (hw : wall = Im 123 61) (hst : Im 123 64 = -1) (ha : beam a = Im 151 (at1 + a)) (hb : beam b = Im 151 (at1 + b)) (pa : place a = Im 152 (at1 + a)) (pb : place b = Im 152 (at1 + b)) (hx : ∃ x, x < 3 ∧ beam a = nI x ∧ give x = Im 127 x ∧ stiff x = Im 128 x) (hpa : ∃ p, p ≤ 30 ∧ place a = nI p) (hpb : ∃ p, p ≤ 30 ∧ place b = nI p) :
    reaF give stiff place beam wall a b = reaM Im (at1 + a) (at1 + b) := by
  obtain ⟨x, hx3, ex, eg, es⟩ := hx
  obtain ⟨p, hp, ep⟩ := hpa
  obtain ⟨q, hq, eq⟩ := hpb
  unfold reaF reaM stfM
  rw [← ha, ← hb, ← pa, ← pb, ← hw, hst]
  by_cases z : beam a = beam b
  · have h3 : nI x < (3 : Int32) := nI_lt (b := 3) hx3 (by omega)
    have h0 : ¬ nI x < 0 := nI_pos (by omega)
    have hm1 : ¬ nI x = -1 := fun w => by
      have h := nI_toInt (n := x) (by omega)
      rw [w] at h
      have h2 : (-1 : Int32).toInt = -1 := by decide
      rw [h2] at h
      omega
    have hcl : (nI x).toNatClampNeg = x := nI_clamp (by omega)
    have hds := dis_siz (p := p) (q := q) (by omega) (by omega)
    rw [if_pos z, if_pos z]
    simp only [ex, h3, h0, hm1, hcl, eg, es, ep, eq, hds, if_true, if_false]
    exact cut0
  · rw [if_neg z, if_neg z]
/-- what the two sides' steps are made of agrees -/
def cPar (Ic : Mem) (m t lL lG : Nat) (Im : Mem) (at1 fL fG n : Nat) : Prop :=
  eqLo (losC Ic t lL (Ic m 4)) (losM Im fL (fL + lL)) ∧ eqGo (goC Ic t lG) (goMd Im fG (fG + lG)) ∧ eqR n (Ic (t + 12)) (Im 135) ∧ eqR n (Ic (m + 5)) (Im 157) ∧ eqR n (Ic (m + 4)) (wghM Im) ∧ eqR n (Ic (m + 3)) (shR at1 (Im 152)) ∧
  (∀ c q, c < n → q < n → c ≠ q → Ic (m + 11) (c * 6 + q) = wghM Im q * reaM Im (at1 + c) (at1 + q)) ∧
  ∀ i, i < n → ∀ j : Nat, j < 2 ^ 31 → decide (Ic (m + 6) i = nI j) = (decide (Im 158 i = nI j) && decide (isB (Im 123 65) (nI i)))
theorem st_eq {Ic Im : Mem} {m t lL lG at1 fL fG n : Nat} (hc : cPar Ic m t lL lG Im at1 fL fG n) {j : Nat} (hj : j < 2 ^ 31) {s s' : S5} (hs : eqS n s s') : eqS n (stC Ic m t lL lG n (nI j) s) (stD Im at1 fL (fL + lL) fG (fG + lG) n (nI j) s') := by
  obtain ⟨h1, h2, h3, h4, h5, h6, h7, h8⟩ := hc
  exact stepG_cong h1 h2 h3 h4 h5 h6 h7 (fun c hc => h8 c hc j hj) ⟨hs.1, hs.2.1, hs.2.2.1, hs.2.2.2.1⟩
theorem runs_eq {Ic Im : Mem} {m t lL lG at1 fL fG n : Nat} (hc : cPar Ic m t lL lG Im at1 fL fG n) : ∀ (k t0 : Nat) (s s' : S5), t0 + k < 2 ^ 31 → eqS n s s' → eqS n (itf (fun j s => stC Ic m t lL lG n (nI j) s) k t0 s) (itf (fun j s => stD Im at1 fL (fL + lL) fG (fG + lG) n (nI j) s) k t0 s')
  | 0, _, _, _, _, hs => hs
  | k + 1, t0, s, s', hk, hs => by
    unfold itf
    exact runs_eq hc k (t0 + 1) _ _ (by omega) (st_eq hc (by omega) hs)
/-- the laws of a text: class's Telling t, model's first halves -/
def cLws (I : Mem) (t fL lL fG lG : Nat) : Prop :=
  (I (t + 19) 0 = 0 ↔ I 141 0 = 0) ∧ I (t + 19) 1 = nI lL ∧ lL ≤ 64 ∧ (I (t + 19) 0 = 0 ∨ (cLaw (I (t + 20)) (I (t + 21)) (I 144) (I 145) (I 146) fL lL ∧ I 142 0 = nI fL ∧ I 143 0 = nI (fL + lL))) ∧
  (I (t + 23) 0 = 0 ↔ I 141 1 = 0) ∧ I (t + 23) 1 = nI lG ∧ lG ≤ 64 ∧ (I (t + 23) 0 = 0 ∨ (cLaw (I (t + 24)) (I (t + 25)) (I 144) (I 145) (I 146) fG lG ∧ I 142 1 = nI fG ∧ I 143 1 = nI (fG + lG)))
theorem cLws_okL {I : Mem} {t fL lL fG lG : Nat} (h : cLws I t fL lL fG lG) : okL I t lL lG := by
  obtain ⟨a1, a2, a3, a4, b1, b2, b3, b4⟩ := h
  exact ⟨a2, a3, a4.imp id (fun q => q.1.1), b2, b3, b4.imp id (fun q => q.1.1)⟩
theorem cLws_okM {I : Mem} {t fL lL fG lG : Nat} (h : cLws I t fL lL fG lG) : okM I fL (fL + lL) fG (fG + lG) := by
  obtain ⟨a1, a2, a3, a4, b1, b2, b3, b4⟩ := h
  refine ⟨?_, ?_⟩
  · rcases a4 with q | ⟨q1, q2, q3⟩
    · exact Or.inl (a1.mp q)
    · exact Or.inr ⟨q2, q3, cLaw_wfM q1⟩
  · rcases b4 with q | ⟨q1, q2, q3⟩
    · exact Or.inl (b1.mp q)
    · exact Or.inr ⟨q2, q3, cLaw_wfM q1⟩
theorem cLws_lo {I Ic Im : Mem} {t fL lL fG lG : Nat} {ll : Int32} (h : cLws I t fL lL fG lG) (hc : ∀ a, t + 19 ≤ a → a ≤ t + 26 → Ic a = I a) (hm : Im 141 = I 141 ∧ Im 144 = I 144 ∧ Im 145 = I 145 ∧ Im 146 = I 146) (hl : ll = 0 ↔ ¬ Im 123 62 = 0) : eqLo (losC Ic t lL ll) (losM Im fL (fL + lL)) := by
  obtain ⟨a1, a2, a3, a4, b1, b2, b3, b4⟩ := h
  intro x0 x1 x2 x3 x4 x5 x6
  unfold losC losM
  rw [hc _ (by omega) (by omega), hc _ (by omega) (by omega), hc _ (by omega) (by omega), hm.1, hm.2.1, hm.2.2.1, hm.2.2.2]
  by_cases z : ll = 0
  · rw [if_pos z, if_neg (hl.mp z)]
    exact law_eq a1 (a4.imp id (fun q => q.1)) in_namF
  · rw [if_neg z, if_pos (by
      by_cases w : Im 123 62 = 0
      · exact w
      · exact absurd (hl.mpr w) z)]
theorem cLws_go {I Ic Im : Mem} {t fL lL fG lG : Nat} (h : cLws I t fL lL fG lG) (hc : ∀ a, t + 19 ≤ a → a ≤ t + 26 → Ic a = I a) (hm : Im 141 = I 141 ∧ Im 144 = I 144 ∧ Im 145 = I 145 ∧ Im 146 = I 146) : eqGo (goC Ic t lG) (goMd Im fG (fG + lG)) := by
  obtain ⟨a1, a2, a3, a4, b1, b2, b3, b4⟩ := h
  intro x0 x1 x2 x3 x4 x5 x6 y
  unfold goC goMd
  rw [hc _ (by omega) (by omega), hc _ (by omega) (by omega), hc _ (by omega) (by omega), hm.1, hm.2.1, hm.2.2.1, hm.2.2.2]
  exact law_eq b1 (b4.imp id (fun q => q.1)) in_namF

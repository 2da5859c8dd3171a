-- THE PURE MACHINE IS SOUND, 3: new cells, calls
theorem new_addr {cy : Nat → ClassId} {b : Nat} {h : Hp} {q : Nat} {e : va_E} {A : Nat → Prop} (hD : va_D A (wl cy b h ++ [(q, e)])) (hA : b ≤ q) (hlt : q < b + hTop h + 1) : q = b + hTop h := by
  rcases Nat.lt_or_ge q (b + hTop h) with hq | hq
  · exfalso
    have hx : q - b < hTop h := by omega
    have hl : (wl cy b h).length = hTop h := by unfold wl; simp
    have h1 : (wl cy b h ++ [(q, e)])[q - b]? = some (b + (q - b), cellE cy b h (q - b)) := by
      rw [List.getElem?_append_left (by rw [hl]; exact hx), wl_get hx]
    have h2 : (wl cy b h ++ [(q, e)])[hTop h]? = some (q, e) := by
      rw [List.getElem?_append_right (by rw [hl]; exact Nat.le_refl _), hl, Nat.sub_self]
      rfl
    have := hD.1 _ _ _ _ h1 h2 (show b + (q - b) = q by omega)
    omega
  · omega
theorem new_oth {cy : Nat → ClassId} {b : Nat} {h : Hp} {ci n : Nat} (x : Nat) (hx : x < hTop h) : cellE cy b (hNew h ci n) x = cellE cy b h x := by
  have hx : x ≠ hTop h := by omega
  exact cE_same (up_n hx) (up_n hx) (up_n hx) (up_n hx) (up_n hx) (up_n hx)
theorem new_rng {h : Hp} {ci n : Nat} (hr : ∀ a, hK h a < 18 → a < hTop h) : ∀ a, hK (hNew h ci n) a < 18 → a < hTop (hNew h ci n) := by
  intro a ha
  show a < hTop h + 1
  by_cases hx : a = hTop h
  · omega
  · have : hK (hNew h ci n) a = hK h a := up_n hx
    rw [this] at ha
    have := hr a ha
    omega
theorem new_fP {h : Hp} {ci j : Nat} (hc : ci < 13) (hj : j < NN ci) (b n : Nat) : defaultValue (tyT ci j) = mv b (fP (hNew h ci n) (hTop h) ci j) := by
  have e1 : hI (hNew h ci n) (hTop h) = fun _ => 0 := up_s _ _ _
  have e2 : hF (hNew h ci n) (hTop h) = fun _ => none := up_s _ _ _
  have e3 : hR (hNew h ci n) (hTop h) = fun _ => none := up_s _ _ _
  unfold fP
  rw [e1, e2, e3]
  rcases tyT_two ci hc j hj with q | q
  · rw [if_pos q]
    have e4 : (if (TT ci j).2.2.2 = true then (none : Option Nat) else none) = none := by split <;> rfl
    rw [e4]
    generalize tyT ci j = ty at q
    cases ty <;> first | (cases q; done) | rfl
  · have hr : ¬ isRf (tyT ci j) = true := by rcases q with q | q <;> rw [q] <;> decide
    rw [if_neg hr]
    rcases q with q | q <;> rw [q] <;> rfl
theorem wl_last {cy : Nat → ClassId} {b : Nat} {h : Hp} {q : Nat} {e : va_E} : (wl cy b h ++ [(q, e)])[hTop h]? = some (q, e) := by
  have hl : (wl cy b h).length = hTop h := by unfold wl; simp
  rw [List.getElem?_append_right (by rw [hl]; exact Nat.le_refl _), hl, Nat.sub_self]
  rfl
theorem cb8 {n k : Nat} (hn : n ≤ 60000) (hk : k ≤ 8) : n * k ≤ 536870912 := Nat.le_trans (Nat.mul_le_mul hn hk) (by decide)
section GWN
variable {l : Launch} {d t0 s0 mc ms b : Nat} {M : Mth} {r : Rs} {pc : Nat} {ls : Lc} {st : List Value} {h : Hp}
theorem g_new {idx ci : Nat} (hd : decode M.2.1 pc = .ok (.new idx, 3)) (hq : nCOK M.2.2.2.2 (idx, ci)) (hal : hAl h = true) (hm : hTop h + 1 ≤ t0 + mc) (hs : hSl h + NN ci ≤ s0 + ms) (kk : GW l d t0 s0 mc ms b M r (pc + 3) ls (.ref (hTop h) :: st) (hNew h ci (NN ci))) : GW l d t0 s0 mc ms b M r pc ls st h := by
  intro p e s m args below meth c D cy H locs LS cells slots F L Rp S hb hz e1 e2
  obtain ⟨q1, q2, q3, q4⟩ := hq
  dsimp only at q1 q2 q3 q4
  obtain ⟨c1, c2, c3, c4⟩ := cls_ok ci q4
  refine va_new (ci := ci) (fs := (List.range (NN ci)).map (fun k => mv b (fP (hNew h ci (NN ci)) (hTop h) ci k))) (C := cnm ci) (T := TT ci) (N := NN ci) F.1 F.2.1 F.2.2.2.2.2.1 c2 (tyT ci) c3 F.2.2.2.2.1 (F.2.2.2.2.2.1 _ q1) (F.2.2.2.2.2.1 _ q2) (F.2.2.2.2.2.1 _ q3) F.2.2.2.2.2.2.1 Rp.1 wl_D S (fun q hq => Nat.le_trans hb.1 hq) c1 (fun j hj => ?_) (by show cells + 1 ≤ mc; omega) (by show slots + NN ci ≤ ms; omega) hd (fun q H1 hP hD hS => ?_)
  · rw [new_fP q4 hj b (NN ci)]
    unfold vp_V
    rw [List.getD_eq_getElem?_getD, List.getElem?_map, List.getElem?_range hj]
    rfl
  · intro T1 hT1 X1
    have hz1 : H1.size ≤ s.heap.size + (cells + 1) := by rw [← hT1]; exact X1.same.2.2.1
    have hq : q = b + hTop h := new_addr hD (hD.2 _ _ wl_last) (by
      have h1 := (hP _ _ wl_last).lt
      have h2 := hz hal
      dsimp only at h1
      omega)
    subst hq
    have hw := wl_push (cy := cy) (b := b) (h := h) (h' := hNew h ci (NN ci)) rfl (cE_obj (up_s _ _ _) q4) (fun x hx => new_oth x hx)
    rw [hw] at hP
    exact kk p e s m args below meth c D cy H1 locs LS (cells + 1) (slots + NN ci) F L ⟨hP, new_rng Rp.2⟩ hS hb hz (by show cells + 1 + t0 = hTop h + 1; omega) (by show slots + NN ci + s0 = hSl h + NN ci; omega) T1 hT1 X1
theorem g_newa_byte {n : Int32} (hd : decode M.2.1 pc = .ok (.newarray .byte, 2)) (hal : hAl h = true) (hn : ¬ n < 0) (hn6 : n.toNatClampNeg ≤ 60000) (hm : hTop h + 1 ≤ t0 + mc) (hs : hSl h + n.toNatClampNeg ≤ s0 + ms) (kk : GW l d t0 s0 mc ms b M r (pc + 2) ls (.ref (hTop h) :: st) (hNew h 13 n.toNatClampNeg)) : GW l d t0 s0 mc ms b M r pc ls (.int n :: st) h := by
  intro p e s m args below meth c D cy H locs LS cells slots F L Rp S hb hz e1 e2
  refine va_newa (atype := .byte) (ty := .byte) (N' := n.toNatClampNeg) (a0 := (n.toNatClampNeg, .inl (fun _ => 0))) F.1 F.2.1 (F.2.2.2.2.2.1 _ aK_byte) rfl F.2.2.2.2.2.2.1 Rp.1 wl_D S (fun q hq => Nat.le_trans hb.1 hq) (fun cA => rfl) hn rfl (cb8 hn6 (by decide)) (by show cells + 1 ≤ mc; omega) (by show slots + n.toNatClampNeg ≤ ms; omega) hd (fun q cA H1 hK1 hP hD hS => ?_)
  intro T1 hT1 X1
  have hcA : cA = cy 13 := by
    have h1 := (hK1.2 5 (cA, .byte) rfl).2
    have h2 := (hK1.2 0 (cy 13, .byte) rfl).2
    exact Option.some.inj (Eq.trans (Eq.symm h1) h2)
  subst hcA
  have hz1 : H1.size ≤ s.heap.size + (cells + 1) := by rw [← hT1]; exact X1.same.2.2.1
  have hq : q = b + hTop h := new_addr hD (hD.2 _ _ wl_last) (by
    have h1 := (hP _ _ wl_last).lt
    have h2 := hz hal
    dsimp only at h1
    omega)
  subst hq
  have hw := wl_push (cy := cy) (b := b) (h := h) (h' := hNew h 13 n.toNatClampNeg) rfl (cE_arr (up_s _ _ _) (by decide) (by decide)) (fun x hx => new_oth x hx)
  have hce : hN (hNew h 13 n.toNatClampNeg) (hTop h) = n.toNatClampNeg := up_s _ _ _
  have hcf : hI (hNew h 13 n.toNatClampNeg) (hTop h) = fun _ => 0 := up_s _ _ _
  rw [hce, hcf] at hw
  rw [hw] at hP
  exact kk p e s m args below meth c D cy H1 locs LS (cells + 1) (slots + n.toNatClampNeg) F L ⟨hP, new_rng Rp.2⟩ hS hb hz (by show cells + 1 + t0 = hTop h + 1; omega) (by show slots + n.toNatClampNeg + s0 = hSl h + n.toNatClampNeg; omega) T1 hT1 X1
theorem g_newa_int {n : Int32} (hd : decode M.2.1 pc = .ok (.newarray .int, 2)) (hal : hAl h = true) (hn : ¬ n < 0) (hn6 : n.toNatClampNeg ≤ 60000) (hm : hTop h + 1 ≤ t0 + mc) (hs : hSl h + n.toNatClampNeg ≤ s0 + ms) (kk : GW l d t0 s0 mc ms b M r (pc + 2) ls (.ref (hTop h) :: st) (hNew h 14 n.toNatClampNeg)) : GW l d t0 s0 mc ms b M r pc ls (.int n :: st) h := by
  intro p e s m args below meth c D cy H locs LS cells slots F L Rp S hb hz e1 e2
  refine va_newa (atype := .int) (ty := .int) (N' := n.toNatClampNeg) (a0 := (n.toNatClampNeg, .inl (fun _ => 0))) F.1 F.2.1 (F.2.2.2.2.2.1 _ aK_int) rfl F.2.2.2.2.2.2.1 Rp.1 wl_D S (fun q hq => Nat.le_trans hb.1 hq) (fun cA => rfl) hn rfl (cb8 hn6 (by decide)) (by show cells + 1 ≤ mc; omega) (by show slots + n.toNatClampNeg ≤ ms; omega) hd (fun q cA H1 hK1 hP hD hS => ?_)
  intro T1 hT1 X1
  have hcA : cA = cy 14 := by
    have h1 := (hK1.2 5 (cA, .int) rfl).2
    have h2 := (hK1.2 1 (cy 14, .int) rfl).2
    exact Option.some.inj (Eq.trans (Eq.symm h1) h2)
  subst hcA
  have hz1 : H1.size ≤ s.heap.size + (cells + 1) := by rw [← hT1]; exact X1.same.2.2.1
  have hq : q = b + hTop h := new_addr hD (hD.2 _ _ wl_last) (by
    have h1 := (hP _ _ wl_last).lt
    have h2 := hz hal
    dsimp only at h1
    omega)
  subst hq
  have hw := wl_push (cy := cy) (b := b) (h := h) (h' := hNew h 14 n.toNatClampNeg) rfl (cE_arr (up_s _ _ _) (by decide) (by decide)) (fun x hx => new_oth x hx)
  have hce : hN (hNew h 14 n.toNatClampNeg) (hTop h) = n.toNatClampNeg := up_s _ _ _
  have hcf : hI (hNew h 14 n.toNatClampNeg) (hTop h) = fun _ => 0 := up_s _ _ _
  rw [hce, hcf] at hw
  rw [hw] at hP
  exact kk p e s m args below meth c D cy H1 locs LS (cells + 1) (slots + n.toNatClampNeg) F L ⟨hP, new_rng Rp.2⟩ hS hb hz (by show cells + 1 + t0 = hTop h + 1; omega) (by show slots + n.toNatClampNeg + s0 = hSl h + n.toNatClampNeg; omega) T1 hT1 X1
theorem g_newa_long {n : Int32} (hd : decode M.2.1 pc = .ok (.newarray .long, 2)) (hal : hAl h = true) (hn : ¬ n < 0) (hn6 : n.toNatClampNeg ≤ 60000) (hm : hTop h + 1 ≤ t0 + mc) (hs : hSl h + n.toNatClampNeg ≤ s0 + ms) (kk : GW l d t0 s0 mc ms b M r (pc + 2) ls (.ref (hTop h) :: st) (hNew h 15 n.toNatClampNeg)) : GW l d t0 s0 mc ms b M r pc ls (.int n :: st) h := by
  intro p e s m args below meth c D cy H locs LS cells slots F L Rp S hb hz e1 e2
  refine va_newa (atype := .long) (ty := .long) (N' := n.toNatClampNeg) (a0 := (n.toNatClampNeg, .inr (.inl (fun _ => 0)))) F.1 F.2.1 (F.2.2.2.2.2.1 _ aK_long) rfl F.2.2.2.2.2.2.1 Rp.1 wl_D S (fun q hq => Nat.le_trans hb.1 hq) (fun cA => rfl) hn rfl (cb8 hn6 (by decide)) (by show cells + 1 ≤ mc; omega) (by show slots + n.toNatClampNeg ≤ ms; omega) hd (fun q cA H1 hK1 hP hD hS => ?_)
  intro T1 hT1 X1
  have hcA : cA = cy 15 := by
    have h1 := (hK1.2 5 (cA, .long) rfl).2
    have h2 := (hK1.2 2 (cy 15, .long) rfl).2
    exact Option.some.inj (Eq.trans (Eq.symm h1) h2)
  subst hcA
  have hz1 : H1.size ≤ s.heap.size + (cells + 1) := by rw [← hT1]; exact X1.same.2.2.1
  have hq : q = b + hTop h := new_addr hD (hD.2 _ _ wl_last) (by
    have h1 := (hP _ _ wl_last).lt
    have h2 := hz hal
    dsimp only at h1
    omega)
  subst hq
  have hw := wl_push (cy := cy) (b := b) (h := h) (h' := hNew h 15 n.toNatClampNeg) rfl (cE_lon (up_s _ _ _)) (fun x hx => new_oth x hx)
  have hce : hN (hNew h 15 n.toNatClampNeg) (hTop h) = n.toNatClampNeg := up_s _ _ _
  have hcf : hJ (hNew h 15 n.toNatClampNeg) (hTop h) = fun _ => 0 := up_s _ _ _
  rw [hce, hcf] at hw
  rw [hw] at hP
  exact kk p e s m args below meth c D cy H1 locs LS (cells + 1) (slots + n.toNatClampNeg) F L ⟨hP, new_rng Rp.2⟩ hS hb hz (by show cells + 1 + t0 = hTop h + 1; omega) (by show slots + n.toNatClampNeg + s0 = hSl h + n.toNatClampNeg; omega) T1 hT1 X1
theorem g_newa_short {n : Int32} (hd : decode M.2.1 pc = .ok (.newarray .short, 2)) (hal : hAl h = true) (hn : ¬ n < 0) (hn6 : n.toNatClampNeg ≤ 60000) (hm : hTop h + 1 ≤ t0 + mc) (hs : hSl h + n.toNatClampNeg ≤ s0 + ms) (kk : GW l d t0 s0 mc ms b M r (pc + 2) ls (.ref (hTop h) :: st) (hNew h 16 n.toNatClampNeg)) : GW l d t0 s0 mc ms b M r pc ls (.int n :: st) h := by
  intro p e s m args below meth c D cy H locs LS cells slots F L Rp S hb hz e1 e2
  refine va_newa (atype := .short) (ty := .short) (N' := n.toNatClampNeg) (a0 := (n.toNatClampNeg, .inl (fun _ => 0))) F.1 F.2.1 (F.2.2.2.2.2.1 _ aK_short) rfl F.2.2.2.2.2.2.1 Rp.1 wl_D S (fun q hq => Nat.le_trans hb.1 hq) (fun cA => rfl) hn rfl (cb8 hn6 (by decide)) (by show cells + 1 ≤ mc; omega) (by show slots + n.toNatClampNeg ≤ ms; omega) hd (fun q cA H1 hK1 hP hD hS => ?_)
  intro T1 hT1 X1
  have hcA : cA = cy 16 := by
    have h1 := (hK1.2 5 (cA, .short) rfl).2
    have h2 := (hK1.2 3 (cy 16, .short) rfl).2
    exact Option.some.inj (Eq.trans (Eq.symm h1) h2)
  subst hcA
  have hz1 : H1.size ≤ s.heap.size + (cells + 1) := by rw [← hT1]; exact X1.same.2.2.1
  have hq : q = b + hTop h := new_addr hD (hD.2 _ _ wl_last) (by
    have h1 := (hP _ _ wl_last).lt
    have h2 := hz hal
    dsimp only at h1
    omega)
  subst hq
  have hw := wl_push (cy := cy) (b := b) (h := h) (h' := hNew h 16 n.toNatClampNeg) rfl (cE_arr (up_s _ _ _) (by decide) (by decide)) (fun x hx => new_oth x hx)
  have hce : hN (hNew h 16 n.toNatClampNeg) (hTop h) = n.toNatClampNeg := up_s _ _ _
  have hcf : hI (hNew h 16 n.toNatClampNeg) (hTop h) = fun _ => 0 := up_s _ _ _
  rw [hce, hcf] at hw
  rw [hw] at hP
  exact kk p e s m args below meth c D cy H1 locs LS (cells + 1) (slots + n.toNatClampNeg) F L ⟨hP, new_rng Rp.2⟩ hS hb hz (by show cells + 1 + t0 = hTop h + 1; omega) (by show slots + n.toNatClampNeg + s0 = hSl h + n.toNatClampNeg; omega) T1 hT1 X1
theorem g_newa_bool {n : Int32} (hd : decode M.2.1 pc = .ok (.newarray .boolean, 2)) (hal : hAl h = true) (hn : ¬ n < 0) (hn6 : n.toNatClampNeg ≤ 60000) (hm : hTop h + 1 ≤ t0 + mc) (hs : hSl h + n.toNatClampNeg ≤ s0 + ms) (kk : GW l d t0 s0 mc ms b M r (pc + 2) ls (.ref (hTop h) :: st) (hNew h 17 n.toNatClampNeg)) : GW l d t0 s0 mc ms b M r pc ls (.int n :: st) h := by
  intro p e s m args below meth c D cy H locs LS cells slots F L Rp S hb hz e1 e2
  refine va_newa (atype := .boolean) (ty := .boolean) (N' := n.toNatClampNeg) (a0 := (n.toNatClampNeg, .inl (fun _ => 0))) F.1 F.2.1 (F.2.2.2.2.2.1 _ aK_boolean) rfl F.2.2.2.2.2.2.1 Rp.1 wl_D S (fun q hq => Nat.le_trans hb.1 hq) (fun cA => rfl) hn rfl (cb8 hn6 (by decide)) (by show cells + 1 ≤ mc; omega) (by show slots + n.toNatClampNeg ≤ ms; omega) hd (fun q cA H1 hK1 hP hD hS => ?_)
  intro T1 hT1 X1
  have hcA : cA = cy 17 := by
    have h1 := (hK1.2 5 (cA, .boolean) rfl).2
    have h2 := (hK1.2 4 (cy 17, .boolean) rfl).2
    exact Option.some.inj (Eq.trans (Eq.symm h1) h2)
  subst hcA
  have hz1 : H1.size ≤ s.heap.size + (cells + 1) := by rw [← hT1]; exact X1.same.2.2.1
  have hq : q = b + hTop h := new_addr hD (hD.2 _ _ wl_last) (by
    have h1 := (hP _ _ wl_last).lt
    have h2 := hz hal
    dsimp only at h1
    omega)
  subst hq
  have hw := wl_push (cy := cy) (b := b) (h := h) (h' := hNew h 17 n.toNatClampNeg) rfl (cE_arr (up_s _ _ _) (by decide) (by decide)) (fun x hx => new_oth x hx)
  have hce : hN (hNew h 17 n.toNatClampNeg) (hTop h) = n.toNatClampNeg := up_s _ _ _
  have hcf : hI (hNew h 17 n.toNatClampNeg) (hTop h) = fun _ => 0 := up_s _ _ _
  rw [hce, hcf] at hw
  rw [hw] at hP
  exact kk p e s m args below meth c D cy H1 locs LS (cells + 1) (slots + n.toNatClampNeg) F L ⟨hP, new_rng Rp.2⟩ hS hb hz (by show cells + 1 + t0 = hTop h + 1; omega) (by show slots + n.toNatClampNeg + s0 = hSl h + n.toNatClampNeg; omega) T1 hT1 X1
end GWN

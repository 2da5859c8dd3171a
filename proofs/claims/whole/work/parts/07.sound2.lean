-- THE PURE MACHINE IS SOUND, 2: fields, arrays, new cells, answers
theorem cls_ok : ∀ ci, ci < 13 → vwCl[ci]? = some (cnm ci, TT ci, NN ci) ∧ (∀ w ∈ u_ws (cnm ci) (TT ci) (NN ci), w ∈ gtbl) ∧ (∀ k, k < NN ci → parseFieldDescriptor (TT ci k).2.2.1 = some (tyT ci k)) ∧ (∀ a, a < NN ci → ∀ b, b < NN ci → a ≠ b → (TT ci a).2.1 ≠ (TT ci b).2.1)
  | 0, _ => ⟨rfl, iX0, tyX0_ok, nmX0⟩
  | 1, _ => ⟨rfl, iX1, tyX1_ok, nmX1⟩
  | 2, _ => ⟨rfl, iX2, tyX2_ok, nmX2⟩
  | 3, _ => ⟨rfl, iX3, tyX3_ok, nmX3⟩
  | 4, _ => ⟨rfl, iX4, tyX4_ok, nmX4⟩
  | 5, _ => ⟨rfl, iX5, tyX5_ok, nmX5⟩
  | 6, _ => ⟨rfl, iX6, tyX6_ok, nmX6⟩
  | 7, _ => ⟨rfl, iX7, tyX7_ok, nmX7⟩
  | 8, _ => ⟨rfl, iX8, tyX8_ok, nmX8⟩
  | 9, _ => ⟨rfl, iX9, tyX9_ok, nmX9⟩
  | 10, _ => ⟨rfl, iX10, tyX10_ok, nmX10⟩
  | 11, _ => ⟨rfl, iX11, tyX11_ok, nmX11⟩
  | 12, _ => ⟨rfl, iX12, tyX12_ok, nmX12⟩
  | _ + 13, h => absurd h (by omega)
theorem inb_in {i : Int32} {n : Nat} (h : inb i n = true) : vp_in i n := by
  unfold inb at h
  unfold vp_in
  simp only [Bool.and_eq_true, Bool.not_eq_true', decide_eq_false_iff_not, decide_eq_true_eq] at h
  rintro (q | q)
  · exact h.1 q
  · omega
theorem fres_ok {o i ci k : Nat} {ne : Bool} (h : fRes o i = some (ci, k, ne)) : fOK o (i, ci, k, ne) := by
  unfold fRes at h
  exact fTab_ok o _ (List.lookup_eq_some_iff.mp h |> fun ⟨l1, l2, e, _⟩ => by rw [e]; exact List.mem_append_right _ List.mem_cons_self)
theorem lk_mem {α : Type} {T : List (Nat × α)} {i : Nat} {v : α} (h : T.lookup i = some v) : (i, v) ∈ T := by
  induction T with
  | nil => cases h
  | cons a T ih =>
    obtain ⟨j, w⟩ := a
    rw [List.lookup_cons] at h
    cases hj : (i == j) with
    | true =>
      rw [hj] at h
      have e : i = j := by simpa using hj
      subst e
      cases h
      exact List.mem_cons_self
    | false =>
      rw [hj] at h
      exact List.mem_cons_of_mem _ (ih h)
section GWM
variable {l : Launch} {d t0 s0 mc ms b : Nat} {M : Mth} {r : Rs} {pc : Nat} {ls : Lc} {st : List Value} {h : Hp}
theorem g_get {idx ci k a : Nat} {ne : Bool} (hd : decode M.2.1 pc = .ok (.getfield idx, 3)) (hq : fOK M.2.2.2.2 (idx, ci, k, ne)) (hk : hK h a = ci) (kk : GW l d t0 s0 mc ms b M r (pc + 3) ls (fP h a ci k :: st) h) : GW l d t0 s0 mc ms b M r pc ls (.ref a :: st) h := by
  intro p e s m args below meth c D cy H locs LS cells slots F L Rp S hb hz e1 e2
  obtain ⟨q1, q2, q3⟩ := hq
  dsimp only at q1 q2 q3
  obtain ⟨c1, c2, c3, c4⟩ := cls_ok ci q2
  have ha : a < hTop h := Rp.2 a (by rw [hk]; omega)
  have he : (wl cy b h)[a]? = some (b + a, .inr (ci, (List.range (NN ci)).map (fun k => mv b (fP h a ci k)))) := by rw [wl_get ha, cE_obj hk q2]
  have hv : ((List.range (NN ci)).map (fun k => mv b (fP h a ci k)))[k]? = some (mv b (fP h a ci k)) := by rw [List.getElem?_map, List.getElem?_range q1]; rfl
  cases ne with
  | false => exact va_get F.1 F.2.1 F.2.2.2.2.2.1 c2 F.2.2.2.2.1 F.2.2.2.2.2.2.1 Rp.1 a he c1 k q1 (F.2.2.2.2.2.1 _ q3) (fun x h => h) hv hd (kk p e s m args below meth c D cy H locs LS cells slots F L Rp S hb hz e1 e2)
  | true => exact va_getN F.1 F.2.1 F.2.2.2.2.2.1 c2 F.2.2.2.2.1 F.2.2.2.2.2.2.1 Rp.1 a he c1 k q1 ((F.2.2.2.2.2.2.2.2.1 _ q3).use rfl) (fun x h => h) hv hd (kk p e s m args below meth c D cy H locs LS cells slots F L Rp S hb hz e1 e2)
theorem fP_stI {a ci k j : Nat} {v : Int32} (hr : isRf (tyT ci k) = false) : fP (stI h a k v) a ci j = if j = k then .int v else fP h a ci j := by
  unfold fP
  by_cases hj : j = k
  · subst hj
    rw [if_pos rfl, if_neg (by rw [hr]; decide)]
    show Value.int (va_up h.2.1 a (upd (h.2.1 a) j v) a j) = _
    rw [up_s, pk_us]
  · rw [if_neg hj]
    show (if isRf (tyT ci j) = true then va_rf (if (TT ci j).2.2.2 = true then hF h a j else hR h a j) else Value.int (va_up h.2.1 a (upd (h.2.1 a) k v) a j)) = _
    rw [up_s, pk_un hj]
    rfl
theorem fP_stR {a ci k j : Nat} {v : Option Nat} (hr : isRf (tyT ci k) = true) (hf : (TT ci k).2.2.2 = false) : fP (stR h a k v) a ci j = if j = k then va_rf v else fP h a ci j := by
  unfold fP
  by_cases hj : j = k
  · subst hj
    rw [if_pos rfl, if_pos hr, if_neg (by rw [hf]; decide)]
    show va_rf (va_up h.2.2.2 a (va_up (h.2.2.2 a) j v) a j) = _
    rw [up_s, up_s]
  · rw [if_neg hj]
    show (if isRf (tyT ci j) = true then va_rf (if (TT ci j).2.2.2 = true then hF h a j else va_up h.2.2.2 a (va_up (h.2.2.2 a) k v) a j) else Value.int (hI h a j)) = _
    rw [up_s, up_n hj]
    rfl
theorem fP_stF {a ci k j : Nat} {v : Option Nat} (hr : isRf (tyT ci k) = true) (hf : (TT ci k).2.2.2 = true) : fP (stF h a k v) a ci j = if j = k then va_rf v else fP h a ci j := by
  unfold fP
  by_cases hj : j = k
  · subst hj
    rw [if_pos rfl, if_pos hr, if_pos hf]
    show va_rf (va_up (hF h) a (va_up (hF h a) j v) a j) = _
    rw [up_s, up_s]
  · rw [if_neg hj]
    show (if isRf (tyT ci j) = true then va_rf (if (TT ci j).2.2.2 = true then va_up (hF h) a (va_up (hF h a) k v) a j else hR h a j) else Value.int (hI h a j)) = _
    rw [up_s, up_n hj]
theorem wl_put {cy : Nat → ClassId} {h' : Hp} {a ci k : Nat} {v : Value} (hk : hK h a = ci) (hc : ci < 13) (ha : a < hTop h) (hs : h'.1.2.1 = h.1.2.1) (hK' : hK h' = hK h) (hP : ∀ j, fP h' a ci j = if j = k then v else fP h a ci j)
    (ho : ∀ x, x ≠ a → cellE cy b h' x = cellE cy b h x) : (wl cy b h).set a (b + a, .inr (ci, ((List.range (NN ci)).map (fun k => mv b (fP h a ci k))).set k (mv b v))) = wl cy b h' := by
  refine wl_set hs ha ?_ ho
  rw [cE_obj (by rw [hK']; exact hk) hc, rng_set (f := fun k => mv b (fP h a ci k)) (g := fun k => mv b (fP h' a ci k))]
  · rw [hP k, if_pos rfl]
  · intro j hj
    rw [hP j, if_neg hj]
theorem oth_stI {cy : Nat → ClassId} {a k : Nat} {v : Int32} (x : Nat) (hx : x ≠ a) : cellE cy b (stI h a k v) x = cellE cy b h x := cE_same rfl rfl (up_n hx) rfl rfl rfl
theorem oth_stA {cy : Nat → ClassId} {a : Nat} {f : Nat → Int32} (x : Nat) (hx : x ≠ a) : cellE cy b (stA h a f) x = cellE cy b h x := cE_same rfl rfl (up_n hx) rfl rfl rfl
theorem oth_stJ {cy : Nat → ClassId} {a k : Nat} {v : Int64} (x : Nat) (hx : x ≠ a) : cellE cy b (stJ h a k v) x = cellE cy b h x := cE_same rfl rfl rfl (up_n hx) rfl rfl
theorem oth_stR {cy : Nat → ClassId} {a k : Nat} {v : Option Nat} (x : Nat) (hx : x ≠ a) : cellE cy b (stR h a k v) x = cellE cy b h x := cE_same rfl rfl rfl rfl rfl (up_n hx)
theorem oth_stF {cy : Nat → ClassId} {a k : Nat} {v : Option Nat} (x : Nat) (hx : x ≠ a) : cellE cy b (stF h a k v) x = cellE cy b h x := cE_same rfl rfl rfl rfl (up_n hx) rfl
theorem nar_of_fits {ty : FieldType} {v : Int32} (h : fits ty (.int v) = true) (hr : isRf ty = false) (hi : ty = .int ∨ ty = .boolean) : narrow ty (.int v) = .int v := by
  rcases hi with rfl | rfl
  · rfl
  · simp only [fits, Bool.or_eq_true, beq_iff_eq] at h
    rcases h with rfl | rfl <;> rfl
theorem tyT_two : ∀ ci, ci < 13 → ∀ k, k < NN ci → isRf (tyT ci k) = true ∨ (tyT ci k = .int ∨ tyT ci k = .boolean) := by decide +kernel
theorem fit_rf {b : Nat} {ty : FieldType} {v : Option Nat} (h : isRf ty = true) : narrow ty (mv b (va_rf v)) = mv b (va_rf v) ∧ fits ty (mv b (va_rf v)) = true := by
  cases ty <;> first | (cases h; done) | (cases v <;> exact ⟨rfl, rfl⟩)
theorem g_putI {idx ci k a : Nat} {ne : Bool} {v : Int32} (hd : decode M.2.1 pc = .ok (.putfield idx, 3)) (hq : fOK M.2.2.2.2 (idx, ci, k, ne)) (hk : hK h a = ci) (hr : isRf (tyT ci k) = false) (hf : (TT ci k).2.2.2 = false) (hv : fits (tyT ci k) (.int v) = true) (kk : GW l d t0 s0 mc ms b M r (pc + 3) ls st (stI h a k v)) : GW l d t0 s0 mc ms b M r pc ls (Value.int v :: .ref a :: st) h := by
  intro p e s m args below meth c D cy H locs LS cells slots F L Rp S hb hz e1 e2
  obtain ⟨q1, q2, q3⟩ := hq
  dsimp only at q1 q2 q3
  obtain ⟨c1, c2, c3, c4⟩ := cls_ok ci q2
  have ha : a < hTop h := Rp.2 a (by rw [hk]; omega)
  have he : (wl cy b h)[a]? = some (b + a, .inr (ci, (List.range (NN ci)).map (fun k => mv b (fP h a ci k)))) := by rw [wl_get ha, cE_obj hk q2]
  have hl : k < ((List.range (NN ci)).map (fun k => mv b (fP h a ci k))).length := by simpa using q1
  have hw : (wl cy b h).set a (b + a, .inr (ci, ((List.range (NN ci)).map (fun k => mv b (fP h a ci k))).set k (mv b (Value.int v)))) = wl cy b (stI h a k v) := wl_put hk q2 ha rfl rfl (fun j => fP_stI hr) (oth_stI (h := h))
  have hnf : narrow (tyT ci k) (mv b (.int v)) = mv b (.int v) ∧ fits (tyT ci k) (mv b (.int v)) = true := ⟨nar_of_fits hv hr ((tyT_two ci q2 k q1).resolve_left (by rw [hr]; decide)), hv⟩
  
  cases ne with
  | false => exact va_put F.1 F.2.1 F.2.2.2.2.2.1 c2 (tyT ci) c3 c4 F.2.2.2.2.1 F.2.2.2.2.2.2.1 Rp.1 wl_D S a he c1 k q1 (F.2.2.2.2.2.1 _ q3) (fun x h => h) hf (c3 k q1) hnf.1 hnf.2 hl hd (fun H1 locs1 hP hD hS => kk p e s m args below meth c D cy H1 locs1 LS cells slots F L ⟨by rw [← hw]; exact hP, Rp.2⟩ hS hb hz e1 e2)
  | true => exact va_putN F.1 F.2.1 F.2.2.2.2.2.1 c2 (tyT ci) c3 c4 F.2.2.2.2.1 F.2.2.2.2.2.2.1 Rp.1 wl_D S a he c1 k q1 ((F.2.2.2.2.2.2.2.2.1 _ q3).use rfl) (fun x h => h) hf (c3 k q1) hnf.1 hnf.2 hl hd (fun H1 locs1 hP hD hS => kk p e s m args below meth c D cy H1 locs1 LS cells slots F L ⟨by rw [← hw]; exact hP, Rp.2⟩ hS hb hz e1 e2)
theorem g_putR {idx ci k a : Nat} {ne : Bool} {v : Option Nat} (hd : decode M.2.1 pc = .ok (.putfield idx, 3)) (hq : fOK M.2.2.2.2 (idx, ci, k, ne)) (hk : hK h a = ci) (hr : isRf (tyT ci k) = true) (hf : (TT ci k).2.2.2 = false) (kk : GW l d t0 s0 mc ms b M r (pc + 3) ls st (stR h a k v)) : GW l d t0 s0 mc ms b M r pc ls (va_rf v :: .ref a :: st) h := by
  intro p e s m args below meth c D cy H locs LS cells slots F L Rp S hb hz e1 e2
  obtain ⟨q1, q2, q3⟩ := hq
  dsimp only at q1 q2 q3
  obtain ⟨c1, c2, c3, c4⟩ := cls_ok ci q2
  have ha : a < hTop h := Rp.2 a (by rw [hk]; omega)
  have he : (wl cy b h)[a]? = some (b + a, .inr (ci, (List.range (NN ci)).map (fun k => mv b (fP h a ci k)))) := by rw [wl_get ha, cE_obj hk q2]
  have hl : k < ((List.range (NN ci)).map (fun k => mv b (fP h a ci k))).length := by simpa using q1
  have hw : (wl cy b h).set a (b + a, .inr (ci, ((List.range (NN ci)).map (fun k => mv b (fP h a ci k))).set k (mv b (va_rf v)))) = wl cy b (stR h a k v) := wl_put hk q2 ha rfl rfl (fun j => fP_stR hr hf) (oth_stR (h := h))
  have hnf := fit_rf (b := b) (v := v) hr
  
  cases ne with
  | false => exact va_put F.1 F.2.1 F.2.2.2.2.2.1 c2 (tyT ci) c3 c4 F.2.2.2.2.1 F.2.2.2.2.2.2.1 Rp.1 wl_D S a he c1 k q1 (F.2.2.2.2.2.1 _ q3) (fun x h => h) hf (c3 k q1) hnf.1 hnf.2 hl hd (fun H1 locs1 hP hD hS => kk p e s m args below meth c D cy H1 locs1 LS cells slots F L ⟨by rw [← hw]; exact hP, Rp.2⟩ hS hb hz e1 e2)
  | true => exact va_putN F.1 F.2.1 F.2.2.2.2.2.1 c2 (tyT ci) c3 c4 F.2.2.2.2.1 F.2.2.2.2.2.2.1 Rp.1 wl_D S a he c1 k q1 ((F.2.2.2.2.2.2.2.2.1 _ q3).use rfl) (fun x h => h) hf (c3 k q1) hnf.1 hnf.2 hl hd (fun H1 locs1 hP hD hS => kk p e s m args below meth c D cy H1 locs1 LS cells slots F L ⟨by rw [← hw]; exact hP, Rp.2⟩ hS hb hz e1 e2)
theorem g_putF {idx ci k a : Nat} {ne : Bool} {v : Option Nat} (hd : decode M.2.1 pc = .ok (.putfield idx, 3)) (hq : fOK M.2.2.2.2 (idx, ci, k, ne)) (hk : hK h a = ci) (hr : isRf (tyT ci k) = true) (hf : (TT ci k).2.2.2 = true) (hi : M.1.name = "<init>") (hdc : (TT ci k).1 = cnm M.2.2.2.2) (hne : ne = false) (kk : GW l d t0 s0 mc ms b M r (pc + 3) ls st (stF h a k v)) : GW l d t0 s0 mc ms b M r pc ls (va_rf v :: .ref a :: st) h := by
  intro p e s m args below meth c D cy H locs LS cells slots F L Rp S hb hz e1 e2
  obtain ⟨q1, q2, q3⟩ := hq
  dsimp only at q1 q2 q3
  obtain ⟨c1, c2, c3, c4⟩ := cls_ok ci q2
  have ha : a < hTop h := Rp.2 a (by rw [hk]; omega)
  have he : (wl cy b h)[a]? = some (b + a, .inr (ci, (List.range (NN ci)).map (fun k => mv b (fP h a ci k)))) := by rw [wl_get ha, cE_obj hk q2]
  have hl : k < ((List.range (NN ci)).map (fun k => mv b (fP h a ci k))).length := by simpa using q1
  have hw : (wl cy b h).set a (b + a, .inr (ci, ((List.range (NN ci)).map (fun k => mv b (fP h a ci k))).set k (mv b (va_rf v)))) = wl cy b (stF h a k v) := wl_put hk q2 ha rfl rfl (fun j => fP_stF hr hf) (oth_stF (h := h))
  have hnf := fit_rf (b := b) (v := v) hr
  subst hne
  exact va_putF F.1 F.2.1 F.2.2.2.2.2.1 c2 (tyT ci) c3 c4 F.2.2.2.2.1 F.2.2.2.2.2.2.1 Rp.1 wl_D S a he c1 k q1 (F.2.2.2.2.2.1 _ q3) (fun x h => h) hf (F.2.2.2.2.2.2.2.2.2.2.trans hi) hdc (c3 k q1) hnf.1 hnf.2 hl hd (fun H1 locs1 hP hD hS => kk p e s m args below meth c D cy H1 locs1 LS cells slots F L ⟨by rw [← hw]; exact hP, Rp.2⟩ hS hb hz e1 e2)
theorem g_iald {a : Nat} {i : Int32} (hd : decode M.2.1 pc = .ok (.iaload, 1)) (hk : hK h a = 14) (hi : inb i (hN h a) = true) (kk : GW l d t0 s0 mc ms b M r (pc + 1) ls (.int (hI h a i.toNatClampNeg) :: st) h) : GW l d t0 s0 mc ms b M r pc ls (.int i :: .ref a :: st) h := by
  intro p e s m args below meth c D cy H locs LS cells slots F L Rp S hb hz e1 e2
  have ha : a < hTop h := Rp.2 a (by rw [hk]; decide)
  exact va_iald F.1 F.2.1 F.2.2.2.2.2.2.1 Rp.1 a 1 (by rw [wl_get ha, cE_arr hk (by decide) (by decide)]) rfl (inb_in hi) hd (kk p e s m args below meth c D cy H locs LS cells slots F L Rp S hb hz e1 e2)
theorem g_sald {a : Nat} {i : Int32} (hd : decode M.2.1 pc = .ok (.saload, 1)) (hk : hK h a = 16) (hi : inb i (hN h a) = true) (kk : GW l d t0 s0 mc ms b M r (pc + 1) ls (.int (hI h a i.toNatClampNeg) :: st) h) : GW l d t0 s0 mc ms b M r pc ls (.int i :: .ref a :: st) h := by
  intro p e s m args below meth c D cy H locs LS cells slots F L Rp S hb hz e1 e2
  have ha : a < hTop h := Rp.2 a (by rw [hk]; decide)
  exact va_sald F.1 F.2.1 F.2.2.2.2.2.2.1 Rp.1 a 3 (by rw [wl_get ha, cE_arr hk (by decide) (by decide)]) rfl (inb_in hi) hd (kk p e s m args below meth c D cy H locs LS cells slots F L Rp S hb hz e1 e2)
theorem g_bald {a : Nat} {i : Int32} (hd : decode M.2.1 pc = .ok (.baload, 1)) (hk : hK h a = 13) (hi : inb i (hN h a) = true) (kk : GW l d t0 s0 mc ms b M r (pc + 1) ls (.int (hI h a i.toNatClampNeg) :: st) h) : GW l d t0 s0 mc ms b M r pc ls (.int i :: .ref a :: st) h := by
  intro p e s m args below meth c D cy H locs LS cells slots F L Rp S hb hz e1 e2
  have ha : a < hTop h := Rp.2 a (by rw [hk]; decide)
  exact va_bald F.1 F.2.1 F.2.2.2.2.2.2.1 Rp.1 a 0 (by rw [wl_get ha, cE_arr hk (by decide) (by decide)]) rfl (inb_in hi) hd (kk p e s m args below meth c D cy H locs LS cells slots F L Rp S hb hz e1 e2)
theorem g_zald {a : Nat} {i : Int32} (hd : decode M.2.1 pc = .ok (.baload, 1)) (hk : hK h a = 17) (hi : inb i (hN h a) = true) (kk : GW l d t0 s0 mc ms b M r (pc + 1) ls (.int (hI h a i.toNatClampNeg) :: st) h) : GW l d t0 s0 mc ms b M r pc ls (.int i :: .ref a :: st) h := by
  intro p e s m args below meth c D cy H locs LS cells slots F L Rp S hb hz e1 e2
  have ha : a < hTop h := Rp.2 a (by rw [hk]; decide)
  exact va_zald F.1 F.2.1 F.2.2.2.2.2.2.1 Rp.1 a 4 (by rw [wl_get ha, cE_arr hk (by decide) (by decide)]) rfl (inb_in hi) hd (kk p e s m args below meth c D cy H locs LS cells slots F L Rp S hb hz e1 e2)
theorem g_lald {a : Nat} {i : Int32} (hd : decode M.2.1 pc = .ok (.laload, 1)) (hk : hK h a = 15) (hi : inb i (hN h a) = true) (kk : GW l d t0 s0 mc ms b M r (pc + 1) ls (.long (hJ h a i.toNatClampNeg) :: st) h) : GW l d t0 s0 mc ms b M r pc ls (.int i :: .ref a :: st) h := by
  intro p e s m args below meth c D cy H locs LS cells slots F L Rp S hb hz e1 e2
  have ha : a < hTop h := Rp.2 a (by rw [hk]; decide)
  exact va_lald F.1 F.2.1 F.2.2.2.2.2.2.1 Rp.1 a 2 (by rw [wl_get ha, cE_lon hk]) rfl (inb_in hi) hd (kk p e s m args below meth c D cy H locs LS cells slots F L Rp S hb hz e1 e2)
theorem g_iast {a : Nat} {i : Int32} {v : Int32} (hd : decode M.2.1 pc = .ok (.iastore, 1)) (hk : hK h a = 14) (hi : inb i (hN h a) = true) (kk : GW l d t0 s0 mc ms b M r (pc + 1) ls st (stI h a i.toNatClampNeg (v))) : GW l d t0 s0 mc ms b M r pc ls (.int v :: .int i :: .ref a :: st) h := by
  intro p e s m args below meth c D cy H locs LS cells slots F L Rp S hb hz e1 e2
  have ha : a < hTop h := Rp.2 a (by rw [hk]; decide)
  have hw : (wl cy b h).set a (b + a, .inl (cy 14, hN h a, .inl (upd (hI h a) i.toNatClampNeg (v)))) = wl cy b (stI h a i.toNatClampNeg (v)) := by
    refine wl_set rfl ha ?_ (oth_stI (h := h))
    rw [cE_arr (h := stI h a i.toNatClampNeg (v)) hk (by decide) (by decide)]
    show (Sum.inl (_, _, Sum.inl (va_up h.2.1 a (upd (h.2.1 a) i.toNatClampNeg (v)) a)) : va_E) = _
    rw [up_s]
    rfl
  exact va_iast F.1 F.2.1 F.2.2.2.2.2.2.1 Rp.1 wl_D S a 1 (by rw [wl_get ha, cE_arr hk (by decide) (by decide)]) rfl (inb_in hi) hd (fun H1 locs1 hP hD hS => kk p e s m args below meth c D cy H1 locs1 LS cells slots F L ⟨by rw [← hw]; exact hP, Rp.2⟩ hS hb hz e1 e2)
theorem g_sast {a : Nat} {i : Int32} {v : Int32} (hd : decode M.2.1 pc = .ok (.sastore, 1)) (hk : hK h a = 16) (hi : inb i (hN h a) = true) (kk : GW l d t0 s0 mc ms b M r (pc + 1) ls st (stI h a i.toNatClampNeg (v.toInt16.toInt32))) : GW l d t0 s0 mc ms b M r pc ls (.int v :: .int i :: .ref a :: st) h := by
  intro p e s m args below meth c D cy H locs LS cells slots F L Rp S hb hz e1 e2
  have ha : a < hTop h := Rp.2 a (by rw [hk]; decide)
  have hw : (wl cy b h).set a (b + a, .inl (cy 16, hN h a, .inl (upd (hI h a) i.toNatClampNeg (v.toInt16.toInt32)))) = wl cy b (stI h a i.toNatClampNeg (v.toInt16.toInt32)) := by
    refine wl_set rfl ha ?_ (oth_stI (h := h))
    rw [cE_arr (h := stI h a i.toNatClampNeg (v.toInt16.toInt32)) hk (by decide) (by decide)]
    show (Sum.inl (_, _, Sum.inl (va_up h.2.1 a (upd (h.2.1 a) i.toNatClampNeg (v.toInt16.toInt32)) a)) : va_E) = _
    rw [up_s]
    rfl
  exact va_sast F.1 F.2.1 F.2.2.2.2.2.2.1 Rp.1 wl_D S a 3 (by rw [wl_get ha, cE_arr hk (by decide) (by decide)]) rfl (inb_in hi) hd (fun H1 locs1 hP hD hS => kk p e s m args below meth c D cy H1 locs1 LS cells slots F L ⟨by rw [← hw]; exact hP, Rp.2⟩ hS hb hz e1 e2)
theorem g_bast {a : Nat} {i : Int32} {v : Int32} (hd : decode M.2.1 pc = .ok (.bastore, 1)) (hk : hK h a = 13) (hi : inb i (hN h a) = true) (kk : GW l d t0 s0 mc ms b M r (pc + 1) ls st (stI h a i.toNatClampNeg (v.toInt8.toInt32))) : GW l d t0 s0 mc ms b M r pc ls (.int v :: .int i :: .ref a :: st) h := by
  intro p e s m args below meth c D cy H locs LS cells slots F L Rp S hb hz e1 e2
  have ha : a < hTop h := Rp.2 a (by rw [hk]; decide)
  have hw : (wl cy b h).set a (b + a, .inl (cy 13, hN h a, .inl (upd (hI h a) i.toNatClampNeg (v.toInt8.toInt32)))) = wl cy b (stI h a i.toNatClampNeg (v.toInt8.toInt32)) := by
    refine wl_set rfl ha ?_ (oth_stI (h := h))
    rw [cE_arr (h := stI h a i.toNatClampNeg (v.toInt8.toInt32)) hk (by decide) (by decide)]
    show (Sum.inl (_, _, Sum.inl (va_up h.2.1 a (upd (h.2.1 a) i.toNatClampNeg (v.toInt8.toInt32)) a)) : va_E) = _
    rw [up_s]
    rfl
  exact va_bast F.1 F.2.1 F.2.2.2.2.2.2.1 Rp.1 wl_D S a 0 (by rw [wl_get ha, cE_arr hk (by decide) (by decide)]) rfl (inb_in hi) hd (fun H1 locs1 hP hD hS => kk p e s m args below meth c D cy H1 locs1 LS cells slots F L ⟨by rw [← hw]; exact hP, Rp.2⟩ hS hb hz e1 e2)
theorem g_zast {a : Nat} {i : Int32} {v : Int32} (hd : decode M.2.1 pc = .ok (.bastore, 1)) (hk : hK h a = 17) (hi : inb i (hN h a) = true) (kk : GW l d t0 s0 mc ms b M r (pc + 1) ls st (stI h a i.toNatClampNeg (v &&& 1))) : GW l d t0 s0 mc ms b M r pc ls (.int v :: .int i :: .ref a :: st) h := by
  intro p e s m args below meth c D cy H locs LS cells slots F L Rp S hb hz e1 e2
  have ha : a < hTop h := Rp.2 a (by rw [hk]; decide)
  have hw : (wl cy b h).set a (b + a, .inl (cy 17, hN h a, .inl (upd (hI h a) i.toNatClampNeg (v &&& 1)))) = wl cy b (stI h a i.toNatClampNeg (v &&& 1)) := by
    refine wl_set rfl ha ?_ (oth_stI (h := h))
    rw [cE_arr (h := stI h a i.toNatClampNeg (v &&& 1)) hk (by decide) (by decide)]
    show (Sum.inl (_, _, Sum.inl (va_up h.2.1 a (upd (h.2.1 a) i.toNatClampNeg (v &&& 1)) a)) : va_E) = _
    rw [up_s]
    rfl
  exact va_zast F.1 F.2.1 F.2.2.2.2.2.2.1 Rp.1 wl_D S a 4 (by rw [wl_get ha, cE_arr hk (by decide) (by decide)]) rfl (inb_in hi) hd (fun H1 locs1 hP hD hS => kk p e s m args below meth c D cy H1 locs1 LS cells slots F L ⟨by rw [← hw]; exact hP, Rp.2⟩ hS hb hz e1 e2)
theorem g_last {a : Nat} {i : Int32} {v : Int64} (hd : decode M.2.1 pc = .ok (.lastore, 1)) (hk : hK h a = 15) (hi : inb i (hN h a) = true) (kk : GW l d t0 s0 mc ms b M r (pc + 1) ls st (stJ h a i.toNatClampNeg v)) : GW l d t0 s0 mc ms b M r pc ls (.long v :: .int i :: .ref a :: st) h := by
  intro p e s m args below meth c D cy H locs LS cells slots F L Rp S hb hz e1 e2
  have ha : a < hTop h := Rp.2 a (by rw [hk]; decide)
  have hw : (wl cy b h).set a (b + a, .inl (cy 15, hN h a, .inr (.inl (vp_updL (hJ h a) i.toNatClampNeg v)))) = wl cy b (stJ h a i.toNatClampNeg v) := by
    refine wl_set rfl ha ?_ (oth_stJ (h := h))
    rw [cE_lon (h := stJ h a i.toNatClampNeg v) hk]
    show (Sum.inl (_, _, Sum.inr (Sum.inl (va_up h.2.2.1 a (vp_updL (h.2.2.1 a) i.toNatClampNeg v) a))) : va_E) = _
    rw [up_s]
    rfl
  exact va_last F.1 F.2.1 F.2.2.2.2.2.2.1 Rp.1 wl_D S a 2 (by rw [wl_get ha, cE_lon hk]) rfl (inb_in hi) hd (fun H1 locs1 hP hD hS => kk p e s m args below meth c D cy H1 locs1 LS cells slots F L ⟨by rw [← hw]; exact hP, Rp.2⟩ hS hb hz e1 e2)
theorem g_alen {a : Nat} (hd : decode M.2.1 pc = .ok (.arraylength, 1)) (hk : 13 ≤ hK h a) (hk2 : hK h a < 18) (kk : GW l d t0 s0 mc ms b M r (pc + 1) ls (.int (Int32.ofNat (hN h a)) :: st) h) : GW l d t0 s0 mc ms b M r pc ls (.ref a :: st) h := by
  intro p e s m args below meth c D cy H locs LS cells slots F L Rp S hb hz e1 e2
  have ha : a < hTop h := Rp.2 a hk2
  by_cases hj : hK h a = 15
  · exact va_alen (x := (hN h a, .inr (.inl (hJ h a)))) F.1 F.2.1 F.2.2.2.2.2.2.1 Rp.1 a 2 (by rw [wl_get ha, cE_lon hj]) rfl rfl hd (kk p e s m args below meth c D cy H locs LS cells slots F L Rp S hb hz e1 e2)
  · rcases (show hK h a = 13 ∨ hK h a = 14 ∨ hK h a = 16 ∨ hK h a = 17 by omega) with q | q | q | q
    · exact va_alen (x := (hN h a, .inl (hI h a))) F.1 F.2.1 F.2.2.2.2.2.2.1 Rp.1 a 0 (by rw [wl_get ha, cE_arr q (by decide) (by decide)]) rfl rfl hd (kk p e s m args below meth c D cy H locs LS cells slots F L Rp S hb hz e1 e2)
    · exact va_alen (x := (hN h a, .inl (hI h a))) F.1 F.2.1 F.2.2.2.2.2.2.1 Rp.1 a 1 (by rw [wl_get ha, cE_arr q (by decide) (by decide)]) rfl rfl hd (kk p e s m args below meth c D cy H locs LS cells slots F L Rp S hb hz e1 e2)
    · exact va_alen (x := (hN h a, .inl (hI h a))) F.1 F.2.1 F.2.2.2.2.2.2.1 Rp.1 a 3 (by rw [wl_get ha, cE_arr q (by decide) (by decide)]) rfl rfl hd (kk p e s m args below meth c D cy H locs LS cells slots F L Rp S hb hz e1 e2)
    · exact va_alen (x := (hN h a, .inl (hI h a))) F.1 F.2.1 F.2.2.2.2.2.2.1 Rp.1 a 4 (by rw [wl_get ha, cE_arr q (by decide) (by decide)]) rfl rfl hd (kk p e s m args below meth c D cy H locs LS cells slots F L Rp S hb hz e1 e2)
theorem g_copy {idx a a0 : Nat} {n dp sp : Int32} (hd : decode M.2.1 pc = .ok (.invokestatic idx, 3)) (hq : Cond.methodLink (cnm M.2.2.2.2) idx arraycopyName ∈ gtbl) (hk : hK h a = 14) (hk0 : hK h a0 = 14) (h1 : ¬ sp < 0) (h2 : ¬ dp < 0) (h3 : ¬ n < 0) (h4 : sp.toNatClampNeg + n.toNatClampNeg ≤ hN h a0) (h5 : dp.toNatClampNeg + n.toNatClampNeg ≤ hN h a) (hw8 : w8 st = true) (hd1 : 1 ≤ d)
    (kk : GW l d t0 s0 mc ms b M r (pc + 3) ls st (stA h a (va_cpy (hI h a0) (hI h a) sp.toNatClampNeg dp.toNatClampNeg n.toNatClampNeg))) : GW l d t0 s0 mc ms b M r pc ls (.int n :: .int dp :: .ref a :: .int sp :: .ref a0 :: st) h := by
  intro p e s m args below meth c D cy H locs LS cells slots F L Rp S hb hz e1 e2
  have ha : a < hTop h := Rp.2 a (by rw [hk]; decide)
  have ha0 : a0 < hTop h := Rp.2 a0 (by rw [hk0]; decide)
  have hw : (wl cy b h).set a (b + a, .inl (cy 14, hN h a, .inl (va_cpy (hI h a0) (hI h a) sp.toNatClampNeg dp.toNatClampNeg n.toNatClampNeg))) = wl cy b (stA h a (va_cpy (hI h a0) (hI h a) sp.toNatClampNeg dp.toNatClampNeg n.toNatClampNeg)) := by
    refine wl_set rfl ha ?_ (oth_stA (h := h))
    rw [cE_arr (h := stA h a (va_cpy (hI h a0) (hI h a) sp.toNatClampNeg dp.toNatClampNeg n.toNatClampNeg)) hk (by decide) (by decide)]
    show (Sum.inl (_, _, Sum.inl (va_up h.2.1 a _ a)) : va_E) = _
    rw [up_s]
    rfl
  have hsum : ((st.map (mv b)).map fun v => v.category).sum ≤ 8 := by
    rw [List.map_map, show ((fun v : Value => v.category) ∘ mv b) = (fun v : Value => v.category) from funext (mv_cat b)]
    exact of_decide_eq_true hw8
  have hnw : nativeFrameWords "java/lang/System" "arraycopy" 5 + 11 + 8 ≤ 42 := by decide +kernel
  exact va_copyi F.1 F.2.1 (F.2.2.2.1.trans L.1.symm) F.2.2.2.2.1 (F.2.2.2.2.2.1 _ hq) (F.2.2.2.2.2.1 _ acN) (F.2.2.2.2.2.1 _ acS) (F.2.2.2.2.2.1 _ acI) F.2.2.2.2.2.2.1 Rp.1 wl_D S a0 a 1 1
    (by rw [wl_get ha0, cE_arr hk0 (by decide) (by decide)]) (by rw [wl_get ha, cE_arr hk (by decide) (by decide)]) rfl rfl rfl h1 h2 h3 h4 h5 (fun _ _ => rfl) hd1
    (by show _ ≤ 42 * d; omega) hd
    (fun H1 locs1 hP hD hS => kk p e s m args below meth c D cy H1 locs1 LS cells slots F L ⟨by rw [← hw]; exact hP, Rp.2⟩ hS hb hz e1 e2)
theorem g_obj {idx a : Nat} (hd : decode M.2.1 pc = .ok (.invokespecial idx, 3)) (hq : Cond.methodLink (cnm M.2.2.2.2) idx objectInit ∈ gtbl) (hw8 : w8 st = true) (hd1 : 1 ≤ d) (kk : GW l d t0 s0 mc ms b M r (pc + 3) ls st h) : GW l d t0 s0 mc ms b M r pc ls (.ref a :: st) h := by
  intro p e s m args below meth c D cy H locs LS cells slots F L Rp S hb hz e1 e2
  have hsum : ((st.map (mv b)).map fun v => v.category).sum ≤ 8 := by
    rw [List.map_map, show ((fun v : Value => v.category) ∘ mv b) = (fun v : Value => v.category) from funext (mv_cat b)]
    exact of_decide_eq_true hw8
  refine W.objInit F.1 F.2.1 F.2.2.2.2.1 (F.2.2.2.2.2.1 _ hq) (F.2.2.2.2.2.1 _ oiI) (F.2.2.2.2.2.1 _ oiC) rfl (L.1.trans F.2.2.2.1.symm) rfl hd hd1 ?_ (kk p e s m args below meth c D cy H locs LS cells slots F L Rp S hb hz e1 e2)
  show 2 * (F0 m pc LS _).monitorRoom + _ + 12 ≤ 42 * d
  have hm : (F0 m pc LS ((Value.ref a :: st).map (mv b))).monitorRoom = 0 := rfl
  rw [hm]
  omega
theorem g_iret {v : Int32} (hd : decode M.2.1 pc = .ok (.ireturn, 1)) (hr : M.2.2.2.1 = some .int) (hm : hTop h = t0 + mc) (hs : hSl h = s0 + ms) : GW l d t0 s0 mc ms b M (some (.int v), h) pc ls [.int v] h := by
  intro p e s m args below meth c D cy H locs LS cells slots F L Rp S hb hz e1 e2
  obtain rfl : cells = mc := by omega
  obtain rfl : slots = ms := by omega
  exact W.iret F.1 F.2.1 (F.2.2.1.trans hr) (fun t ht hW => ⟨rfl, by rw [ht]; exact Rp, S.F ht⟩) S.2.2 hd F.2.2.2.2.2.2.2.1
theorem g_zret {v : Int32} (hd : decode M.2.1 pc = .ok (.ireturn, 1)) (hr : M.2.2.2.1 = some .boolean) (hv : fits .boolean (.int v) = true) (hm : hTop h = t0 + mc) (hs : hSl h = s0 + ms) : GW l d t0 s0 mc ms b M (some (.int v), h) pc ls [.int v] h := by
  intro p e s m args below meth c D cy H locs LS cells slots F L Rp S hb hz e1 e2
  obtain rfl : cells = mc := by omega
  obtain rfl : slots = ms := by omega
  exact W.zret F.1 F.2.1 (F.2.2.1.trans hr) (nar_of_fits hv rfl (Or.inr rfl)) (fun t ht hW => ⟨rfl, by rw [ht]; exact Rp, S.F ht⟩) S.2.2 hd F.2.2.2.2.2.2.2.1
theorem g_lret {v : Int64} (hd : decode M.2.1 pc = .ok (.lreturn, 1)) (hr : M.2.2.2.1 = some .long) (hm : hTop h = t0 + mc) (hs : hSl h = s0 + ms) : GW l d t0 s0 mc ms b M (some (.long v), h) pc ls [.long v] h := by
  intro p e s m args below meth c D cy H locs LS cells slots F L Rp S hb hz e1 e2
  obtain rfl : cells = mc := by omega
  obtain rfl : slots = ms := by omega
  exact W.lret F.1 F.2.1 (F.2.2.1.trans hr) (fun t ht hW => ⟨rfl, by rw [ht]; exact Rp, S.F ht⟩) S.2.2 hd F.2.2.2.2.2.2.2.1
theorem g_aret {v : Option Nat} (hd : decode M.2.1 pc = .ok (.areturn, 1)) (hr : M.2.2.2.1 = some (.array .int)) (hm : hTop h = t0 + mc) (hs : hSl h = s0 + ms) : GW l d t0 s0 mc ms b M (some (va_rf v), h) pc ls [va_rf v] h := by
  intro p e s m args below meth c D cy H locs LS cells slots F L Rp S hb hz e1 e2
  obtain rfl : cells = mc := by omega
  obtain rfl : slots = ms := by omega
  exact W.aret F.1 F.2.1 (F.2.2.1.trans hr) (Or.inr ⟨_, rfl⟩) (by cases v; exact Or.inl rfl; exact Or.inr ⟨_, rfl⟩) (fun t ht hW => ⟨rfl, by rw [ht]; exact Rp, S.F ht⟩) S.2.2 hd F.2.2.2.2.2.2.2.1
theorem g_vret (hd : decode M.2.1 pc = .ok (.return_, 1)) (hr : M.2.2.2.1 = none) (hm : hTop h = t0 + mc) (hs : hSl h = s0 + ms) : GW l d t0 s0 mc ms b M (none, h) pc ls [] h := by
  intro p e s m args below meth c D cy H locs LS cells slots F L Rp S hb hz e1 e2
  obtain rfl : cells = mc := by omega
  obtain rfl : slots = ms := by omega
  exact W.vret F.1 F.2.1 (F.2.2.1.trans hr) (fun t ht hW => ⟨rfl, by rw [ht]; exact Rp, S.F ht⟩) S.2.2 hd F.2.2.2.2.2.2.2.1
end GWM

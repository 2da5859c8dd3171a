-- THE PURE MACHINE IS SOUND, 1: the heap behind a pure heap, the locals, one row an instruction
def mv (b : Nat) : Value → Value
  | .ref a => .ref (b + a)
  | v => v
theorem mv_cat (b : Nat) (v : Value) : (mv b v).category = v.category := by cases v <;> rfl
theorem mv_rf (b : Nat) (x : Option Nat) : mv b (va_rf x) = va_rf (x.map (b + ·)) := by cases x <;> rfl
def cellE (cy : Nat → ClassId) (b : Nat) (h : Hp) (a : Nat) : va_E :=
  if hK h a < 13 then .inr (hK h a, (List.range (NN (hK h a))).map (fun k => mv b (fP h a (hK h a) k)))
  else if hK h a = 15 then .inl (cy 15, hN h a, .inr (.inl (hJ h a)))
  else .inl (cy (hK h a), hN h a, .inl (hI h a))
def wl (cy : Nat → ClassId) (b : Nat) (h : Hp) : va_W := (List.range (hTop h)).map (fun a => (b + a, cellE cy b h a))
def tysL (cy : Nat → ClassId) : List (ClassId × FieldType) := [(cy 13, .byte), (cy 14, .int), (cy 15, .long), (cy 16, .short), (cy 17, .boolean)]
def Rep (D : va_G) (cy : Nat → ClassId) (b : Nat) (h : Hp) (H : Heap) : Prop := va_P D vwCl (wl cy b h) H ∧ ∀ a, hK h a < 18 → a < hTop h
theorem wl_get {cy : Nat → ClassId} {b : Nat} {h : Hp} {a : Nat} (ha : a < hTop h) : (wl cy b h)[a]? = some (b + a, cellE cy b h a) := by
  unfold wl
  rw [List.getElem?_map, List.getElem?_range ha]
  rfl
theorem wl_at {cy : Nat → ClassId} {b : Nat} {h : Hp} {k : Nat} {q : Nat × va_E} (hq : (wl cy b h)[k]? = some q) : k < hTop h ∧ q = (b + k, cellE cy b h k) := by
  have hl : k < hTop h := by
    have := (List.getElem?_eq_some_iff.mp hq).1
    unfold wl at this
    simpa using this
  rw [wl_get hl] at hq
  exact ⟨hl, (Option.some.inj hq).symm⟩
theorem wl_D {cy : Nat → ClassId} {b : Nat} {h : Hp} : va_D (fun q => b ≤ q) (wl cy b h) := by
  refine ⟨fun i j p q hi hj he => ?_, fun k q hq => ?_⟩
  · obtain ⟨-, rfl⟩ := wl_at hi
    obtain ⟨-, rfl⟩ := wl_at hj
    have : b + i = b + j := he
    omega
  · obtain ⟨-, rfl⟩ := wl_at hq
    exact Nat.le_add_right b k
theorem wl_set {cy : Nat → ClassId} {b : Nat} {h h' : Hp} {a : Nat} {e : va_E} (ht : hTop h' = hTop h) (ha : a < hTop h) (he : cellE cy b h' a = e) (ho : ∀ x, x ≠ a → cellE cy b h' x = cellE cy b h x) : (wl cy b h).set a (b + a, e) = wl cy b h' := by
  refine List.ext_getElem? fun k => ?_
  by_cases hk : k < hTop h
  · rw [wl_get (h := h') (by rw [ht]; exact hk)]
    by_cases hka : a = k
    · subst hka
      rw [List.getElem?_set_self (by unfold wl; simpa using hk), he]
    · rw [List.getElem?_set_ne hka, wl_get hk, ho k (fun q => hka q.symm)]
  · have h1 : (wl cy b h').length ≤ k := by unfold wl; simp; omega
    have h2 : ((wl cy b h).set a (b + a, e)).length ≤ k := by unfold wl; simp; omega
    rw [List.getElem?_eq_none h1, List.getElem?_eq_none h2]
theorem wl_push {cy : Nat → ClassId} {b : Nat} {h h' : Hp} {e : va_E} (ht : hTop h' = hTop h + 1) (he : cellE cy b h' (hTop h) = e) (ho : ∀ x, x < hTop h → cellE cy b h' x = cellE cy b h x) : wl cy b h ++ [(b + hTop h, e)] = wl cy b h' := by
  unfold wl
  rw [ht, List.range_succ, List.map_append, List.map_cons, List.map_nil, he]
  congr 1
  refine List.map_congr_left fun x hx => ?_
  rw [ho x (List.mem_range.mp hx)]
theorem cE_obj {cy : Nat → ClassId} {b : Nat} {h : Hp} {a ci : Nat} (hk : hK h a = ci) (hc : ci < 13) : cellE cy b h a = .inr (ci, (List.range (NN ci)).map (fun k => mv b (fP h a ci k))) := by
  subst hk
  unfold cellE
  rw [if_pos hc]
theorem cE_arr {cy : Nat → ClassId} {b : Nat} {h : Hp} {a ci : Nat} (hk : hK h a = ci) (hc : ¬ ci < 13) (hj : ¬ ci = 15) : cellE cy b h a = .inl (cy ci, hN h a, .inl (hI h a)) := by
  subst hk
  unfold cellE
  rw [if_neg hc, if_neg hj]
theorem cE_lon {cy : Nat → ClassId} {b : Nat} {h : Hp} {a : Nat} (hk : hK h a = 15) : cellE cy b h a = .inl (cy 15, hN h a, .inr (.inl (hJ h a))) := by
  unfold cellE
  rw [hk, if_neg (by decide), if_pos rfl]
theorem cE_same {cy : Nat → ClassId} {b : Nat} {h h' : Hp} {a : Nat} (h1 : hK h' a = hK h a) (h2 : hN h' a = hN h a) (h3 : hI h' a = hI h a) (h4 : hJ h' a = hJ h a) (h5 : hF h' a = hF h a) (h6 : hR h' a = hR h a) : cellE cy b h' a = cellE cy b h a := by
  unfold cellE fP
  rw [h1, h2, h3, h4, h5, h6]
theorem rng_set {n k : Nat} {f g : Nat → Value} {v : Value} (hk : g k = v) (ho : ∀ j, j ≠ k → g j = f j) : ((List.range n).map f).set k v = (List.range n).map g := by
  refine List.ext_getElem? fun j => ?_
  by_cases hj : j < n
  · rw [List.getElem?_map, List.getElem?_range hj]
    by_cases hkj : k = j
    · subst hkj
      rw [List.getElem?_set_self (by simpa using hj), ← hk]
      rfl
    · rw [List.getElem?_set_ne hkj, List.getElem?_map, List.getElem?_range hj]
      show some (f j) = some (g j)
      rw [ho j (fun q => hkj q.symm)]
  · rw [List.getElem?_eq_none (by simp; omega), List.getElem?_eq_none (by simp; omega)]
theorem up_s {α : Type} (f : Nat → α) (k : Nat) (v : α) : va_up f k v k = v := by simp [va_up]
theorem up_n {α : Type} {f : Nat → α} {k j : Nat} {v : α} (h : j ≠ k) : va_up f k v j = f j := by simp [va_up, h]
-- the locals
def LR (b nL : Nat) (LS : Array Slot) (ls : Lc) : Prop := LS.size = nL ∧ lv_wf LS ∧ ls.length = nL ∧ ∀ (i : Nat) (v : Value), ls[i]? = some (some v) → LS[i]? = some (.val (mv b v))
def lvl (b : Nat) (ls : Lc) : List (Nat × Value) := (List.range ls.length).filterMap (fun i => (ls.getD i none).map (fun v => (i, mv b v)))
theorem lvl_mem {b : Nat} {ls : Lc} {i : Nat} {v : Value} (h : ls[i]? = some (some v)) : (i, mv b v) ∈ lvl b ls := by
  have hi : i < ls.length := (List.getElem?_eq_some_iff.mp h).1
  refine List.mem_filterMap.mpr ⟨i, List.mem_range.mpr hi, ?_⟩
  rw [List.getD_eq_getElem?_getD, h]
  rfl
theorem LR_has {b nL : Nat} {LS : Array Slot} {ls : Lc} (h : LR b nL LS ls) : lv_has LS nL (lvl b ls) := by
  refine ⟨h.1, h.2.1, fun q hq => ?_⟩
  obtain ⟨i, hi, he⟩ := List.mem_filterMap.mp hq
  cases hv : ls.getD i none with
  | none => rw [hv] at he; cases he
  | some v =>
    rw [hv] at he
    cases he
    refine h.2.2.2 i v ?_
    rw [List.getD_eq_getElem?_getD] at hv
    cases hx : ls[i]? with
    | none => rw [hx] at hv; cases hv
    | some w => rw [hx] at hv; exact congrArg some hv
theorem clr_sub {o : Option Value} {v : Value} (h : clr o = some v) : o = some v ∧ v.category ≠ 2 := by
  cases o with
  | none => cases h
  | some w => cases w <;> simp [clr] at h <;> subst h <;> simp [Value.category]
theorem getD_some {ls : Lc} {j : Nat} {v : Value} (h : ls.getD j none = some v) : ls[j]? = some (some v) := by
  rw [List.getD_eq_getElem?_getD] at h
  cases hx : ls[j]? with
  | none => rw [hx] at h; cases h
  | some w => rw [hx] at h; exact congrArg some h
theorem set_some {ls : Lc} {i j : Nat} {o : Option Value} {w : Value} (h : (ls.set i o)[j]? = some (some w)) : (j = i ∧ o = some w) ∨ (j ≠ i ∧ ls[j]? = some (some w)) := by
  by_cases hj : i = j
  · subst hj
    have hl : i < (ls.set i o).length := (List.getElem?_eq_some_iff.mp h).1
    rw [List.getElem?_set_self (by simpa using hl)] at h
    exact Or.inl ⟨rfl, Option.some.inj h⟩
  · rw [List.getElem?_set_ne hj] at h
    exact Or.inr ⟨fun q => hj q.symm, h⟩
theorem LR_set1 {b nL : Nat} {LS LS' : Array Slot} {ls : Lc} {i : Nat} {v : Value} (h : LR b nL LS ls) (h' : lv_has LS' nL ((i, mv b v) :: (lvl b ls).filter (fun q => !(q.1 == i) && !(q.1 + 1 == i && q.2.category == 2)))) : LR b nL LS' (lset1 ls i v) := by
  have hin : ∀ (j : Nat) (w : Value), j ≠ i → ls[j]? = some (some w) → ¬ (j + 1 = i ∧ w.category = 2) → LS'[j]? = some (.val (mv b w)) := by
    intro j w hj hw hn
    refine h'.2.2 (j, mv b w) (List.mem_cons_of_mem _ (List.mem_filter.mpr ⟨lvl_mem hw, ?_⟩))
    simp only [mv_cat]
    rcases Nat.decEq (j + 1) i with q | q
    · simp [hj, q]
    · rcases lv_cat w with c | c
      · simp [hj, c]
      · exact absurd ⟨q, c⟩ hn
  have hself : LS'[i]? = some (.val (mv b v)) := h'.2.2 (i, mv b v) List.mem_cons_self
  refine ⟨h'.1, h'.2.1, by unfold lset1; split <;> simp [h.2.2.1], fun j w hw => ?_⟩
  unfold lset1 at hw
  split at hw
  · rcases set_some hw with ⟨rfl, e⟩ | ⟨hj, e⟩
    · cases e; exact hself
    · exact hin j w hj e (by omega)
  · next j0 =>
    rcases set_some hw with ⟨rfl, e⟩ | ⟨hj, e⟩
    · cases e; exact hself
    · rcases set_some e with ⟨rfl, e2⟩ | ⟨hj2, e2⟩
      · obtain ⟨e3, hc⟩ := clr_sub e2
        exact hin j w hj (getD_some e3) (fun q => hc q.2)
      · exact hin j w hj e2 (by omega)
theorem LR_set2 {b nL : Nat} {LS LS' : Array Slot} {ls : Lc} {i : Nat} {v : Value} (h : LR b nL LS ls) (h' : lv_has LS' nL ((i, mv b v) :: (lvl b ls).filter (fun q => !(q.1 == i) && (!(q.1 == i + 1) && !(q.1 + 1 == i && q.2.category == 2))))) : LR b nL LS' (lset2 ls i v) := by
  have hin : ∀ (j : Nat) (w : Value), j ≠ i → j ≠ i + 1 → ls[j]? = some (some w) → ¬ (j + 1 = i ∧ w.category = 2) → LS'[j]? = some (.val (mv b w)) := by
    intro j w hj hj1 hw hn
    refine h'.2.2 (j, mv b w) (List.mem_cons_of_mem _ (List.mem_filter.mpr ⟨lvl_mem hw, ?_⟩))
    simp only [mv_cat]
    rcases Nat.decEq (j + 1) i with q | q
    · simp [hj, hj1, q]
    · rcases lv_cat w with c | c
      · simp [hj, hj1, c]
      · exact absurd ⟨q, c⟩ hn
  have hself : LS'[i]? = some (.val (mv b v)) := h'.2.2 (i, mv b v) List.mem_cons_self
  refine ⟨h'.1, h'.2.1, by unfold lset2; split <;> simp [h.2.2.1], fun j w hw => ?_⟩
  unfold lset2 at hw
  split at hw
  · rcases set_some hw with ⟨-, e⟩ | ⟨hj1, e⟩
    · cases e
    · rcases set_some e with ⟨rfl, e2⟩ | ⟨hj, e2⟩
      · cases e2; exact hself
      · exact hin j w hj hj1 e2 (by omega)
  · next j0 =>
    rcases set_some hw with ⟨-, e⟩ | ⟨hj1, e⟩
    · cases e
    · rcases set_some e with ⟨rfl, e2⟩ | ⟨hj, e2⟩
      · cases e2; exact hself
      · rcases set_some e2 with ⟨rfl, e3⟩ | ⟨hj2, e3⟩
        · obtain ⟨e4, hc⟩ := clr_sub e3
          exact hin j w hj hj1 (getD_some e4) (fun q => hc q.2)
        · exact hin j w hj hj1 e3 (by omega)
-- a method's frame
def Fx (p : Program) (s : State) (m : MethodId) (args : Array Value) (meth : Method) (c : Code) (M : Mth) (D : va_G) (cy : Nat → ClassId) : Prop :=
  p.tables.exec = Jvm.exec ∧ c.code = M.2.1 ∧ meth.sig.returnType = M.2.2.2.1 ∧ c.maxLocals = M.2.2.1 ∧ s.vm.findClass (cnm M.2.2.2.2) = some m.cls ∧ (∀ w ∈ gtbl, w.before args s = true) ∧ va_K D vwCl (tysL cy) s ∧ meth.locks = false ∧ (∀ x ∈ nwF, va_Nw (nwFw x) s) ∧ (∀ x ∈ nwM, va_Nw (nwMw x) s) ∧ meth.name = M.1.name
def rmm (d mc ms : Nat) : Room := { frames := d, cells := mc, slots := ms, locals := 42 * d }
def QcM (D : va_G) (cy : Nat → ClassId) (b : Nat) (r : Rs) : Array Value → State → Outcome → State → Prop := fun _ st oc t => oc = .returned (r.1.map (mv b)) ∧ Rep D cy b r.2 t.heap ∧ va_F (fun q => b ≤ q) st t
/-- U is a late state of a run whose law began at s0: the tables' words and what the Statement gives held there; what lies below b is as it was -/
def KP (b : Nat) (U : State) : Prop := ∃ (s0 : State) (a0 : Nat), s0.heap.size = b ∧ (∀ w ∈ tables_1, w.before #[Value.ref a0] s0 = true) ∧ (Cond.and given_1 narrow_1).before #[Value.ref a0] s0 = true ∧ s0.WarmedH U.vm ∧ ∀ q : Nat, q < b → U.heap[q]? = s0.heap[q]?
def bOK (b : Nat) (s : State) : Prop := b ≤ s.heap.size ∧ KP b s
theorem KP.kept {b : Nat} {s U : State} {H : Heap} {locs : List Loc} (k : KP b s) (hb : b ≤ s.heap.size) (S : va_S (fun q => b ≤ q) s.heap H locs) (hU : U.heap = H) (hW : s.WarmedH U.vm) : KP b U := by
  obtain ⟨s0, a0, h1, h2, h3, h4, h5⟩ := k
  exact ⟨s0, a0, h1, h2, h3, State.WarmedH.trans h4 hW, fun q hq => by rw [hU, S.2.1 q (Nat.lt_of_lt_of_le hq hb) (Nat.not_le.mpr hq), h5 q hq]⟩
def GW (l : Launch) (d t0 s0 mc ms b : Nat) (M : Mth) (r : Rs) (pc : Nat) (ls : Lc) (st : List Value) (h : Hp) : Prop :=
  ∀ (p : Program) (e : Env) (s : State) (m : MethodId) (args : Array Value) (below : List Frame) (meth : Method) (c : Code) (D : va_G) (cy : Nat → ClassId) (H : Heap) (locs : List Loc) (LS : Array Slot) (cells slots : Nat),
    Fx p s m args meth c M D cy → LR b M.2.2.1 LS ls → Rep D cy b h H → va_S (fun q => b ≤ q) s.heap H locs → bOK b s → (hAl h = true → s.heap.size = b + t0) → cells + t0 = hTop h → slots + s0 = hSl h →
    W p l e (rmm d mc ms) s m args below meth c H locs cells slots (MQ below (QcM D cy b r) args s mc ms (fun q => b ≤ q)) (F0 m pc LS (st.map (mv b)))
section GWS
variable {l : Launch} {d t0 s0 mc ms b : Nat} {M : Mth} {r : Rs} {pc : Nat} {ls : Lc} {st : List Value} {h : Hp}
theorem g_iconst {n : Int} (hd : decode M.2.1 pc = .ok (.iconst n, 1)) (k : GW l d t0 s0 mc ms b M r (pc + 1) ls (.int (Int32.ofInt n) :: st) h) : GW l d t0 s0 mc ms b M r pc ls (st) h :=
  fun p e s m args below meth c D cy H locs LS cells slots F L Rp S hb hz e1 e2 => lv_iconst F.1 F.2.1 hd rfl (k p e s m args below meth c D cy H locs LS cells slots F L Rp S hb hz e1 e2)
theorem g_bipush {n : Int} (hd : decode M.2.1 pc = .ok (.bipush n, 2)) (k : GW l d t0 s0 mc ms b M r (pc + 2) ls (.int (Int8.ofInt n).toInt32 :: st) h) : GW l d t0 s0 mc ms b M r pc ls (st) h :=
  fun p e s m args below meth c D cy H locs LS cells slots F L Rp S hb hz e1 e2 => lv_bipush F.1 F.2.1 hd rfl (k p e s m args below meth c D cy H locs LS cells slots F L Rp S hb hz e1 e2)
theorem g_sipush {n : Int} (hd : decode M.2.1 pc = .ok (.sipush n, 3)) (k : GW l d t0 s0 mc ms b M r (pc + 3) ls (.int (Int16.ofInt n).toInt32 :: st) h) : GW l d t0 s0 mc ms b M r pc ls (st) h :=
  fun p e s m args below meth c D cy H locs LS cells slots F L Rp S hb hz e1 e2 => lv_sipush F.1 F.2.1 hd rfl (k p e s m args below meth c D cy H locs LS cells slots F L Rp S hb hz e1 e2)
theorem g_lconst {n : Fin 2} (hd : decode M.2.1 pc = .ok (.lconst n, 1)) (k : GW l d t0 s0 mc ms b M r (pc + 1) ls (.long (Int64.ofNat n) :: st) h) : GW l d t0 s0 mc ms b M r pc ls (st) h :=
  fun p e s m args below meth c D cy H locs LS cells slots F L Rp S hb hz e1 e2 => lv_lconst F.1 F.2.1 hd rfl (k p e s m args below meth c D cy H locs LS cells slots F L Rp S hb hz e1 e2)
theorem g_null  (hd : decode M.2.1 pc = .ok (.aconst_null, 1)) (k : GW l d t0 s0 mc ms b M r (pc + 1) ls (.null :: st) h) : GW l d t0 s0 mc ms b M r pc ls (st) h :=
  fun p e s m args below meth c D cy H locs LS cells slots F L Rp S hb hz e1 e2 => lv_null F.1 F.2.1 hd (k p e s m args below meth c D cy H locs LS cells slots F L Rp S hb hz e1 e2)
theorem g_iadd {x y : Int32} (hd : decode M.2.1 pc = .ok (.iadd, 1)) (k : GW l d t0 s0 mc ms b M r (pc + 1) ls (.int (x + y) :: st) h) : GW l d t0 s0 mc ms b M r pc ls (.int y :: .int x :: st) h :=
  fun p e s m args below meth c D cy H locs LS cells slots F L Rp S hb hz e1 e2 => lv_iadd F.1 F.2.1 hd (k p e s m args below meth c D cy H locs LS cells slots F L Rp S hb hz e1 e2)
theorem g_isub {x y : Int32} (hd : decode M.2.1 pc = .ok (.isub, 1)) (k : GW l d t0 s0 mc ms b M r (pc + 1) ls (.int (x - y) :: st) h) : GW l d t0 s0 mc ms b M r pc ls (.int y :: .int x :: st) h :=
  fun p e s m args below meth c D cy H locs LS cells slots F L Rp S hb hz e1 e2 => lv_isub F.1 F.2.1 hd (k p e s m args below meth c D cy H locs LS cells slots F L Rp S hb hz e1 e2)
theorem g_imul {x y : Int32} (hd : decode M.2.1 pc = .ok (.imul, 1)) (k : GW l d t0 s0 mc ms b M r (pc + 1) ls (.int (x * y) :: st) h) : GW l d t0 s0 mc ms b M r pc ls (.int y :: .int x :: st) h :=
  fun p e s m args below meth c D cy H locs LS cells slots F L Rp S hb hz e1 e2 => lv_imul F.1 F.2.1 hd (k p e s m args below meth c D cy H locs LS cells slots F L Rp S hb hz e1 e2)
theorem g_iand {x y : Int32} (hd : decode M.2.1 pc = .ok (.iand, 1)) (k : GW l d t0 s0 mc ms b M r (pc + 1) ls (.int (x &&& y) :: st) h) : GW l d t0 s0 mc ms b M r pc ls (.int y :: .int x :: st) h :=
  fun p e s m args below meth c D cy H locs LS cells slots F L Rp S hb hz e1 e2 => lv_iand F.1 F.2.1 hd (k p e s m args below meth c D cy H locs LS cells slots F L Rp S hb hz e1 e2)
theorem g_ior {x y : Int32} (hd : decode M.2.1 pc = .ok (.ior, 1)) (k : GW l d t0 s0 mc ms b M r (pc + 1) ls (.int (x ||| y) :: st) h) : GW l d t0 s0 mc ms b M r pc ls (.int y :: .int x :: st) h :=
  fun p e s m args below meth c D cy H locs LS cells slots F L Rp S hb hz e1 e2 => lv_ior F.1 F.2.1 hd (k p e s m args below meth c D cy H locs LS cells slots F L Rp S hb hz e1 e2)
theorem g_ixor {x y : Int32} (hd : decode M.2.1 pc = .ok (.ixor, 1)) (k : GW l d t0 s0 mc ms b M r (pc + 1) ls (.int (x ^^^ y) :: st) h) : GW l d t0 s0 mc ms b M r pc ls (.int y :: .int x :: st) h :=
  fun p e s m args below meth c D cy H locs LS cells slots F L Rp S hb hz e1 e2 => lv_ixor F.1 F.2.1 hd (k p e s m args below meth c D cy H locs LS cells slots F L Rp S hb hz e1 e2)
theorem g_ishl {x y : Int32} (hd : decode M.2.1 pc = .ok (.ishl, 1)) (k : GW l d t0 s0 mc ms b M r (pc + 1) ls (.int (x <<< (y &&& 31)) :: st) h) : GW l d t0 s0 mc ms b M r pc ls (.int y :: .int x :: st) h :=
  fun p e s m args below meth c D cy H locs LS cells slots F L Rp S hb hz e1 e2 => lv_ishl F.1 F.2.1 hd (k p e s m args below meth c D cy H locs LS cells slots F L Rp S hb hz e1 e2)
theorem g_ishr {x y : Int32} (hd : decode M.2.1 pc = .ok (.ishr, 1)) (k : GW l d t0 s0 mc ms b M r (pc + 1) ls (.int (x >>> (y &&& 31)) :: st) h) : GW l d t0 s0 mc ms b M r pc ls (.int y :: .int x :: st) h :=
  fun p e s m args below meth c D cy H locs LS cells slots F L Rp S hb hz e1 e2 => lv_ishr F.1 F.2.1 hd (k p e s m args below meth c D cy H locs LS cells slots F L Rp S hb hz e1 e2)
theorem g_iushr {x y : Int32} (hd : decode M.2.1 pc = .ok (.iushr, 1)) (k : GW l d t0 s0 mc ms b M r (pc + 1) ls (.int (x.toUInt32 >>> (y.toUInt32 &&& Int32.toUInt32 31)).toInt32 :: st) h) : GW l d t0 s0 mc ms b M r pc ls (.int y :: .int x :: st) h :=
  fun p e s m args below meth c D cy H locs LS cells slots F L Rp S hb hz e1 e2 => lv_iushr F.1 F.2.1 hd rfl (k p e s m args below meth c D cy H locs LS cells slots F L Rp S hb hz e1 e2)
theorem g_idiv {x y : Int32} (hd : decode M.2.1 pc = .ok (.idiv, 1)) (hne : ¬ y = 0) (k : GW l d t0 s0 mc ms b M r (pc + 1) ls (.int (x / y) :: st) h) : GW l d t0 s0 mc ms b M r pc ls (.int y :: .int x :: st) h :=
  fun p e s m args below meth c D cy H locs LS cells slots F L Rp S hb hz e1 e2 => lv_idiv F.1 F.2.1 hd hne (k p e s m args below meth c D cy H locs LS cells slots F L Rp S hb hz e1 e2)
theorem g_irem {x y : Int32} (hd : decode M.2.1 pc = .ok (.irem, 1)) (hne : ¬ y = 0) (k : GW l d t0 s0 mc ms b M r (pc + 1) ls (.int (x - x / y * y) :: st) h) : GW l d t0 s0 mc ms b M r pc ls (.int y :: .int x :: st) h :=
  fun p e s m args below meth c D cy H locs LS cells slots F L Rp S hb hz e1 e2 => lv_irem F.1 F.2.1 hd hne (k p e s m args below meth c D cy H locs LS cells slots F L Rp S hb hz e1 e2)
theorem g_ineg {x : Int32} (hd : decode M.2.1 pc = .ok (.ineg, 1)) (k : GW l d t0 s0 mc ms b M r (pc + 1) ls (.int (-x) :: st) h) : GW l d t0 s0 mc ms b M r pc ls (.int x :: st) h :=
  fun p e s m args below meth c D cy H locs LS cells slots F L Rp S hb hz e1 e2 => lv_ineg F.1 F.2.1 hd (k p e s m args below meth c D cy H locs LS cells slots F L Rp S hb hz e1 e2)
theorem g_ladd {x y : Int64} (hd : decode M.2.1 pc = .ok (.ladd, 1)) (k : GW l d t0 s0 mc ms b M r (pc + 1) ls (.long (x + y) :: st) h) : GW l d t0 s0 mc ms b M r pc ls (.long y :: .long x :: st) h :=
  fun p e s m args below meth c D cy H locs LS cells slots F L Rp S hb hz e1 e2 => lv_ladd F.1 F.2.1 hd (k p e s m args below meth c D cy H locs LS cells slots F L Rp S hb hz e1 e2)
theorem g_lsub {x y : Int64} (hd : decode M.2.1 pc = .ok (.lsub, 1)) (k : GW l d t0 s0 mc ms b M r (pc + 1) ls (.long (x - y) :: st) h) : GW l d t0 s0 mc ms b M r pc ls (.long y :: .long x :: st) h :=
  fun p e s m args below meth c D cy H locs LS cells slots F L Rp S hb hz e1 e2 => lv_lsub F.1 F.2.1 hd (k p e s m args below meth c D cy H locs LS cells slots F L Rp S hb hz e1 e2)
theorem g_lmul {x y : Int64} (hd : decode M.2.1 pc = .ok (.lmul, 1)) (k : GW l d t0 s0 mc ms b M r (pc + 1) ls (.long (x * y) :: st) h) : GW l d t0 s0 mc ms b M r pc ls (.long y :: .long x :: st) h :=
  fun p e s m args below meth c D cy H locs LS cells slots F L Rp S hb hz e1 e2 => lv_lmul F.1 F.2.1 hd (k p e s m args below meth c D cy H locs LS cells slots F L Rp S hb hz e1 e2)
theorem g_land {x y : Int64} (hd : decode M.2.1 pc = .ok (.land, 1)) (k : GW l d t0 s0 mc ms b M r (pc + 1) ls (.long (x &&& y) :: st) h) : GW l d t0 s0 mc ms b M r pc ls (.long y :: .long x :: st) h :=
  fun p e s m args below meth c D cy H locs LS cells slots F L Rp S hb hz e1 e2 => lv_land F.1 F.2.1 hd (k p e s m args below meth c D cy H locs LS cells slots F L Rp S hb hz e1 e2)
theorem g_ldiv {x y : Int64} (hd : decode M.2.1 pc = .ok (.ldiv, 1)) (hne : ¬ y = 0) (k : GW l d t0 s0 mc ms b M r (pc + 1) ls (.long (x / y) :: st) h) : GW l d t0 s0 mc ms b M r pc ls (.long y :: .long x :: st) h :=
  fun p e s m args below meth c D cy H locs LS cells slots F L Rp S hb hz e1 e2 => lv_ldiv F.1 F.2.1 hd hne (k p e s m args below meth c D cy H locs LS cells slots F L Rp S hb hz e1 e2)
theorem g_lrem {x y : Int64} (hd : decode M.2.1 pc = .ok (.lrem, 1)) (hne : ¬ y = 0) (k : GW l d t0 s0 mc ms b M r (pc + 1) ls (.long (x - x / y * y) :: st) h) : GW l d t0 s0 mc ms b M r pc ls (.long y :: .long x :: st) h :=
  fun p e s m args below meth c D cy H locs LS cells slots F L Rp S hb hz e1 e2 => lv_lrem F.1 F.2.1 hd hne (k p e s m args below meth c D cy H locs LS cells slots F L Rp S hb hz e1 e2)
theorem g_lneg {x : Int64} (hd : decode M.2.1 pc = .ok (.lneg, 1)) (k : GW l d t0 s0 mc ms b M r (pc + 1) ls (.long (-x) :: st) h) : GW l d t0 s0 mc ms b M r pc ls (.long x :: st) h :=
  fun p e s m args below meth c D cy H locs LS cells slots F L Rp S hb hz e1 e2 => lv_lneg F.1 F.2.1 hd (k p e s m args below meth c D cy H locs LS cells slots F L Rp S hb hz e1 e2)
theorem g_lcmp {x y : Int64} (hd : decode M.2.1 pc = .ok (.lcmp, 1)) (k : GW l d t0 s0 mc ms b M r (pc + 1) ls (.int (lg_cmp x y) :: st) h) : GW l d t0 s0 mc ms b M r pc ls (.long y :: .long x :: st) h :=
  fun p e s m args below meth c D cy H locs LS cells slots F L Rp S hb hz e1 e2 => W.lcmp F.1 F.2.1 hd (k p e s m args below meth c D cy H locs LS cells slots F L Rp S hb hz e1 e2)
theorem g_i2l {x : Int32} (hd : decode M.2.1 pc = .ok (.i2l, 1)) (k : GW l d t0 s0 mc ms b M r (pc + 1) ls (.long x.toInt64 :: st) h) : GW l d t0 s0 mc ms b M r pc ls (.int x :: st) h :=
  fun p e s m args below meth c D cy H locs LS cells slots F L Rp S hb hz e1 e2 => lv_i2l F.1 F.2.1 hd rfl (k p e s m args below meth c D cy H locs LS cells slots F L Rp S hb hz e1 e2)
theorem g_l2i {x : Int64} (hd : decode M.2.1 pc = .ok (.l2i, 1)) (k : GW l d t0 s0 mc ms b M r (pc + 1) ls (.int x.toInt32 :: st) h) : GW l d t0 s0 mc ms b M r pc ls (.long x :: st) h :=
  fun p e s m args below meth c D cy H locs LS cells slots F L Rp S hb hz e1 e2 => lv_l2i F.1 F.2.1 hd rfl (k p e s m args below meth c D cy H locs LS cells slots F L Rp S hb hz e1 e2)
theorem g_i2b {x : Int32} (hd : decode M.2.1 pc = .ok (.i2b, 1)) (k : GW l d t0 s0 mc ms b M r (pc + 1) ls (.int x.toInt8.toInt32 :: st) h) : GW l d t0 s0 mc ms b M r pc ls (.int x :: st) h :=
  fun p e s m args below meth c D cy H locs LS cells slots F L Rp S hb hz e1 e2 => lv_i2b F.1 F.2.1 hd rfl (k p e s m args below meth c D cy H locs LS cells slots F L Rp S hb hz e1 e2)
theorem g_i2s {x : Int32} (hd : decode M.2.1 pc = .ok (.i2s, 1)) (k : GW l d t0 s0 mc ms b M r (pc + 1) ls (.int x.toInt16.toInt32 :: st) h) : GW l d t0 s0 mc ms b M r pc ls (.int x :: st) h :=
  fun p e s m args below meth c D cy H locs LS cells slots F L Rp S hb hz e1 e2 => lv_i2s F.1 F.2.1 hd rfl (k p e s m args below meth c D cy H locs LS cells slots F L Rp S hb hz e1 e2)
theorem g_dup {v : Value} (hd : decode M.2.1 pc = .ok (.dup, 1)) (hc : v.category = 1) (k : GW l d t0 s0 mc ms b M r (pc + 1) ls (v :: v :: st) h) : GW l d t0 s0 mc ms b M r pc ls (v :: st) h :=
  fun p e s m args below meth c D cy H locs LS cells slots F L Rp S hb hz e1 e2 => lv_dup F.1 F.2.1 hd (by rw [mv_cat]; exact hc) (k p e s m args below meth c D cy H locs LS cells slots F L Rp S hb hz e1 e2)
theorem g_dup2 {v w : Value} (hd : decode M.2.1 pc = .ok (.dup2, 1)) (hc : v.category = 1) (hc2 : w.category = 1) (k : GW l d t0 s0 mc ms b M r (pc + 1) ls (v :: w :: v :: w :: st) h) : GW l d t0 s0 mc ms b M r pc ls (v :: w :: st) h :=
  fun p e s m args below meth c D cy H locs LS cells slots F L Rp S hb hz e1 e2 => lv_dup2_11 F.1 F.2.1 hd (by rw [mv_cat]; exact hc) (by rw [mv_cat]; exact hc2) (k p e s m args below meth c D cy H locs LS cells slots F L Rp S hb hz e1 e2)
theorem g_ldc {i : Nat} {v : Int32} (hd : decode M.2.1 pc = .ok (.ldc i, 2)) (hw : Cond.constant (cnm M.2.2.2.2) i v ∈ gtbl) (k : GW l d t0 s0 mc ms b M r (pc + 2) ls (.int v :: st) h) : GW l d t0 s0 mc ms b M r pc ls (st) h :=
  fun p e s m args below meth c D cy H locs LS cells slots F L Rp S hb hz e1 e2 => lv_ldc F.1 F.2.1 F.2.2.2.2.1 (F.2.2.2.2.2.1 _ hw) hd (k p e s m args below meth c D cy H locs LS cells slots F L Rp S hb hz e1 e2)
theorem g_ldcw {i : Nat} {v : Int32} (hd : decode M.2.1 pc = .ok (.ldc_w i, 3)) (hw : Cond.constant (cnm M.2.2.2.2) i v ∈ gtbl) (k : GW l d t0 s0 mc ms b M r (pc + 3) ls (.int v :: st) h) : GW l d t0 s0 mc ms b M r pc ls (st) h :=
  fun p e s m args below meth c D cy H locs LS cells slots F L Rp S hb hz e1 e2 => lv_ldcw F.1 F.2.1 F.2.2.2.2.1 (F.2.2.2.2.2.1 _ hw) hd (k p e s m args below meth c D cy H locs LS cells slots F L Rp S hb hz e1 e2)
theorem g_ldc2 {i : Nat} {v : Int64} (hd : decode M.2.1 pc = .ok (.ldc2_w i, 3)) (hw : Cond.constantLong (cnm M.2.2.2.2) i v ∈ gtbl) (k : GW l d t0 s0 mc ms b M r (pc + 3) ls (.long v :: st) h) : GW l d t0 s0 mc ms b M r pc ls (st) h :=
  fun p e s m args below meth c D cy H locs LS cells slots F L Rp S hb hz e1 e2 => lv_ldc2 F.1 F.2.1 F.2.2.2.2.1 (F.2.2.2.2.2.1 _ hw) hd (k p e s m args below meth c D cy H locs LS cells slots F L Rp S hb hz e1 e2)
theorem g_iload {i : Nat} {x : Int32} (hd : decode M.2.1 pc = .ok (.iload i, 2)) (hl : ls[i]? = some (some (.int x))) (k : GW l d t0 s0 mc ms b M r (pc + 2) ls (.int x :: st) h) : GW l d t0 s0 mc ms b M r pc ls (st) h :=
  fun p e s m args below meth c D cy H locs LS cells slots F L Rp S hb hz e1 e2 => lv_iload F.1 F.2.1 hd (L.2.2.2 _ _ hl) (k p e s m args below meth c D cy H locs LS cells slots F L Rp S hb hz e1 e2)
theorem g_iload_n {i : Fin 4} {x : Int32} (hd : decode M.2.1 pc = .ok (.iload_n i, 1)) (hl : ls[(i : Nat)]? = some (some (.int x))) (k : GW l d t0 s0 mc ms b M r (pc + 1) ls (.int x :: st) h) : GW l d t0 s0 mc ms b M r pc ls (st) h :=
  fun p e s m args below meth c D cy H locs LS cells slots F L Rp S hb hz e1 e2 => lv_iload_n F.1 F.2.1 hd rfl (L.2.2.2 _ _ hl) (k p e s m args below meth c D cy H locs LS cells slots F L Rp S hb hz e1 e2)
theorem g_lload {i : Nat} {x : Int64} (hd : decode M.2.1 pc = .ok (.lload i, 2)) (hl : ls[i]? = some (some (.long x))) (k : GW l d t0 s0 mc ms b M r (pc + 2) ls (.long x :: st) h) : GW l d t0 s0 mc ms b M r pc ls (st) h :=
  fun p e s m args below meth c D cy H locs LS cells slots F L Rp S hb hz e1 e2 => lv_lload F.1 F.2.1 hd (L.2.2.2 _ _ hl) (k p e s m args below meth c D cy H locs LS cells slots F L Rp S hb hz e1 e2)
theorem g_lload_n {i : Fin 4} {x : Int64} (hd : decode M.2.1 pc = .ok (.lload_n i, 1)) (hl : ls[(i : Nat)]? = some (some (.long x))) (k : GW l d t0 s0 mc ms b M r (pc + 1) ls (.long x :: st) h) : GW l d t0 s0 mc ms b M r pc ls (st) h :=
  fun p e s m args below meth c D cy H locs LS cells slots F L Rp S hb hz e1 e2 => lv_lload_n F.1 F.2.1 hd rfl (L.2.2.2 _ _ hl) (k p e s m args below meth c D cy H locs LS cells slots F L Rp S hb hz e1 e2)
theorem g_aload {i : Nat} {x : Nat} (hd : decode M.2.1 pc = .ok (.aload i, 2)) (hl : ls[i]? = some (some (.ref x))) (k : GW l d t0 s0 mc ms b M r (pc + 2) ls (.ref x :: st) h) : GW l d t0 s0 mc ms b M r pc ls (st) h :=
  fun p e s m args below meth c D cy H locs LS cells slots F L Rp S hb hz e1 e2 => lv_aload F.1 F.2.1 hd (L.2.2.2 _ _ hl) (k p e s m args below meth c D cy H locs LS cells slots F L Rp S hb hz e1 e2)
theorem g_aload_n {i : Fin 4} {x : Nat} (hd : decode M.2.1 pc = .ok (.aload_n i, 1)) (hl : ls[(i : Nat)]? = some (some (.ref x))) (k : GW l d t0 s0 mc ms b M r (pc + 1) ls (.ref x :: st) h) : GW l d t0 s0 mc ms b M r pc ls (st) h :=
  fun p e s m args below meth c D cy H locs LS cells slots F L Rp S hb hz e1 e2 => lv_aload_n F.1 F.2.1 hd rfl (L.2.2.2 _ _ hl) (k p e s m args below meth c D cy H locs LS cells slots F L Rp S hb hz e1 e2)
theorem g_aloadN {i : Nat} (hd : decode M.2.1 pc = .ok (.aload i, 2)) (hl : ls[i]? = some (some .null)) (k : GW l d t0 s0 mc ms b M r (pc + 2) ls (.null :: st) h) : GW l d t0 s0 mc ms b M r pc ls (st) h :=
  fun p e s m args below meth c D cy H locs LS cells slots F L Rp S hb hz e1 e2 => lv_aloadN F.1 F.2.1 hd (L.2.2.2 _ _ hl) (k p e s m args below meth c D cy H locs LS cells slots F L Rp S hb hz e1 e2)
theorem g_aload_nN {i : Fin 4} (hd : decode M.2.1 pc = .ok (.aload_n i, 1)) (hl : ls[(i : Nat)]? = some (some .null)) (k : GW l d t0 s0 mc ms b M r (pc + 1) ls (.null :: st) h) : GW l d t0 s0 mc ms b M r pc ls (st) h :=
  fun p e s m args below meth c D cy H locs LS cells slots F L Rp S hb hz e1 e2 => lv_aload_nN F.1 F.2.1 hd rfl (L.2.2.2 _ _ hl) (k p e s m args below meth c D cy H locs LS cells slots F L Rp S hb hz e1 e2)
theorem g_istore {i : Nat} {x : Int32} (hd : decode M.2.1 pc = .ok (.istore i, 2)) (hn : i < ls.length) (k : GW l d t0 s0 mc ms b M r (pc + 2) (lset1 ls i (.int x)) st h) : GW l d t0 s0 mc ms b M r pc ls (.int x :: st) h :=
  fun p e s m args below meth c D cy H locs LS cells slots F L Rp S hb hz e1 e2 => lv_istore F.1 F.2.1 hd (LR_has L) (by rw [← L.2.2.1]; exact hn) rfl (fun LS2 hl2 => k p e s m args below meth c D cy H locs LS2 cells slots F (LR_set1 L hl2) Rp S hb hz e1 e2)
theorem g_istore_n {i : Fin 4} {x : Int32} (hd : decode M.2.1 pc = .ok (.istore_n i, 1)) (hn : (i : Nat) < ls.length) (k : GW l d t0 s0 mc ms b M r (pc + 1) (lset1 ls (i : Nat) (.int x)) st h) : GW l d t0 s0 mc ms b M r pc ls (.int x :: st) h :=
  fun p e s m args below meth c D cy H locs LS cells slots F L Rp S hb hz e1 e2 => lv_istore_n F.1 F.2.1 hd rfl (LR_has L) (by rw [← L.2.2.1]; exact hn) rfl (fun LS2 hl2 => k p e s m args below meth c D cy H locs LS2 cells slots F (LR_set1 L hl2) Rp S hb hz e1 e2)
theorem g_lstore {i : Nat} {x : Int64} (hd : decode M.2.1 pc = .ok (.lstore i, 2)) (hn : i + 1 < ls.length) (k : GW l d t0 s0 mc ms b M r (pc + 2) (lset2 ls i (.long x)) st h) : GW l d t0 s0 mc ms b M r pc ls (.long x :: st) h :=
  fun p e s m args below meth c D cy H locs LS cells slots F L Rp S hb hz e1 e2 => lv_lstore F.1 F.2.1 hd (LR_has L) (by rw [← L.2.2.1]; exact hn) rfl (fun LS2 hl2 => k p e s m args below meth c D cy H locs LS2 cells slots F (LR_set2 L hl2) Rp S hb hz e1 e2)
theorem g_lstore_n {i : Fin 4} {x : Int64} (hd : decode M.2.1 pc = .ok (.lstore_n i, 1)) (hn : (i : Nat) + 1 < ls.length) (k : GW l d t0 s0 mc ms b M r (pc + 1) (lset2 ls (i : Nat) (.long x)) st h) : GW l d t0 s0 mc ms b M r pc ls (.long x :: st) h :=
  fun p e s m args below meth c D cy H locs LS cells slots F L Rp S hb hz e1 e2 => lv_lstore_n F.1 F.2.1 hd rfl (LR_has L) (by rw [← L.2.2.1]; exact hn) rfl (fun LS2 hl2 => k p e s m args below meth c D cy H locs LS2 cells slots F (LR_set2 L hl2) Rp S hb hz e1 e2)
theorem g_astore {i : Nat} {x : Nat} (hd : decode M.2.1 pc = .ok (.astore i, 2)) (hn : i < ls.length) (k : GW l d t0 s0 mc ms b M r (pc + 2) (lset1 ls i (.ref x)) st h) : GW l d t0 s0 mc ms b M r pc ls (.ref x :: st) h :=
  fun p e s m args below meth c D cy H locs LS cells slots F L Rp S hb hz e1 e2 => lv_astore F.1 F.2.1 hd (LR_has L) (by rw [← L.2.2.1]; exact hn) rfl (fun LS2 hl2 => k p e s m args below meth c D cy H locs LS2 cells slots F (LR_set1 L hl2) Rp S hb hz e1 e2)
theorem g_astore_n {i : Fin 4} {x : Nat} (hd : decode M.2.1 pc = .ok (.astore_n i, 1)) (hn : (i : Nat) < ls.length) (k : GW l d t0 s0 mc ms b M r (pc + 1) (lset1 ls (i : Nat) (.ref x)) st h) : GW l d t0 s0 mc ms b M r pc ls (.ref x :: st) h :=
  fun p e s m args below meth c D cy H locs LS cells slots F L Rp S hb hz e1 e2 => lv_astore_n F.1 F.2.1 hd rfl (LR_has L) (by rw [← L.2.2.1]; exact hn) rfl (fun LS2 hl2 => k p e s m args below meth c D cy H locs LS2 cells slots F (LR_set1 L hl2) Rp S hb hz e1 e2)
theorem g_astoreN {i : Nat} (hd : decode M.2.1 pc = .ok (.astore i, 2)) (hn : i < ls.length) (k : GW l d t0 s0 mc ms b M r (pc + 2) (lset1 ls i (.null)) st h) : GW l d t0 s0 mc ms b M r pc ls (.null :: st) h :=
  fun p e s m args below meth c D cy H locs LS cells slots F L Rp S hb hz e1 e2 => lv_astoreN F.1 F.2.1 hd (LR_has L) (by rw [← L.2.2.1]; exact hn) rfl (fun LS2 hl2 => k p e s m args below meth c D cy H locs LS2 cells slots F (LR_set1 L hl2) Rp S hb hz e1 e2)
theorem g_astore_nN {i : Fin 4} (hd : decode M.2.1 pc = .ok (.astore_n i, 1)) (hn : (i : Nat) < ls.length) (k : GW l d t0 s0 mc ms b M r (pc + 1) (lset1 ls (i : Nat) (.null)) st h) : GW l d t0 s0 mc ms b M r pc ls (.null :: st) h :=
  fun p e s m args below meth c D cy H locs LS cells slots F L Rp S hb hz e1 e2 => lv_astore_nN F.1 F.2.1 hd rfl (LR_has L) (by rw [← L.2.2.1]; exact hn) rfl (fun LS2 hl2 => k p e s m args below meth c D cy H locs LS2 cells slots F (LR_set1 L hl2) Rp S hb hz e1 e2)
theorem lvl_place {b : Nat} {ls : Lc} {i : Nat} {v : Value} (h : ls[i]? = some (some v)) : ∃ k : Nat, (lvl b ls)[k]? = some (i, mv b v) := List.getElem?_of_mem (lvl_mem h)
theorem g_iinc {i : Nat} {n : Int} {x : Int32} (hd : decode M.2.1 pc = .ok (.iinc i n, 3)) (hl : ls[i]? = some (some (.int x))) (hn : i < ls.length) (k : GW l d t0 s0 mc ms b M r (pc + 3) (lset1 ls i (.int (x + Int32.ofInt n))) st h) : GW l d t0 s0 mc ms b M r pc ls st h := by
  intro p e s m args below meth c D cy H locs LS cells slots F L Rp S hb hz e1 e2
  obtain ⟨j, hj⟩ := lvl_place (b := b) hl
  exact lv_iinc F.1 F.2.1 hd (LR_has L) hj rfl (by rw [← L.2.2.1]; exact hn) rfl (fun LS2 hl2 => k p e s m args below meth c D cy H locs LS2 cells slots F (LR_set1 L hl2) Rp S hb hz e1 e2)
theorem g_iincW {i : Nat} {n : Int} {x : Int32} (hd : decode M.2.1 pc = .ok (.iinc i n, 6)) (hl : ls[i]? = some (some (.int x))) (hn : i < ls.length) (k : GW l d t0 s0 mc ms b M r (pc + 6) (lset1 ls i (.int (x + Int32.ofInt n))) st h) : GW l d t0 s0 mc ms b M r pc ls st h := by
  intro p e s m args below meth c D cy H locs LS cells slots F L Rp S hb hz e1 e2
  obtain ⟨j, hj⟩ := lvl_place (b := b) hl
  exact lv_iincW F.1 F.2.1 hd (LR_has L) hj rfl (by rw [← L.2.2.1]; exact hn) rfl (fun LS2 hl2 => k p e s m args below meth c D cy H locs LS2 cells slots F (LR_set1 L hl2) Rp S hb hz e1 e2)
theorem jmp_eq {pc : Nat} {off : Int} (h : jok pc off = true) : (pc : Int) + off = (jmp pc off : Int) := by
  have h1 : 0 ≤ (pc : Int) + off := of_decide_eq_true h
  unfold jmp
  omega
theorem g_icmp_eq {off : Int} {x y : Int32} (hd : decode M.2.1 pc = .ok (.if_icmp .eq off, 3)) (hj : jok pc off = true) (k : GW l d t0 s0 mc ms b M r (if cmpI .eq x y = true then jmp pc off else pc + 3) ls st h) : GW l d t0 s0 mc ms b M r pc ls (.int y :: .int x :: st) h := by
  intro p e s m args below meth c D cy H locs LS cells slots F L Rp S hb hz e1 e2
  refine lv_icmp_eq F.1 F.2.1 hd (jmp_eq hj) (fun q => ?_) (fun q => ?_)
  · rw [if_pos (show cmpI .eq x y = true from decide_eq_true q)] at k
    exact k p e s m args below meth c D cy H locs LS cells slots F L Rp S hb hz e1 e2
  · rw [if_neg (show ¬ cmpI .eq x y = true from fun z => q (of_decide_eq_true z))] at k
    exact k p e s m args below meth c D cy H locs LS cells slots F L Rp S hb hz e1 e2
theorem g_if_eq {off : Int} {x : Int32} (hd : decode M.2.1 pc = .ok (.ifCond .eq off, 3)) (hj : jok pc off = true) (k : GW l d t0 s0 mc ms b M r (if cmpI .eq x 0 = true then jmp pc off else pc + 3) ls st h) : GW l d t0 s0 mc ms b M r pc ls (.int x :: st) h := by
  intro p e s m args below meth c D cy H locs LS cells slots F L Rp S hb hz e1 e2
  refine lv_if_eq F.1 F.2.1 hd (jmp_eq hj) (fun q => ?_) (fun q => ?_)
  · rw [if_pos (show cmpI .eq x 0 = true from decide_eq_true q)] at k
    exact k p e s m args below meth c D cy H locs LS cells slots F L Rp S hb hz e1 e2
  · rw [if_neg (show ¬ cmpI .eq x 0 = true from fun z => q (of_decide_eq_true z))] at k
    exact k p e s m args below meth c D cy H locs LS cells slots F L Rp S hb hz e1 e2
theorem g_icmp_ne {off : Int} {x y : Int32} (hd : decode M.2.1 pc = .ok (.if_icmp .ne off, 3)) (hj : jok pc off = true) (k : GW l d t0 s0 mc ms b M r (if cmpI .ne x y = true then jmp pc off else pc + 3) ls st h) : GW l d t0 s0 mc ms b M r pc ls (.int y :: .int x :: st) h := by
  intro p e s m args below meth c D cy H locs LS cells slots F L Rp S hb hz e1 e2
  refine lv_icmp_ne F.1 F.2.1 hd (jmp_eq hj) (fun q => ?_) (fun q => ?_)
  · rw [if_pos (show cmpI .ne x y = true from decide_eq_true q)] at k
    exact k p e s m args below meth c D cy H locs LS cells slots F L Rp S hb hz e1 e2
  · rw [if_neg (show ¬ cmpI .ne x y = true from fun z => of_decide_eq_true z q)] at k
    exact k p e s m args below meth c D cy H locs LS cells slots F L Rp S hb hz e1 e2
theorem g_if_ne {off : Int} {x : Int32} (hd : decode M.2.1 pc = .ok (.ifCond .ne off, 3)) (hj : jok pc off = true) (k : GW l d t0 s0 mc ms b M r (if cmpI .ne x 0 = true then jmp pc off else pc + 3) ls st h) : GW l d t0 s0 mc ms b M r pc ls (.int x :: st) h := by
  intro p e s m args below meth c D cy H locs LS cells slots F L Rp S hb hz e1 e2
  refine lv_if_ne F.1 F.2.1 hd (jmp_eq hj) (fun q => ?_) (fun q => ?_)
  · rw [if_pos (show cmpI .ne x 0 = true from decide_eq_true q)] at k
    exact k p e s m args below meth c D cy H locs LS cells slots F L Rp S hb hz e1 e2
  · rw [if_neg (show ¬ cmpI .ne x 0 = true from fun z => of_decide_eq_true z q)] at k
    exact k p e s m args below meth c D cy H locs LS cells slots F L Rp S hb hz e1 e2
theorem g_icmp_lt {off : Int} {x y : Int32} (hd : decode M.2.1 pc = .ok (.if_icmp .lt off, 3)) (hj : jok pc off = true) (k : GW l d t0 s0 mc ms b M r (if cmpI .lt x y = true then jmp pc off else pc + 3) ls st h) : GW l d t0 s0 mc ms b M r pc ls (.int y :: .int x :: st) h := by
  intro p e s m args below meth c D cy H locs LS cells slots F L Rp S hb hz e1 e2
  refine lv_icmp_lt F.1 F.2.1 hd (jmp_eq hj) (fun q => ?_) (fun q => ?_)
  · rw [if_pos (show cmpI .lt x y = true from decide_eq_true q)] at k
    exact k p e s m args below meth c D cy H locs LS cells slots F L Rp S hb hz e1 e2
  · rw [if_neg (show ¬ cmpI .lt x y = true from fun z => q (of_decide_eq_true z))] at k
    exact k p e s m args below meth c D cy H locs LS cells slots F L Rp S hb hz e1 e2
theorem g_if_lt {off : Int} {x : Int32} (hd : decode M.2.1 pc = .ok (.ifCond .lt off, 3)) (hj : jok pc off = true) (k : GW l d t0 s0 mc ms b M r (if cmpI .lt x 0 = true then jmp pc off else pc + 3) ls st h) : GW l d t0 s0 mc ms b M r pc ls (.int x :: st) h := by
  intro p e s m args below meth c D cy H locs LS cells slots F L Rp S hb hz e1 e2
  refine lv_if_lt F.1 F.2.1 hd (jmp_eq hj) (fun q => ?_) (fun q => ?_)
  · rw [if_pos (show cmpI .lt x 0 = true from decide_eq_true q)] at k
    exact k p e s m args below meth c D cy H locs LS cells slots F L Rp S hb hz e1 e2
  · rw [if_neg (show ¬ cmpI .lt x 0 = true from fun z => q (of_decide_eq_true z))] at k
    exact k p e s m args below meth c D cy H locs LS cells slots F L Rp S hb hz e1 e2
theorem g_icmp_ge {off : Int} {x y : Int32} (hd : decode M.2.1 pc = .ok (.if_icmp .ge off, 3)) (hj : jok pc off = true) (k : GW l d t0 s0 mc ms b M r (if cmpI .ge x y = true then jmp pc off else pc + 3) ls st h) : GW l d t0 s0 mc ms b M r pc ls (.int y :: .int x :: st) h := by
  intro p e s m args below meth c D cy H locs LS cells slots F L Rp S hb hz e1 e2
  refine lv_icmp_ge F.1 F.2.1 hd (jmp_eq hj) (fun q => ?_) (fun q => ?_)
  · rw [if_pos (show cmpI .ge x y = true from decide_eq_true q)] at k
    exact k p e s m args below meth c D cy H locs LS cells slots F L Rp S hb hz e1 e2
  · rw [if_neg (show ¬ cmpI .ge x y = true from fun z => q (of_decide_eq_true z))] at k
    exact k p e s m args below meth c D cy H locs LS cells slots F L Rp S hb hz e1 e2
theorem g_if_ge {off : Int} {x : Int32} (hd : decode M.2.1 pc = .ok (.ifCond .ge off, 3)) (hj : jok pc off = true) (k : GW l d t0 s0 mc ms b M r (if cmpI .ge x 0 = true then jmp pc off else pc + 3) ls st h) : GW l d t0 s0 mc ms b M r pc ls (.int x :: st) h := by
  intro p e s m args below meth c D cy H locs LS cells slots F L Rp S hb hz e1 e2
  refine lv_if_ge F.1 F.2.1 hd (jmp_eq hj) (fun q => ?_) (fun q => ?_)
  · rw [if_pos (show cmpI .ge x 0 = true from decide_eq_true q)] at k
    exact k p e s m args below meth c D cy H locs LS cells slots F L Rp S hb hz e1 e2
  · rw [if_neg (show ¬ cmpI .ge x 0 = true from fun z => q (of_decide_eq_true z))] at k
    exact k p e s m args below meth c D cy H locs LS cells slots F L Rp S hb hz e1 e2
theorem g_icmp_gt {off : Int} {x y : Int32} (hd : decode M.2.1 pc = .ok (.if_icmp .gt off, 3)) (hj : jok pc off = true) (k : GW l d t0 s0 mc ms b M r (if cmpI .gt x y = true then jmp pc off else pc + 3) ls st h) : GW l d t0 s0 mc ms b M r pc ls (.int y :: .int x :: st) h := by
  intro p e s m args below meth c D cy H locs LS cells slots F L Rp S hb hz e1 e2
  refine lv_icmp_gt F.1 F.2.1 hd (jmp_eq hj) (fun q => ?_) (fun q => ?_)
  · rw [if_pos (show cmpI .gt x y = true from decide_eq_true q)] at k
    exact k p e s m args below meth c D cy H locs LS cells slots F L Rp S hb hz e1 e2
  · rw [if_neg (show ¬ cmpI .gt x y = true from fun z => q (of_decide_eq_true z))] at k
    exact k p e s m args below meth c D cy H locs LS cells slots F L Rp S hb hz e1 e2
theorem g_if_gt {off : Int} {x : Int32} (hd : decode M.2.1 pc = .ok (.ifCond .gt off, 3)) (hj : jok pc off = true) (k : GW l d t0 s0 mc ms b M r (if cmpI .gt x 0 = true then jmp pc off else pc + 3) ls st h) : GW l d t0 s0 mc ms b M r pc ls (.int x :: st) h := by
  intro p e s m args below meth c D cy H locs LS cells slots F L Rp S hb hz e1 e2
  refine lv_if_gt F.1 F.2.1 hd (jmp_eq hj) (fun q => ?_) (fun q => ?_)
  · rw [if_pos (show cmpI .gt x 0 = true from decide_eq_true q)] at k
    exact k p e s m args below meth c D cy H locs LS cells slots F L Rp S hb hz e1 e2
  · rw [if_neg (show ¬ cmpI .gt x 0 = true from fun z => q (of_decide_eq_true z))] at k
    exact k p e s m args below meth c D cy H locs LS cells slots F L Rp S hb hz e1 e2
theorem g_icmp_le {off : Int} {x y : Int32} (hd : decode M.2.1 pc = .ok (.if_icmp .le off, 3)) (hj : jok pc off = true) (k : GW l d t0 s0 mc ms b M r (if cmpI .le x y = true then jmp pc off else pc + 3) ls st h) : GW l d t0 s0 mc ms b M r pc ls (.int y :: .int x :: st) h := by
  intro p e s m args below meth c D cy H locs LS cells slots F L Rp S hb hz e1 e2
  refine lv_icmp_le F.1 F.2.1 hd (jmp_eq hj) (fun q => ?_) (fun q => ?_)
  · rw [if_pos (show cmpI .le x y = true from decide_eq_true q)] at k
    exact k p e s m args below meth c D cy H locs LS cells slots F L Rp S hb hz e1 e2
  · rw [if_neg (show ¬ cmpI .le x y = true from fun z => q (of_decide_eq_true z))] at k
    exact k p e s m args below meth c D cy H locs LS cells slots F L Rp S hb hz e1 e2
theorem g_if_le {off : Int} {x : Int32} (hd : decode M.2.1 pc = .ok (.ifCond .le off, 3)) (hj : jok pc off = true) (k : GW l d t0 s0 mc ms b M r (if cmpI .le x 0 = true then jmp pc off else pc + 3) ls st h) : GW l d t0 s0 mc ms b M r pc ls (.int x :: st) h := by
  intro p e s m args below meth c D cy H locs LS cells slots F L Rp S hb hz e1 e2
  refine lv_if_le F.1 F.2.1 hd (jmp_eq hj) (fun q => ?_) (fun q => ?_)
  · rw [if_pos (show cmpI .le x 0 = true from decide_eq_true q)] at k
    exact k p e s m args below meth c D cy H locs LS cells slots F L Rp S hb hz e1 e2
  · rw [if_neg (show ¬ cmpI .le x 0 = true from fun z => q (of_decide_eq_true z))] at k
    exact k p e s m args below meth c D cy H locs LS cells slots F L Rp S hb hz e1 e2
theorem g_goto {off : Int} (hd : decode M.2.1 pc = .ok (.goto off, 3)) (hj : jok pc off = true) (k : GW l d t0 s0 mc ms b M r (jmp pc off) ls st h) : GW l d t0 s0 mc ms b M r pc ls st h :=
  fun p e s m args below meth c D cy H locs LS cells slots F L Rp S hb hz e1 e2 => lv_goto F.1 F.2.1 hd (jmp_eq hj) (k p e s m args below meth c D cy H locs LS cells slots F L Rp S hb hz e1 e2)
theorem g_ifnull {off : Int} {x : Nat} (hd : decode M.2.1 pc = .ok (.ifnull off, 3)) (k : GW l d t0 s0 mc ms b M r (pc + 3) ls st h) : GW l d t0 s0 mc ms b M r pc ls (.ref x :: st) h :=
  fun p e s m args below meth c D cy H locs LS cells slots F L Rp S hb hz e1 e2 => lv_ifnull F.1 F.2.1 hd (k p e s m args below meth c D cy H locs LS cells slots F L Rp S hb hz e1 e2)
theorem g_ifnullN {off : Int} (hd : decode M.2.1 pc = .ok (.ifnull off, 3)) (hj : jok pc off = true) (k : GW l d t0 s0 mc ms b M r (jmp pc off) ls st h) : GW l d t0 s0 mc ms b M r pc ls (.null :: st) h :=
  fun p e s m args below meth c D cy H locs LS cells slots F L Rp S hb hz e1 e2 => lv_ifnullN F.1 F.2.1 hd (jmp_eq hj) (k p e s m args below meth c D cy H locs LS cells slots F L Rp S hb hz e1 e2)
theorem g_tabI {dflt lo hi : Int} {offs : Array Int} {len : Nat} {x : Int32} {off : Int} (hd : decode M.2.1 pc = .ok (.tableswitch dflt lo hi offs, len)) (h1 : ¬ x.toInt < lo) (h2 : ¬ hi < x.toInt) (ho : offs[(x.toInt - lo).toNat]? = some off) (hj : jok pc off = true) (k : GW l d t0 s0 mc ms b M r (jmp pc off) ls st h) : GW l d t0 s0 mc ms b M r pc ls (.int x :: st) h :=
  fun p e s m args below meth c D cy H locs LS cells slots F L Rp S hb hz e1 e2 => lv_tableIn F.1 F.2.1 hd h1 h2 ho (jmp_eq hj) (k p e s m args below meth c D cy H locs LS cells slots F L Rp S hb hz e1 e2)
theorem g_tabO {dflt lo hi : Int} {offs : Array Int} {len : Nat} {x : Int32} (hd : decode M.2.1 pc = .ok (.tableswitch dflt lo hi offs, len)) (h1 : x.toInt < lo ∨ hi < x.toInt) (hj : jok pc dflt = true) (k : GW l d t0 s0 mc ms b M r (jmp pc dflt) ls st h) : GW l d t0 s0 mc ms b M r pc ls (.int x :: st) h :=
  fun p e s m args below meth c D cy H locs LS cells slots F L Rp S hb hz e1 e2 => lv_tableOut F.1 F.2.1 hd h1 (jmp_eq hj) (k p e s m args below meth c D cy H locs LS cells slots F L Rp S hb hz e1 e2)
theorem g_look {dflt : Int} {ps : Array (Int × Int)} {len : Nat} {x : Int32} (hd : decode M.2.1 pc = .ok (.lookupswitch dflt ps, len)) (hp : (ps.toList.zip (ps.toList.drop 1)).all (fun (a, next) => a.1 < next.1) = true) (hj : jok pc (Op.lookupswitch.offset ps.toList dflt x.toInt) = true) (k : GW l d t0 s0 mc ms b M r (jmp pc (Op.lookupswitch.offset ps.toList dflt x.toInt)) ls st h) : GW l d t0 s0 mc ms b M r pc ls (.int x :: st) h :=
  fun p e s m args below meth c D cy H locs LS cells slots F L Rp S hb hz e1 e2 => lv_lookup F.1 F.2.1 hd hp rfl (jmp_eq hj) (k p e s m args below meth c D cy H locs LS cells slots F L Rp S hb hz e1 e2)
end GWS

-- THE PURE MACHINE IS SOUND, 5: every step, every method
theorem gd_some {α : Type} {b : Bool} {x : Option α} {y : α} : gd b x = some y ↔ b = true ∧ x = some y := by
  unfold gd
  cases b <;> simp
theorem bindI {α : Type} {st : List Value} {f : Int32 × List Value → Option α} {o : α} : (popI st).bind f = some o ↔ ∃ x r, st = .int x :: r ∧ f (x, r) = some o := by
  cases st with
  | nil => simp [popI]
  | cons v r => cases v <;> simp [popI]
theorem bindL {α : Type} {st : List Value} {f : Int64 × List Value → Option α} {o : α} : (popL st).bind f = some o ↔ ∃ x r, st = .long x :: r ∧ f (x, r) = some o := by
  cases st with
  | nil => simp [popL]
  | cons v r => cases v <;> simp [popL]
theorem bindA {α : Type} {st : List Value} {f : Nat × List Value → Option α} {o : α} : (popA st).bind f = some o ↔ ∃ x r, st = .ref x :: r ∧ f (x, r) = some o := by
  cases st with
  | nil => simp [popA]
  | cons v r => cases v <;> simp [popA]
theorem bindN {α : Type} {st : List Value} {f : Option Nat × List Value → Option α} {o : α} : (popN st).bind f = some o ↔ ∃ x r, st = va_rf x :: r ∧ f (x, r) = some o := by
  constructor
  · intro h
    cases st with
    | nil => simp [popN] at h
    | cons v r =>
      cases v <;> simp [popN] at h
      · exact ⟨none, r, rfl, h⟩
      · next a => exact ⟨some a, r, rfl, h⟩
  · rintro ⟨x, r, rfl, h⟩
    cases x <;> exact h
theorem bindV {α : Type} {st : List Value} {f : Value × List Value → Option α} {o : α} : (popV st).bind f = some o ↔ ∃ x r, st = x :: r ∧ f (x, r) = some o := by
  cases st with
  | nil => simp [popV]
  | cons v r => simp [popV]
theorem bindGI {α : Type} {ls : Lc} {i : Nat} {f : Int32 → Option α} {o : α} : (getI ls i).bind f = some o ↔ ∃ x, ls[i]? = some (some (.int x)) ∧ f x = some o := by
  unfold getI
  split
  · next x h => simp [h]
  · next h =>
    simp only [Option.bind_none]
    constructor
    · intro h
      cases h
    · rintro ⟨x, h1, -⟩
      exact absurd h1 (h x)
theorem bindGL {α : Type} {ls : Lc} {i : Nat} {f : Int64 → Option α} {o : α} : (getL ls i).bind f = some o ↔ ∃ x, ls[i]? = some (some (.long x)) ∧ f x = some o := by
  unfold getL
  split
  · next x h => simp [h]
  · next h =>
    simp only [Option.bind_none]
    constructor
    · intro h
      cases h
    · rintro ⟨x, h1, -⟩
      exact absurd h1 (h x)
theorem bindGN {α : Type} {ls : Lc} {i : Nat} {f : Option Nat → Option α} {o : α} : (getN ls i).bind f = some o ↔ ∃ x, ls[i]? = some (some (va_rf x)) ∧ f x = some o := by
  unfold getN
  split
  · next x h =>
    simp only [Option.bind_some]
    constructor
    · exact fun q => ⟨some x, h, q⟩
    · rintro ⟨y, h1, h2⟩
      rw [h] at h1
      cases y <;> simp [va_rf] at h1
      subst h1
      exact h2
  · next h =>
    simp only [Option.bind_some]
    constructor
    · exact fun q => ⟨none, h, q⟩
    · rintro ⟨y, h1, h2⟩
      rw [h] at h1
      cases y <;> simp [va_rf] at h1
      exact h2
  · next h1 h2 =>
    simp only [Option.bind_none]
    constructor
    · intro h
      cases h
    · rintro ⟨x, h3, -⟩
      cases x with
      | none => exact absurd h3 h2
      | some x => exact absurd h3 (h1 x)
def Mon (h h' : Hp) : Prop := hTop h ≤ hTop h' ∧ hSl h ≤ hSl h' ∧ hAl h' = hAl h
theorem Mon.rf {h : Hp} : Mon h h := ⟨Nat.le_refl _, Nat.le_refl _, rfl⟩
theorem Mon.tr {h h' h'' : Hp} (a : Mon h h') (b : Mon h' h'') : Mon h h'' := ⟨Nat.le_trans a.1 b.1, Nat.le_trans a.2.1 b.2.1, b.2.2.trans a.2.2⟩
def SI (l : Launch) (d : Nat) (M : Mth) (pc : Nat) (ls : Lc) (st : List Value) (h : Hp) (c : Cf) : Prop := Mon h c.2.2.2 ∧ ∀ (t0 s0 mc ms b : Nat) (r : Rs), hTop c.2.2.2 ≤ t0 + mc → hSl c.2.2.2 ≤ s0 + ms → GW l (d + 1) t0 s0 mc ms b M r c.1 c.2.1 c.2.2.1 c.2.2.2 → GW l (d + 1) t0 s0 mc ms b M r pc ls st h
def SR (l : Launch) (d : Nat) (M : Mth) (pc : Nat) (ls : Lc) (st : List Value) (h : Hp) (r : Rs) : Prop := Mon h r.2 ∧ ∀ (t0 s0 mc ms b : Nat), hTop r.2 = t0 + mc → hSl r.2 = s0 + ms → GW l (d + 1) t0 s0 mc ms b M r pc ls st h
def SO (l : Launch) (d : Nat) (M : Mth) (pc : Nat) (ls : Lc) (st : List Value) (h : Hp) (o : Cf ⊕ Rs) : Prop := match o with
  | .inl c => SI l d M pc ls st h c
  | .inr r => SR l d M pc ls st h r
theorem tkd {st : List Value} {n : Nat} : st = (st.take n).reverse.reverse ++ st.drop n := by rw [List.reverse_reverse, List.take_append_drop]
theorem tkl {st : List Value} {n : Nat} {q : Value} {r : List Value} (h : st.drop n = q :: r) : (st.take n).reverse.length = n := by
  have h1 : 0 < (st.drop n).length := by rw [h]; simp
  rw [List.length_drop] at h1
  rw [List.length_reverse, List.length_take]
  omega
theorem mres_ok {o i np kd ci : Nat} {M : Mth} (h : mRes o i = some (M, np, kd, ci)) : mOK o (i, M, np, kd, ci) := mTab_ok o _ (lk_mem h)
section STEP
variable {l : Launch} {d : Nat} {M : Mth} {pc n : Nat} {ls : Lc} {st : List Value} {h : Hp} {o : Cf ⊕ Rs}
theorem cal_ok {idx vk : Nat} {ig : Instr} (IH : ∀ (M : Mth) (as : List Value) (h : Hp) (r : Rs), mG M → C d M as h = some r → Mon h r.2 ∧ MetP l d M as h r) (hd : decode M.2.1 pc = .ok (ig, 3)) (hi : (vk = 0 ∧ ig = .invokevirtual idx) ∨ (vk = 1 ∧ ig = .invokestatic idx) ∨ (vk = 2 ∧ ig = .invokespecial idx)) (hs : cal (C d) M.2.2.2.2 idx pc ls st h vk = some o) : SO l d M pc ls st h o := by
  unfold cal at hs
  split at hs
  · cases hs
  · next M' np kd ci hm =>
    have hq := mres_ok hm
    split at hs
    · next hkd =>
      split at hs
      · next hv1 =>
        subst hv1
        rcases hi with ⟨h0, -⟩ | ⟨-, rfl⟩ | ⟨h0, -⟩
        · cases h0
        · simp only [gd_some, Option.bind_eq_some_iff, go1, Option.some.injEq, Bool.and_eq_true, decide_eq_true_eq] at hs
          obtain ⟨⟨hw, hl⟩, r', hc, rfl⟩ := hs
          obtain ⟨hmo, hM⟩ := IH M' _ h r' hq.1 hc
          have hlen : (st.take np).reverse.length = np := by rw [List.length_reverse, List.length_take]; omega
          refine ⟨hmo, fun t0 s0 mc ms b r h1 h2 k => ?_⟩
          rw [show st = (st.take np).reverse.reverse ++ st.drop np from tkd]
          rcases (show kd = 2 ∨ kd = 3 by omega) with rfl | rfl
          · exact g_callS hd hq hlen hw hM hmo.1 hmo.2.1 hmo.2.2 h1 h2 k
          · exact g_callSN hd hq hlen hw hM hmo.1 hmo.2.1 hmo.2.2 h1 h2 k
        · cases h0
      · next hv1 =>
        rw [bindA] at hs
        obtain ⟨a, rest, hdr, hs⟩ := hs
        simp only [gd_some, Option.bind_eq_some_iff, go1, Option.some.injEq, Bool.and_eq_true] at hs
        obtain ⟨⟨hw, hk⟩, r', hc, rfl⟩ := hs
        obtain ⟨hmo, hM⟩ := IH M' _ h r' hq.1 hc
        have hlen := tkl hdr
        refine ⟨hmo, fun t0 s0 mc ms b r h1 h2 k => ?_⟩
        rw [show st = (st.take np).reverse.reverse ++ .ref a :: rest by rw [← hdr]; exact tkd]
        rcases hi with ⟨rfl, rfl⟩ | ⟨h0, -⟩ | ⟨rfl, rfl⟩
        · have hk : hK h a = ci := by simpa using hk
          rcases (show kd = 0 ∨ kd = 1 by omega) with rfl | rfl
          · exact g_callV hd hq hlen hk hw hM hmo.1 hmo.2.1 hmo.2.2 h1 h2 k
          · exact g_callVN hd hq hlen hk hw hM hmo.1 hmo.2.1 hmo.2.2 h1 h2 k
        · exact absurd h0 hv1
        · rcases (show kd = 4 ∨ kd = 5 by omega) with rfl | rfl
          · exact g_callI hd hq hlen hw hM hmo.1 hmo.2.1 hmo.2.2 h1 h2 k
          · exact g_callIN hd hq hlen hw hM hmo.1 hmo.2.1 hmo.2.2 h1 h2 k
    · cases hs
theorem getN_cases {x : Option Nat} {i : Nat} (h : ls[i]? = some (some (va_rf x))) : (∃ a, x = some a ∧ ls[i]? = some (some (.ref a))) ∨ (x = none ∧ ls[i]? = some (some .null)) := by
  cases x with
  | none => exact Or.inr ⟨rfl, h⟩
  | some a => exact Or.inl ⟨a, rfl, h⟩

set_option maxHeartbeats 4000000 in
theorem step_ok {i : Instr} (IH : ∀ (M : Mth) (as : List Value) (h : Hp) (r : Rs), mG M → C d M as h = some r → Mon h r.2 ∧ MetP l d M as h r) (hd : decode M.2.1 pc = .ok (i, n)) (hs : ex1 (C d) M i n pc ls st h = some o) : SO l d M pc ls st h o := by
  cases i with
  | iconst k0 =>
    simp only [ex1, bindI, bindL, bindA, bindN, bindV, bindGI, bindGL, bindGN, gd_some, go1, Option.some.injEq, Bool.and_eq_true, beq_iff_eq, decide_eq_true_eq] at hs
    obtain ⟨rfl, rfl⟩ := hs
    exact ⟨Mon.rf, fun _ _ _ _ _ _ _ _ k => g_iconst hd k⟩
  | bipush k0 =>
    simp only [ex1, bindI, bindL, bindA, bindN, bindV, bindGI, bindGL, bindGN, gd_some, go1, Option.some.injEq, Bool.and_eq_true, beq_iff_eq, decide_eq_true_eq] at hs
    obtain ⟨rfl, rfl⟩ := hs
    exact ⟨Mon.rf, fun _ _ _ _ _ _ _ _ k => g_bipush hd k⟩
  | sipush k0 =>
    simp only [ex1, bindI, bindL, bindA, bindN, bindV, bindGI, bindGL, bindGN, gd_some, go1, Option.some.injEq, Bool.and_eq_true, beq_iff_eq, decide_eq_true_eq] at hs
    obtain ⟨rfl, rfl⟩ := hs
    exact ⟨Mon.rf, fun _ _ _ _ _ _ _ _ k => g_sipush hd k⟩
  | lconst k0 =>
    simp only [ex1, bindI, bindL, bindA, bindN, bindV, bindGI, bindGL, bindGN, gd_some, go1, Option.some.injEq, Bool.and_eq_true, beq_iff_eq, decide_eq_true_eq] at hs
    obtain ⟨rfl, rfl⟩ := hs
    exact ⟨Mon.rf, fun _ _ _ _ _ _ _ _ k => g_lconst hd k⟩
  | aconst_null =>
    simp only [ex1, bindI, bindL, bindA, bindN, bindV, bindGI, bindGL, bindGN, gd_some, go1, Option.some.injEq, Bool.and_eq_true, beq_iff_eq, decide_eq_true_eq] at hs
    obtain ⟨rfl, rfl⟩ := hs
    exact ⟨Mon.rf, fun _ _ _ _ _ _ _ _ k => g_null hd k⟩
  | ldc k0 =>
    simp only [ex1, Option.bind_eq_some_iff, gd_some, go1, Option.some.injEq, beq_iff_eq] at hs
    obtain ⟨v, hv, rfl, rfl⟩ := hs
    exact ⟨Mon.rf, fun _ _ _ _ _ _ _ _ k => g_ldc hd (cKTab_ok _ _ (lk_mem hv)) k⟩
  | ldc_w k0 =>
    simp only [ex1, Option.bind_eq_some_iff, gd_some, go1, Option.some.injEq, beq_iff_eq] at hs
    obtain ⟨v, hv, rfl, rfl⟩ := hs
    exact ⟨Mon.rf, fun _ _ _ _ _ _ _ _ k => g_ldcw hd (cKTab_ok _ _ (lk_mem hv)) k⟩
  | ldc2_w k0 =>
    simp only [ex1, Option.bind_eq_some_iff, gd_some, go1, Option.some.injEq, beq_iff_eq] at hs
    obtain ⟨v, hv, rfl, rfl⟩ := hs
    exact ⟨Mon.rf, fun _ _ _ _ _ _ _ _ k => g_ldc2 hd (lKTab_ok _ _ (lk_mem hv)) k⟩
  | iload j =>
    simp only [ex1, bindI, bindL, bindA, bindN, bindV, bindGI, bindGL, bindGN, gd_some, go1, Option.some.injEq, Bool.and_eq_true, beq_iff_eq, decide_eq_true_eq] at hs
    obtain ⟨x, hl, rfl, rfl⟩ := hs
    exact ⟨Mon.rf, fun _ _ _ _ _ _ _ _ k => g_iload hd hl k⟩
  | iload_n j =>
    simp only [ex1, bindI, bindL, bindA, bindN, bindV, bindGI, bindGL, bindGN, gd_some, go1, Option.some.injEq, Bool.and_eq_true, beq_iff_eq, decide_eq_true_eq] at hs
    obtain ⟨x, hl, rfl, rfl⟩ := hs
    exact ⟨Mon.rf, fun _ _ _ _ _ _ _ _ k => g_iload_n hd hl k⟩
  | lload j =>
    simp only [ex1, bindI, bindL, bindA, bindN, bindV, bindGI, bindGL, bindGN, gd_some, go1, Option.some.injEq, Bool.and_eq_true, beq_iff_eq, decide_eq_true_eq] at hs
    obtain ⟨x, hl, rfl, rfl⟩ := hs
    exact ⟨Mon.rf, fun _ _ _ _ _ _ _ _ k => g_lload hd hl k⟩
  | lload_n j =>
    simp only [ex1, bindI, bindL, bindA, bindN, bindV, bindGI, bindGL, bindGN, gd_some, go1, Option.some.injEq, Bool.and_eq_true, beq_iff_eq, decide_eq_true_eq] at hs
    obtain ⟨x, hl, rfl, rfl⟩ := hs
    exact ⟨Mon.rf, fun _ _ _ _ _ _ _ _ k => g_lload_n hd hl k⟩
  | aload j =>
    simp only [ex1, bindI, bindL, bindA, bindN, bindV, bindGI, bindGL, bindGN, gd_some, go1, Option.some.injEq, Bool.and_eq_true, beq_iff_eq, decide_eq_true_eq] at hs
    obtain ⟨x, hl, rfl, rfl⟩ := hs
    rcases getN_cases hl with ⟨a, rfl, hl⟩ | ⟨rfl, hl⟩
    · exact ⟨Mon.rf, fun _ _ _ _ _ _ _ _ k => g_aload hd hl k⟩
    · exact ⟨Mon.rf, fun _ _ _ _ _ _ _ _ k => g_aloadN hd hl k⟩
  | aload_n j =>
    simp only [ex1, bindI, bindL, bindA, bindN, bindV, bindGI, bindGL, bindGN, gd_some, go1, Option.some.injEq, Bool.and_eq_true, beq_iff_eq, decide_eq_true_eq] at hs
    obtain ⟨x, hl, rfl, rfl⟩ := hs
    rcases getN_cases hl with ⟨a, rfl, hl⟩ | ⟨rfl, hl⟩
    · exact ⟨Mon.rf, fun _ _ _ _ _ _ _ _ k => g_aload_n hd hl k⟩
    · exact ⟨Mon.rf, fun _ _ _ _ _ _ _ _ k => g_aload_nN hd hl k⟩
  | istore j =>
    simp only [ex1, bindI, bindL, bindA, bindN, bindV, bindGI, bindGL, bindGN, gd_some, go1, Option.some.injEq, Bool.and_eq_true, beq_iff_eq, decide_eq_true_eq] at hs
    obtain ⟨x, r, rfl, ⟨rfl, hn⟩, rfl⟩ := hs
    exact ⟨Mon.rf, fun _ _ _ _ _ _ _ _ k => g_istore hd hn k⟩
  | istore_n j =>
    simp only [ex1, bindI, bindL, bindA, bindN, bindV, bindGI, bindGL, bindGN, gd_some, go1, Option.some.injEq, Bool.and_eq_true, beq_iff_eq, decide_eq_true_eq] at hs
    obtain ⟨x, r, rfl, ⟨rfl, hn⟩, rfl⟩ := hs
    exact ⟨Mon.rf, fun _ _ _ _ _ _ _ _ k => g_istore_n hd hn k⟩
  | lstore j =>
    simp only [ex1, bindI, bindL, bindA, bindN, bindV, bindGI, bindGL, bindGN, gd_some, go1, Option.some.injEq, Bool.and_eq_true, beq_iff_eq, decide_eq_true_eq] at hs
    obtain ⟨x, r, rfl, ⟨rfl, hn⟩, rfl⟩ := hs
    exact ⟨Mon.rf, fun _ _ _ _ _ _ _ _ k => g_lstore hd hn k⟩
  | lstore_n j =>
    simp only [ex1, bindI, bindL, bindA, bindN, bindV, bindGI, bindGL, bindGN, gd_some, go1, Option.some.injEq, Bool.and_eq_true, beq_iff_eq, decide_eq_true_eq] at hs
    obtain ⟨x, r, rfl, ⟨rfl, hn⟩, rfl⟩ := hs
    exact ⟨Mon.rf, fun _ _ _ _ _ _ _ _ k => g_lstore_n hd hn k⟩
  | astore j =>
    simp only [ex1, bindI, bindL, bindA, bindN, bindV, bindGI, bindGL, bindGN, gd_some, go1, Option.some.injEq, Bool.and_eq_true, beq_iff_eq, decide_eq_true_eq] at hs
    obtain ⟨x, r, rfl, ⟨rfl, hn⟩, rfl⟩ := hs
    cases x with
    | none => exact ⟨Mon.rf, fun _ _ _ _ _ _ _ _ k => g_astoreN hd hn k⟩
    | some a => exact ⟨Mon.rf, fun _ _ _ _ _ _ _ _ k => g_astore hd hn k⟩
  | astore_n j =>
    simp only [ex1, bindI, bindL, bindA, bindN, bindV, bindGI, bindGL, bindGN, gd_some, go1, Option.some.injEq, Bool.and_eq_true, beq_iff_eq, decide_eq_true_eq] at hs
    obtain ⟨x, r, rfl, ⟨rfl, hn⟩, rfl⟩ := hs
    cases x with
    | none => exact ⟨Mon.rf, fun _ _ _ _ _ _ _ _ k => g_astore_nN hd hn k⟩
    | some a => exact ⟨Mon.rf, fun _ _ _ _ _ _ _ _ k => g_astore_n hd hn k⟩
  | iinc j c0 =>
    simp only [ex1, bindI, bindL, bindA, bindN, bindV, bindGI, bindGL, bindGN, gd_some, go1, Option.some.injEq, Bool.and_eq_true, beq_iff_eq, decide_eq_true_eq] at hs
    obtain ⟨x, hl, hn, hs⟩ := hs
    split at hs
    · next hn3 =>
      subst hn3
      cases hs
      exact ⟨Mon.rf, fun _ _ _ _ _ _ _ _ k => g_iinc hd hl hn k⟩
    · split at hs
      · next hn6 =>
        subst hn6
        cases hs
        exact ⟨Mon.rf, fun _ _ _ _ _ _ _ _ k => g_iincW hd hl hn k⟩
      · cases hs
  | iadd =>
    simp only [ex1, bindI, bindL, bindA, bindN, bindV, bindGI, bindGL, bindGN, gd_some, go1, Option.some.injEq, Bool.and_eq_true, beq_iff_eq, decide_eq_true_eq] at hs
    obtain ⟨y, r1, rfl, x, r2, rfl, rfl, rfl⟩ := hs
    exact ⟨Mon.rf, fun _ _ _ _ _ _ _ _ k => g_iadd hd k⟩
  | isub =>
    simp only [ex1, bindI, bindL, bindA, bindN, bindV, bindGI, bindGL, bindGN, gd_some, go1, Option.some.injEq, Bool.and_eq_true, beq_iff_eq, decide_eq_true_eq] at hs
    obtain ⟨y, r1, rfl, x, r2, rfl, rfl, rfl⟩ := hs
    exact ⟨Mon.rf, fun _ _ _ _ _ _ _ _ k => g_isub hd k⟩
  | imul =>
    simp only [ex1, bindI, bindL, bindA, bindN, bindV, bindGI, bindGL, bindGN, gd_some, go1, Option.some.injEq, Bool.and_eq_true, beq_iff_eq, decide_eq_true_eq] at hs
    obtain ⟨y, r1, rfl, x, r2, rfl, rfl, rfl⟩ := hs
    exact ⟨Mon.rf, fun _ _ _ _ _ _ _ _ k => g_imul hd k⟩
  | iand =>
    simp only [ex1, bindI, bindL, bindA, bindN, bindV, bindGI, bindGL, bindGN, gd_some, go1, Option.some.injEq, Bool.and_eq_true, beq_iff_eq, decide_eq_true_eq] at hs
    obtain ⟨y, r1, rfl, x, r2, rfl, rfl, rfl⟩ := hs
    exact ⟨Mon.rf, fun _ _ _ _ _ _ _ _ k => g_iand hd k⟩
  | ior =>
    simp only [ex1, bindI, bindL, bindA, bindN, bindV, bindGI, bindGL, bindGN, gd_some, go1, Option.some.injEq, Bool.and_eq_true, beq_iff_eq, decide_eq_true_eq] at hs
    obtain ⟨y, r1, rfl, x, r2, rfl, rfl, rfl⟩ := hs
    exact ⟨Mon.rf, fun _ _ _ _ _ _ _ _ k => g_ior hd k⟩
  | ixor =>
    simp only [ex1, bindI, bindL, bindA, bindN, bindV, bindGI, bindGL, bindGN, gd_some, go1, Option.some.injEq, Bool.and_eq_true, beq_iff_eq, decide_eq_true_eq] at hs
    obtain ⟨y, r1, rfl, x, r2, rfl, rfl, rfl⟩ := hs
    exact ⟨Mon.rf, fun _ _ _ _ _ _ _ _ k => g_ixor hd k⟩
  | ishl =>
    simp only [ex1, bindI, bindL, bindA, bindN, bindV, bindGI, bindGL, bindGN, gd_some, go1, Option.some.injEq, Bool.and_eq_true, beq_iff_eq, decide_eq_true_eq] at hs
    obtain ⟨y, r1, rfl, x, r2, rfl, rfl, rfl⟩ := hs
    exact ⟨Mon.rf, fun _ _ _ _ _ _ _ _ k => g_ishl hd k⟩
  | ishr =>
    simp only [ex1, bindI, bindL, bindA, bindN, bindV, bindGI, bindGL, bindGN, gd_some, go1, Option.some.injEq, Bool.and_eq_true, beq_iff_eq, decide_eq_true_eq] at hs
    obtain ⟨y, r1, rfl, x, r2, rfl, rfl, rfl⟩ := hs
    exact ⟨Mon.rf, fun _ _ _ _ _ _ _ _ k => g_ishr hd k⟩
  | iushr =>
    simp only [ex1, bindI, bindL, bindA, bindN, bindV, bindGI, bindGL, bindGN, gd_some, go1, Option.some.injEq, Bool.and_eq_true, beq_iff_eq, decide_eq_true_eq] at hs
    obtain ⟨y, r1, rfl, x, r2, rfl, rfl, rfl⟩ := hs
    exact ⟨Mon.rf, fun _ _ _ _ _ _ _ _ k => g_iushr hd k⟩
  | ladd =>
    simp only [ex1, bindI, bindL, bindA, bindN, bindV, bindGI, bindGL, bindGN, gd_some, go1, Option.some.injEq, Bool.and_eq_true, beq_iff_eq, decide_eq_true_eq] at hs
    obtain ⟨y, r1, rfl, x, r2, rfl, rfl, rfl⟩ := hs
    exact ⟨Mon.rf, fun _ _ _ _ _ _ _ _ k => g_ladd hd k⟩
  | lsub =>
    simp only [ex1, bindI, bindL, bindA, bindN, bindV, bindGI, bindGL, bindGN, gd_some, go1, Option.some.injEq, Bool.and_eq_true, beq_iff_eq, decide_eq_true_eq] at hs
    obtain ⟨y, r1, rfl, x, r2, rfl, rfl, rfl⟩ := hs
    exact ⟨Mon.rf, fun _ _ _ _ _ _ _ _ k => g_lsub hd k⟩
  | lmul =>
    simp only [ex1, bindI, bindL, bindA, bindN, bindV, bindGI, bindGL, bindGN, gd_some, go1, Option.some.injEq, Bool.and_eq_true, beq_iff_eq, decide_eq_true_eq] at hs
    obtain ⟨y, r1, rfl, x, r2, rfl, rfl, rfl⟩ := hs
    exact ⟨Mon.rf, fun _ _ _ _ _ _ _ _ k => g_lmul hd k⟩
  | land =>
    simp only [ex1, bindI, bindL, bindA, bindN, bindV, bindGI, bindGL, bindGN, gd_some, go1, Option.some.injEq, Bool.and_eq_true, beq_iff_eq, decide_eq_true_eq] at hs
    obtain ⟨y, r1, rfl, x, r2, rfl, rfl, rfl⟩ := hs
    exact ⟨Mon.rf, fun _ _ _ _ _ _ _ _ k => g_land hd k⟩
  | lcmp =>
    simp only [ex1, bindI, bindL, bindA, bindN, bindV, bindGI, bindGL, bindGN, gd_some, go1, Option.some.injEq, Bool.and_eq_true, beq_iff_eq, decide_eq_true_eq] at hs
    obtain ⟨y, r1, rfl, x, r2, rfl, rfl, rfl⟩ := hs
    exact ⟨Mon.rf, fun _ _ _ _ _ _ _ _ k => g_lcmp hd k⟩
  | idiv =>
    simp only [ex1, bindI, bindL, bindA, bindN, bindV, bindGI, bindGL, bindGN, gd_some, go1, Option.some.injEq, Bool.and_eq_true, beq_iff_eq, decide_eq_true_eq] at hs
    obtain ⟨y, r1, rfl, x, r2, rfl, ⟨rfl, hne⟩, rfl⟩ := hs
    exact ⟨Mon.rf, fun _ _ _ _ _ _ _ _ k => g_idiv hd (by simpa using hne) k⟩
  | irem =>
    simp only [ex1, bindI, bindL, bindA, bindN, bindV, bindGI, bindGL, bindGN, gd_some, go1, Option.some.injEq, Bool.and_eq_true, beq_iff_eq, decide_eq_true_eq] at hs
    obtain ⟨y, r1, rfl, x, r2, rfl, ⟨rfl, hne⟩, rfl⟩ := hs
    exact ⟨Mon.rf, fun _ _ _ _ _ _ _ _ k => g_irem hd (by simpa using hne) k⟩
  | ldiv =>
    simp only [ex1, bindI, bindL, bindA, bindN, bindV, bindGI, bindGL, bindGN, gd_some, go1, Option.some.injEq, Bool.and_eq_true, beq_iff_eq, decide_eq_true_eq] at hs
    obtain ⟨y, r1, rfl, x, r2, rfl, ⟨rfl, hne⟩, rfl⟩ := hs
    exact ⟨Mon.rf, fun _ _ _ _ _ _ _ _ k => g_ldiv hd (by simpa using hne) k⟩
  | lrem =>
    simp only [ex1, bindI, bindL, bindA, bindN, bindV, bindGI, bindGL, bindGN, gd_some, go1, Option.some.injEq, Bool.and_eq_true, beq_iff_eq, decide_eq_true_eq] at hs
    obtain ⟨y, r1, rfl, x, r2, rfl, ⟨rfl, hne⟩, rfl⟩ := hs
    exact ⟨Mon.rf, fun _ _ _ _ _ _ _ _ k => g_lrem hd (by simpa using hne) k⟩
  | ineg =>
    simp only [ex1, bindI, bindL, bindA, bindN, bindV, bindGI, bindGL, bindGN, gd_some, go1, Option.some.injEq, Bool.and_eq_true, beq_iff_eq, decide_eq_true_eq] at hs
    obtain ⟨x, r, rfl, rfl, rfl⟩ := hs
    exact ⟨Mon.rf, fun _ _ _ _ _ _ _ _ k => g_ineg hd k⟩
  | lneg =>
    simp only [ex1, bindI, bindL, bindA, bindN, bindV, bindGI, bindGL, bindGN, gd_some, go1, Option.some.injEq, Bool.and_eq_true, beq_iff_eq, decide_eq_true_eq] at hs
    obtain ⟨x, r, rfl, rfl, rfl⟩ := hs
    exact ⟨Mon.rf, fun _ _ _ _ _ _ _ _ k => g_lneg hd k⟩
  | i2l =>
    simp only [ex1, bindI, bindL, bindA, bindN, bindV, bindGI, bindGL, bindGN, gd_some, go1, Option.some.injEq, Bool.and_eq_true, beq_iff_eq, decide_eq_true_eq] at hs
    obtain ⟨x, r, rfl, rfl, rfl⟩ := hs
    exact ⟨Mon.rf, fun _ _ _ _ _ _ _ _ k => g_i2l hd k⟩
  | l2i =>
    simp only [ex1, bindI, bindL, bindA, bindN, bindV, bindGI, bindGL, bindGN, gd_some, go1, Option.some.injEq, Bool.and_eq_true, beq_iff_eq, decide_eq_true_eq] at hs
    obtain ⟨x, r, rfl, rfl, rfl⟩ := hs
    exact ⟨Mon.rf, fun _ _ _ _ _ _ _ _ k => g_l2i hd k⟩
  | i2b =>
    simp only [ex1, bindI, bindL, bindA, bindN, bindV, bindGI, bindGL, bindGN, gd_some, go1, Option.some.injEq, Bool.and_eq_true, beq_iff_eq, decide_eq_true_eq] at hs
    obtain ⟨x, r, rfl, rfl, rfl⟩ := hs
    exact ⟨Mon.rf, fun _ _ _ _ _ _ _ _ k => g_i2b hd k⟩
  | i2s =>
    simp only [ex1, bindI, bindL, bindA, bindN, bindV, bindGI, bindGL, bindGN, gd_some, go1, Option.some.injEq, Bool.and_eq_true, beq_iff_eq, decide_eq_true_eq] at hs
    obtain ⟨x, r, rfl, rfl, rfl⟩ := hs
    exact ⟨Mon.rf, fun _ _ _ _ _ _ _ _ k => g_i2s hd k⟩
  | dup =>
    simp only [ex1, bindI, bindL, bindA, bindN, bindV, bindGI, bindGL, bindGN, gd_some, go1, Option.some.injEq, Bool.and_eq_true, beq_iff_eq, decide_eq_true_eq] at hs
    obtain ⟨v, r, rfl, ⟨rfl, hc⟩, rfl⟩ := hs
    exact ⟨Mon.rf, fun _ _ _ _ _ _ _ _ k => g_dup hd hc k⟩
  | dup2 =>
    simp only [ex1, bindI, bindL, bindA, bindN, bindV, bindGI, bindGL, bindGN, gd_some, go1, Option.some.injEq, Bool.and_eq_true, beq_iff_eq, decide_eq_true_eq] at hs
    obtain ⟨v, r, rfl, w, r2, rfl, ⟨⟨rfl, hc⟩, hc2⟩, rfl⟩ := hs
    exact ⟨Mon.rf, fun _ _ _ _ _ _ _ _ k => g_dup2 hd hc hc2 k⟩
  | if_icmp c0 off =>
    simp only [ex1, bindI, bindL, bindA, bindN, bindV, bindGI, bindGL, bindGN, gd_some, go1, Option.some.injEq, Bool.and_eq_true, beq_iff_eq, decide_eq_true_eq] at hs
    obtain ⟨y, r1, rfl, x, r2, rfl, ⟨rfl, hj⟩, rfl⟩ := hs
    refine ⟨Mon.rf, fun _ _ _ _ _ _ _ _ k => ?_⟩
    cases c0
    · exact g_icmp_eq hd hj k
    · exact g_icmp_ne hd hj k
    · exact g_icmp_lt hd hj k
    · exact g_icmp_ge hd hj k
    · exact g_icmp_gt hd hj k
    · exact g_icmp_le hd hj k
  | ifCond c0 off =>
    simp only [ex1, bindI, bindL, bindA, bindN, bindV, bindGI, bindGL, bindGN, gd_some, go1, Option.some.injEq, Bool.and_eq_true, beq_iff_eq, decide_eq_true_eq] at hs
    obtain ⟨x, r2, rfl, ⟨rfl, hj⟩, rfl⟩ := hs
    refine ⟨Mon.rf, fun _ _ _ _ _ _ _ _ k => ?_⟩
    cases c0
    · exact g_if_eq hd hj k
    · exact g_if_ne hd hj k
    · exact g_if_lt hd hj k
    · exact g_if_ge hd hj k
    · exact g_if_gt hd hj k
    · exact g_if_le hd hj k
  | ifnull off =>
    simp only [ex1, bindI, bindL, bindA, bindN, bindV, bindGI, bindGL, bindGN, gd_some, go1, Option.some.injEq, Bool.and_eq_true, beq_iff_eq, decide_eq_true_eq] at hs
    obtain ⟨x, r2, rfl, ⟨rfl, hj⟩, rfl⟩ := hs
    refine ⟨Mon.rf, fun _ _ _ _ _ _ _ _ k => ?_⟩
    cases x with
    | none => exact g_ifnullN hd hj k
    | some a => exact g_ifnull hd k
  | goto off =>
    simp only [ex1, bindI, bindL, bindA, bindN, bindV, bindGI, bindGL, bindGN, gd_some, go1, Option.some.injEq, Bool.and_eq_true, beq_iff_eq, decide_eq_true_eq] at hs
    obtain ⟨⟨rfl, hj⟩, rfl⟩ := hs
    exact ⟨Mon.rf, fun _ _ _ _ _ _ _ _ k => g_goto hd hj k⟩
  | tableswitch dflt lo hi offs =>
    simp only [ex1, bindI] at hs
    obtain ⟨x, r2, rfl, hs⟩ := hs
    split at hs
    · next hx =>
      simp only [ex1, bindI, bindL, bindA, bindN, bindV, bindGI, bindGL, bindGN, gd_some, go1, Option.some.injEq, Bool.and_eq_true, beq_iff_eq, decide_eq_true_eq] at hs
      obtain ⟨hj, rfl⟩ := hs
      exact ⟨Mon.rf, fun _ _ _ _ _ _ _ _ k => g_tabO hd hx hj k⟩
    · next hx =>
      simp only [Option.bind_eq_some_iff, gd_some, go1, Option.some.injEq] at hs
      obtain ⟨off, ho, hj, rfl⟩ := hs
      exact ⟨Mon.rf, fun _ _ _ _ _ _ _ _ k => g_tabI hd (fun q => hx (Or.inl q)) (fun q => hx (Or.inr q)) ho hj k⟩
  | lookupswitch dflt ps =>
    simp only [ex1, bindI, gd_some, go1, Option.some.injEq, Bool.and_eq_true] at hs
    obtain ⟨x, r2, rfl, ⟨hp, hj⟩, rfl⟩ := hs
    exact ⟨Mon.rf, fun _ _ _ _ _ _ _ _ k => g_look hd hp hj k⟩
  | getfield idx =>
    simp only [ex1] at hs
    cases hf : fRes M.2.2.2.2 idx with
    | none => rw [hf] at hs; cases hs
    | some q =>
      obtain ⟨ci, k, ne⟩ := q
      rw [hf, Option.bind_some] at hs
      simp only [bindA, gd_some, go1, Option.some.injEq, Bool.and_eq_true, beq_iff_eq] at hs
      obtain ⟨a, r, rfl, ⟨rfl, hk⟩, rfl⟩ := hs
      exact ⟨Mon.rf, fun _ _ _ _ _ _ _ _ k => g_get hd (fTab_ok _ _ (lk_mem hf)) hk k⟩
  | putfield idx =>
    simp only [ex1] at hs
    cases hf : fRes M.2.2.2.2 idx with
    | none => rw [hf] at hs; cases hs
    | some q =>
      obtain ⟨ci, k, ne⟩ := q
      have hq := fTab_ok _ _ (lk_mem hf)
      rw [hf, Option.bind_some] at hs
      dsimp only at hs
      split at hs
      · next hr =>
        simp only [bindN, bindA, gd_some, Bool.and_eq_true, beq_iff_eq] at hs
        obtain ⟨v, r1, rfl, a, r2, rfl, ⟨rfl, hk⟩, hs⟩ := hs
        split at hs
        · next hfi =>
          simp only [gd_some, go1, Option.some.injEq, Bool.and_eq_true, decide_eq_true_eq, Bool.not_eq_true'] at hs
          obtain ⟨⟨⟨h1, h2⟩, h3⟩, rfl⟩ := hs
          exact ⟨⟨Nat.le_refl _, Nat.le_refl _, rfl⟩, fun _ _ _ _ _ _ _ _ k => g_putF hd hq hk hr hfi h1 h2 h3 k⟩
        · next hfi =>
          cases hs
          exact ⟨⟨Nat.le_refl _, Nat.le_refl _, rfl⟩, fun _ _ _ _ _ _ _ _ k => g_putR hd hq hk hr (by simpa using hfi) k⟩
      · next hr =>
        simp only [bindI, bindA, gd_some, go1, Option.some.injEq, Bool.and_eq_true, beq_iff_eq, Bool.not_eq_true'] at hs
        obtain ⟨v, r1, rfl, a, r2, rfl, ⟨⟨⟨rfl, hk⟩, hv⟩, hfi⟩, rfl⟩ := hs
        exact ⟨⟨Nat.le_refl _, Nat.le_refl _, rfl⟩, fun _ _ _ _ _ _ _ _ k => g_putI hd hq hk (by simpa using hr) hfi hv k⟩
  | arraylength =>
    simp only [ex1, bindI, bindL, bindA, bindN, bindV, bindGI, bindGL, bindGN, gd_some, go1, Option.some.injEq, Bool.and_eq_true, beq_iff_eq, decide_eq_true_eq] at hs
    obtain ⟨a, r, rfl, ⟨⟨rfl, h1⟩, h2⟩, rfl⟩ := hs
    exact ⟨Mon.rf, fun _ _ _ _ _ _ _ _ k => g_alen hd h1 h2 k⟩
  | iaload =>
    simp only [ex1, bindI, bindL, bindA, bindN, bindV, bindGI, bindGL, bindGN, gd_some, go1, Option.some.injEq, Bool.and_eq_true, beq_iff_eq, decide_eq_true_eq] at hs
    obtain ⟨i, r1, rfl, a, r2, rfl, ⟨⟨rfl, hk⟩, hi⟩, rfl⟩ := hs
    exact ⟨Mon.rf, fun _ _ _ _ _ _ _ _ k => g_iald hd hk hi k⟩
  | saload =>
    simp only [ex1, bindI, bindL, bindA, bindN, bindV, bindGI, bindGL, bindGN, gd_some, go1, Option.some.injEq, Bool.and_eq_true, beq_iff_eq, decide_eq_true_eq] at hs
    obtain ⟨i, r1, rfl, a, r2, rfl, ⟨⟨rfl, hk⟩, hi⟩, rfl⟩ := hs
    exact ⟨Mon.rf, fun _ _ _ _ _ _ _ _ k => g_sald hd hk hi k⟩
  | laload =>
    simp only [ex1, bindI, bindL, bindA, bindN, bindV, bindGI, bindGL, bindGN, gd_some, go1, Option.some.injEq, Bool.and_eq_true, beq_iff_eq, decide_eq_true_eq] at hs
    obtain ⟨i, r1, rfl, a, r2, rfl, ⟨⟨rfl, hk⟩, hi⟩, rfl⟩ := hs
    exact ⟨Mon.rf, fun _ _ _ _ _ _ _ _ k => g_lald hd hk hi k⟩
  | baload =>
    simp only [ex1, bindI, bindA, gd_some, go1, Option.some.injEq, Bool.and_eq_true, Bool.or_eq_true, beq_iff_eq] at hs
    obtain ⟨i, r1, rfl, a, r2, rfl, ⟨⟨rfl, hk⟩, hi⟩, rfl⟩ := hs
    refine ⟨Mon.rf, fun _ _ _ _ _ _ _ _ k => ?_⟩
    rcases hk with hk | hk
    · exact g_bald hd hk hi k
    · exact g_zald hd hk hi k
  | iastore =>
    simp only [ex1, bindI, bindL, bindA, bindN, bindV, bindGI, bindGL, bindGN, gd_some, go1, Option.some.injEq, Bool.and_eq_true, beq_iff_eq, decide_eq_true_eq] at hs
    obtain ⟨v, r0, rfl, i, r1, rfl, a, r2, rfl, ⟨⟨rfl, hk⟩, hi⟩, rfl⟩ := hs
    exact ⟨⟨Nat.le_refl _, Nat.le_refl _, rfl⟩, fun _ _ _ _ _ _ _ _ k => g_iast hd hk hi k⟩
  | sastore =>
    simp only [ex1, bindI, bindL, bindA, bindN, bindV, bindGI, bindGL, bindGN, gd_some, go1, Option.some.injEq, Bool.and_eq_true, beq_iff_eq, decide_eq_true_eq] at hs
    obtain ⟨v, r0, rfl, i, r1, rfl, a, r2, rfl, ⟨⟨rfl, hk⟩, hi⟩, rfl⟩ := hs
    exact ⟨⟨Nat.le_refl _, Nat.le_refl _, rfl⟩, fun _ _ _ _ _ _ _ _ k => g_sast hd hk hi k⟩
  | lastore =>
    simp only [ex1, bindI, bindL, bindA, bindN, bindV, bindGI, bindGL, bindGN, gd_some, go1, Option.some.injEq, Bool.and_eq_true, beq_iff_eq, decide_eq_true_eq] at hs
    obtain ⟨v, r0, rfl, i, r1, rfl, a, r2, rfl, ⟨⟨rfl, hk⟩, hi⟩, rfl⟩ := hs
    exact ⟨⟨Nat.le_refl _, Nat.le_refl _, rfl⟩, fun _ _ _ _ _ _ _ _ k => g_last hd hk hi k⟩
  | bastore =>
    simp only [ex1, bindI, bindA, gd_some, go1, Option.some.injEq, Bool.and_eq_true, Bool.or_eq_true, beq_iff_eq] at hs
    obtain ⟨v, r0, rfl, i, r1, rfl, a, r2, rfl, ⟨⟨rfl, hk⟩, hi⟩, rfl⟩ := hs
    refine ⟨⟨Nat.le_refl _, Nat.le_refl _, rfl⟩, fun _ _ _ _ _ _ _ _ k => ?_⟩
    dsimp only at k
    rcases hk with hk | hk
    · rw [if_pos hk] at k
      exact g_bast hd hk hi k
    · rw [if_neg (by rw [hk]; decide)] at k
      exact g_zast hd hk hi k
  | new idx =>
    simp only [ex1, Option.bind_eq_some_iff, gd_some, go1, Option.some.injEq, Bool.and_eq_true, beq_iff_eq] at hs
    obtain ⟨ci, hc, ⟨rfl, hal⟩, rfl⟩ := hs
    exact ⟨⟨Nat.le_succ _, Nat.le_add_right _ _, rfl⟩, fun _ _ _ _ _ _ h1 h2 k => g_new hd (nCTab_ok _ _ (lk_mem hc)) hal h1 h2 k⟩
  | newarray t =>
    simp only [ex1, bindI, gd_some, go1, Option.some.injEq, Bool.and_eq_true, beq_iff_eq, decide_eq_true_eq, Bool.not_eq_true', decide_eq_false_iff_not] at hs
    obtain ⟨x, r, rfl, ⟨⟨⟨⟨rfl, hal⟩, ht⟩, hn⟩, hn6⟩, rfl⟩ := hs
    refine ⟨⟨Nat.le_succ _, Nat.le_add_right _ _, rfl⟩, fun _ _ _ _ _ _ h1 h2 k => ?_⟩
    cases t
    · exact g_newa_bool hd hal hn hn6 h1 h2 k
    · exact absurd ht (by decide)
    · exact absurd ht (by decide)
    · exact absurd ht (by decide)
    · exact g_newa_byte hd hal hn hn6 h1 h2 k
    · exact g_newa_short hd hal hn hn6 h1 h2 k
    · exact g_newa_int hd hal hn hn6 h1 h2 k
    · exact g_newa_long hd hal hn hn6 h1 h2 k
  | invokevirtual idx =>
    simp only [ex1, gd_some, beq_iff_eq] at hs
    obtain ⟨rfl, hs⟩ := hs
    exact cal_ok IH hd (Or.inl ⟨rfl, rfl⟩) hs
  | invokestatic idx =>
    simp only [ex1, gd_some, beq_iff_eq] at hs
    obtain ⟨rfl, hs⟩ := hs
    split at hs
    · next u hu =>
      simp only [bindI, bindA, gd_some, go1, Option.some.injEq, Bool.and_eq_true, beq_iff_eq, decide_eq_true_eq, Bool.not_eq_true', decide_eq_false_iff_not] at hs
      obtain ⟨k0, r1, rfl, dp, r2, rfl, a, r3, rfl, sp, r4, rfl, a0, r5, rfl, ⟨⟨⟨⟨⟨⟨⟨hk, hk0⟩, h3⟩, h2⟩, h1⟩, h4⟩, h5⟩, hw⟩, rfl⟩ := hs
      exact ⟨⟨Nat.le_refl _, Nat.le_refl _, rfl⟩, fun _ _ _ _ _ _ _ _ k => g_copy hd (aCTab_ok _ _ (lk_mem hu)) hk hk0 h1 h2 h3 h4 h5 hw (Nat.succ_le_succ (Nat.zero_le d)) k⟩
    · exact cal_ok IH hd (Or.inr (Or.inl ⟨rfl, rfl⟩)) hs
  | invokespecial idx =>
    simp only [ex1, gd_some, beq_iff_eq] at hs
    obtain ⟨rfl, hs⟩ := hs
    split at hs
    · next u hu =>
      simp only [bindA, gd_some, go1, Option.some.injEq] at hs
      obtain ⟨a, r, rfl, hw, rfl⟩ := hs
      exact ⟨Mon.rf, fun _ _ _ _ _ _ _ _ k => g_obj hd (oITab_ok _ _ (lk_mem hu)) hw (Nat.succ_le_succ (Nat.zero_le d)) k⟩
    · exact cal_ok IH hd (Or.inr (Or.inr ⟨rfl, rfl⟩)) hs
  | ireturn =>
    simp only [ex1, bindI] at hs
    obtain ⟨x, r, rfl, hs⟩ := hs
    split at hs
    · next hr =>
      simp only [gd_some, Option.some.injEq, Bool.and_eq_true, beq_iff_eq, List.isEmpty_iff] at hs
      obtain ⟨⟨rfl, rfl⟩, rfl⟩ := hs
      exact ⟨Mon.rf, fun _ _ _ _ _ h1 h2 => g_iret hd hr h1 h2⟩
    · next hr =>
      simp only [gd_some, Option.some.injEq, Bool.and_eq_true, beq_iff_eq, List.isEmpty_iff] at hs
      obtain ⟨⟨⟨rfl, rfl⟩, hv⟩, rfl⟩ := hs
      exact ⟨Mon.rf, fun _ _ _ _ _ h1 h2 => g_zret hd hr hv h1 h2⟩
    · cases hs
  | lreturn =>
    simp only [ex1, bindL, gd_some, Option.some.injEq, Bool.and_eq_true, beq_iff_eq, List.isEmpty_iff, decide_eq_true_eq] at hs
    obtain ⟨x, r, rfl, ⟨⟨rfl, rfl⟩, hr⟩, rfl⟩ := hs
    exact ⟨Mon.rf, fun _ _ _ _ _ h1 h2 => g_lret hd hr h1 h2⟩
  | areturn =>
    simp only [ex1, bindN, gd_some, Option.some.injEq, Bool.and_eq_true, beq_iff_eq, List.isEmpty_iff, decide_eq_true_eq] at hs
    obtain ⟨x, r, rfl, ⟨⟨rfl, rfl⟩, hr⟩, rfl⟩ := hs
    exact ⟨Mon.rf, fun _ _ _ _ _ h1 h2 => g_aret hd hr h1 h2⟩
  | return_ =>
    simp only [ex1, gd_some, Option.some.injEq, Bool.and_eq_true, beq_iff_eq, List.isEmpty_iff, decide_eq_true_eq] at hs
    obtain ⟨⟨⟨rfl, rfl⟩, hr⟩, rfl⟩ := hs
    exact ⟨Mon.rf, fun _ _ _ _ _ h1 h2 => g_vret hd hr h1 h2⟩
  | _ => cases hs
end STEP

-- THE PURE MACHINE IS SOUND, 4: calls
def PcM (D : va_G) (cy : Nat → ClassId) (b : Nat) (as : List Value) (h : Hp) : Array Value → State → Prop := fun v U => v = (as.map (mv b)).toArray ∧ Rep D cy b h U.heap ∧ va_K D vwCl (tysL cy) U ∧ (∀ x ∈ nwF, va_Nw (nwFw x) U) ∧ (∀ x ∈ nwM, va_Nw (nwMw x) U) ∧ b ≤ U.heap.size ∧ (hAl h = true → U.heap.size = b + hTop h) ∧ KP b U
def wsA (M : Mth) : List Cond := .code M.1 M.2.1 M.2.2.1 M.2.2.2.1 :: gtbl
def MetP (l : Launch) (d : Nat) (M : Mth) (as : List Value) (h : Hp) (r : Rs) : Prop := ∀ (D : va_G) (cy : Nat → ClassId) (b mc ms : Nat), hTop r.2 = hTop h + mc → hSl r.2 = hSl h + ms → Met l M.1 (wsA M) (rmm d mc ms) (PcM D cy b as h) (QcM D cy b r) mc ms (fun q => b ≤ q)
theorem PcM_blind {D : va_G} {cy : Nat → ClassId} {b : Nat} {as : List Value} {h : Hp} : FrameBlind (PcM D cy b as h) := by
  rintro a U g mk ⟨q1, q2, q3, q4, q5, q6, q7, q8⟩
  exact ⟨q1, q2, va_K.moved (u := U) (U := U.calling g mk a) (Vm.Alike.refl U.vm) q3, fun x hx => va_Nw.same rfl (u := U) (U := U.calling g mk a) rfl (q4 x hx), fun x hx => va_Nw.same rfl (u := U) (U := U.calling g mk a) rfl (q5 x hx), q6, q7, q8⟩
theorem gtbl_good {w : Cond} (h : w ∈ gtbl) : (w.onTables && w.keeps) = true ∨ ∃ ty, w = .arrayClass ty := good_of_word (List.mem_filter.mp h).2
theorem wsA_good {M : Mth} (h : mG M) : ∀ w ∈ wsA M, w ∈ gtbl ∧ ((w.onTables && w.keeps) = true ∨ ∃ ty, w = .arrayClass ty) := by
  intro w hw
  rcases List.mem_cons.mp hw with rfl | hw
  · exact ⟨h.1, gtbl_good h.1⟩
  · exact ⟨hw, gtbl_good hw⟩
theorem size_of {p : Program} {l : Launch} {e : Env} {R : Room} {s : State} {m : MethodId} {args : Array Value} {below : List Frame} {meth : Method} {c : Code} {T : State} {H : Heap} {locs : List Loc} {cells slots b t0 : Nat} {D : va_G} {cy : Nat → ClassId} {h : Hp}
    (Rp : Rep D cy b h H) (S : va_S (fun q => b ≤ q) s.heap H locs) (hb : b ≤ s.heap.size) (hz : hAl h = true → s.heap.size = b + t0) (e1 : cells + t0 = hTop h) (hT : T.heap = H) (X : Stand p l e R s m args below meth c T locs cells slots) : hAl h = true → H.size = b + hTop h := by
  intro hal
  have h1 : H.size ≤ s.heap.size + cells := by rw [← hT]; exact X.same.2.2.1
  have h2 := hz hal
  have h3 : b + hTop h ≤ H.size := by
    cases ht : hTop h with
    | zero => exact Nat.le_trans hb S.1
    | succ k =>
      have := (Rp.1 k _ (wl_get (by omega))).lt
      dsimp only at this
      omega
  omega
theorem sum_mv {b : Nat} {st : List Value} (h : w8 st = true) : ((st.map (mv b)).map fun v => v.category).sum ≤ 8 := by
  rw [List.map_map, show ((fun v : Value => v.category) ∘ mv b) = (fun v : Value => v.category) from funext (mv_cat b)]
  exact of_decide_eq_true h
theorem pc_of {s U : State} {args : Array Value} {D : va_G} {cy : Nat → ClassId} {b : Nat} {as : List Value} {h : Hp} {H : Heap} {p : Program} {m : MethodId} {meth : Method} {c : Code} {M : Mth} (F : Fx p s m args meth c M D cy) (Rp : Rep D cy b h H) (hb : b ≤ H.size) (hsz : hAl h = true → H.size = b + hTop h) (kp : KP b U) (hU : U.heap = H) (hW : s.WarmedH U.vm) : PcM D cy b as h (as.map (mv b)).toArray U :=
  ⟨rfl, by rw [hU]; exact Rp, va_K.moved hW.alike F.2.2.2.2.2.2.1, fun x hx => (F.2.2.2.2.2.2.2.2.1 x hx).warmF hW, fun x hx => (F.2.2.2.2.2.2.2.2.2.1 x hx).warmM hW, by rw [hU]; exact hb, by rw [hU]; exact hsz, kp⟩
section GWC
variable {l : Launch} {d t0 s0 mc ms b : Nat} {M : Mth} {r : Rs} {pc : Nat} {ls : Lc} {h : Hp}
theorem g_after {rest : List Value} {r' : Rs} {p : Program} {e : Env} {s : State} {m : MethodId} {args : Array Value} {below : List Frame} {meth : Method} {c : Code} {D : va_G} {cy : Nat → ClassId} {H : Heap} {locs : List Loc} {LS : Array Slot} {cells slots mc' ms' : Nat} {st0 : List Value} {av : Array Value}
    (F : Fx p s m args meth c M D cy) (L : LR b M.2.2.1 LS ls) (S : va_S (fun q => b ≤ q) s.heap H locs) (hb : bOK b s) (hz : hAl h = true → s.heap.size = b + t0) (e1 : cells + t0 = hTop h) (e2 : slots + s0 = hSl h) (ht : hTop r'.2 = hTop h + mc') (hsl : hSl r'.2 = hSl h + ms') (hal : hAl r'.2 = hAl h)
    (hrun : va_Run p l e (rmm (d + 1) mc ms) s m args below meth c H locs cells slots mc' ms' (F0 m pc LS st0) (rest.map (mv b)) (QcM D cy b r' av) (fun q => b ≤ q))
    (kk : GW l (d + 1) t0 s0 mc ms b M r (pc + 3) ls (r'.1.toList ++ rest) r'.2) : W p l e (rmm (d + 1) mc ms) s m args below meth c H locs cells slots (MQ below (QcM D cy b r) args s mc ms (fun q => b ≤ q)) (F0 m pc LS st0) := by
  intro T hT X
  obtain ⟨v, st₀, t, T', L2, h0, X', hL, f1, f2, hq, go⟩ := hrun T hT X
  obtain ⟨g1, g2, g3⟩ := hq
  cases g1
  have hS2 : va_S (fun q => b ≤ q) s.heap t.heap (locs ++ L2) := by
    refine ⟨Nat.le_trans S.1 (by rw [← h0]; exact g3.1), fun q h1 h2 => ?_, fun x hx => ?_⟩
    · rw [g3.2 q (by rw [h0]; exact Nat.lt_of_lt_of_le h1 S.1) h2, h0]
      exact S.2.1 q h1 h2
    · rcases List.mem_append.mp hx with hx | hx
      · exact S.2.2 x hx
      · exact hL x hx
  obtain ⟨t2, a1, b1⟩ := kk p e s m args below meth c D cy t.heap (locs ++ L2) LS (cells + mc') (slots + ms') F L g2 hS2 hb (by rw [hal]; exact hz) (by omega) (by omega) T' f1 X'
  refine ⟨t2, go t2 ?_, b1⟩
  have he : (r'.1.map (mv b)).toList ++ rest.map (mv b) = (r'.1.toList ++ rest).map (mv b) := by cases r'.1 <;> simp
  show Steps p.tables e below (T'.setTop (F0 m (pc + 3) LS ((r'.1.map (mv b)).toList ++ rest.map (mv b)))) t2
  rw [he]
  exact a1
theorem room_ok {M' : Mth} (h : mG M') (d : Nat) : 8 + (M'.2.2.1 + 11) + 42 * d ≤ 42 * (d + 1) := by
  have := h.2.2.2.2.2
  omega
theorem g_callV {idx np ci a : Nat} {M' : Mth} {As rest : List Value} {r' : Rs} (hd : decode M.2.1 pc = .ok (.invokevirtual idx, 3)) (hq : mOK M.2.2.2.2 (idx, M', np, 0, ci)) (hn : As.length = np) (hk : hK h a = ci) (hw8 : w8 rest = true) (hM : MetP l d M' (.ref a :: As) h r') (hle : hTop h ≤ hTop r'.2) (hsle : hSl h ≤ hSl r'.2) (hal : hAl r'.2 = hAl h) (hm : hTop r'.2 ≤ t0 + mc) (hs : hSl r'.2 ≤ s0 + ms) (kk : GW l (d + 1) t0 s0 mc ms b M r (pc + 3) ls (r'.1.toList ++ rest) r'.2) : GW l (d + 1) t0 s0 mc ms b M r pc ls (As.reverse ++ .ref a :: rest) h := by
  intro p e s m args below meth c D cy H locs LS cells slots F L Rp S hb hz e1 e2
  obtain ⟨q0, qn, q1, q2, q3, q4⟩ := hq
  dsimp only at q0 qn q1 q2 q3 q4
  have hnp : ∀ sig, parseMethodDescriptor M'.1.desc = some sig → np = sig.parameters.length := by
    intro sig hsg
    rw [hsg] at qn
    exact (Option.some.inj qn).symm
  obtain ⟨mc', ht⟩ : ∃ k, hTop r'.2 = hTop h + k := ⟨hTop r'.2 - hTop h, by omega⟩
  obtain ⟨ms', hsl⟩ : ∃ k, hSl r'.2 = hSl h + k := ⟨hSl r'.2 - hSl h, by omega⟩
  have hM2 := hM D cy b mc' ms' ht hsl
  intro T hT X
  have hsz := size_of Rp S hb.1 hz e1 hT X
  refine (g_after (av := (Value.ref (b + a) :: As.map (mv b)).toArray) (rest := rest) (r' := r') (mc' := mc') (ms' := ms') F L S hb hz e1 e2 ht hsl hal ?_ kk : W p l e (rmm (d + 1) mc ms) s m args below meth c H locs cells slots _ (F0 m pc LS ((As.reverse ++ .ref a :: rest).map (mv b)))) T hT X
  exact va_runV (bytes := M'.2.1) (maxL := M'.2.2.1) (ret := M'.2.2.2.1) (n := np) (own := cnm M.2.2.2.2) (C := cnm ci) (b := b + a) (As := As.map (mv b)) (rest := rest.map (mv b)) (Ts := gtbl) ⟨F.1, F.2.1, F.2.2.2.1, F.2.2.2.2.1, F.2.2.2.2.2.1⟩ hM2 ⟨⟨rfl, rfl, Nat.le_refl _, room_ok q0 d, pay_in F.2.2.2.2.2.1 (wsA_good q0), List.mem_cons_self, F.2.2.2.2.2.1 _ q0.1, F.2.2.2.2.2.1 _ q0.2.1, q0.2.2.1, hnp, (F.2.2.2.2.2.1 _ q1)⟩, F.2.2.2.2.2.1 _ q2, F.2.2.2.2.2.1 _ q3⟩ ⟨PcM_blind, va_recv (q := (cnm ci, TT ci, NN ci)) F.2.2.2.2.2.2.1 Rp.1 (cls_ok ci q4).1 (q0 := a) (by rw [wl_get (Rp.2 a (by rw [hk]; omega)), cE_obj hk q4]), fun U hU hW => pc_of F Rp (Nat.le_trans hb.1 S.1) hsz (hb.2.kept hb.1 S hU hW) hU hW⟩ rfl (by simp [hn]) L.1 (by simp [mv]) (by show 2 * 0 + _ ≤ 8; rw [Nat.mul_zero, Nat.zero_add]; exact sum_mv hw8) hd ⟨by show cells + mc' ≤ mc; omega, by show slots + ms' ≤ ms; omega⟩
theorem g_callVN {idx np ci a : Nat} {M' : Mth} {As rest : List Value} {r' : Rs} (hd : decode M.2.1 pc = .ok (.invokevirtual idx, 3)) (hq : mOK M.2.2.2.2 (idx, M', np, 1, ci)) (hn : As.length = np) (hk : hK h a = ci) (hw8 : w8 rest = true) (hM : MetP l d M' (.ref a :: As) h r') (hle : hTop h ≤ hTop r'.2) (hsle : hSl h ≤ hSl r'.2) (hal : hAl r'.2 = hAl h) (hm : hTop r'.2 ≤ t0 + mc) (hs : hSl r'.2 ≤ s0 + ms) (kk : GW l (d + 1) t0 s0 mc ms b M r (pc + 3) ls (r'.1.toList ++ rest) r'.2) : GW l (d + 1) t0 s0 mc ms b M r pc ls (As.reverse ++ .ref a :: rest) h := by
  intro p e s m args below meth c D cy H locs LS cells slots F L Rp S hb hz e1 e2
  obtain ⟨q0, qn, q1, q2, q3, q4⟩ := hq
  dsimp only at q0 qn q1 q2 q3 q4
  have hnp : ∀ sig, parseMethodDescriptor M'.1.desc = some sig → np = sig.parameters.length := by
    intro sig hsg
    rw [hsg] at qn
    exact (Option.some.inj qn).symm
  obtain ⟨mc', ht⟩ : ∃ k, hTop r'.2 = hTop h + k := ⟨hTop r'.2 - hTop h, by omega⟩
  obtain ⟨ms', hsl⟩ : ∃ k, hSl r'.2 = hSl h + k := ⟨hSl r'.2 - hSl h, by omega⟩
  have hM2 := hM D cy b mc' ms' ht hsl
  intro T hT X
  have hsz := size_of Rp S hb.1 hz e1 hT X
  refine (g_after (av := (Value.ref (b + a) :: As.map (mv b)).toArray) (rest := rest) (r' := r') (mc' := mc') (ms' := ms') F L S hb hz e1 e2 ht hsl hal ?_ kk : W p l e (rmm (d + 1) mc ms) s m args below meth c H locs cells slots _ (F0 m pc LS ((As.reverse ++ .ref a :: rest).map (mv b)))) T hT X
  exact va_runVN (bytes := M'.2.1) (maxL := M'.2.2.1) (ret := M'.2.2.2.1) (n := np) (own := cnm M.2.2.2.2) (C := cnm ci) (b := b + a) (As := As.map (mv b)) (rest := rest.map (mv b)) (Ts := gtbl) ⟨F.1, F.2.1, F.2.2.2.1, F.2.2.2.2.1, F.2.2.2.2.2.1⟩ hM2 ⟨⟨⟨rfl, rfl, Nat.le_refl _, room_ok q0 d, pay_in F.2.2.2.2.2.1 (wsA_good q0), List.mem_cons_self⟩, F.2.2.2.2.2.1 _ q0.1, F.2.2.2.2.2.1 _ q0.2.1, q0.2.2.1, hnp, ((F.2.2.2.2.2.2.2.2.2.1 _ q1).use rfl)⟩, F.2.2.2.2.2.1 _ q2, F.2.2.2.2.2.1 _ q3⟩ ⟨PcM_blind, va_recv (q := (cnm ci, TT ci, NN ci)) F.2.2.2.2.2.2.1 Rp.1 (cls_ok ci q4).1 (q0 := a) (by rw [wl_get (Rp.2 a (by rw [hk]; omega)), cE_obj hk q4]), fun U hU hW => pc_of F Rp (Nat.le_trans hb.1 S.1) hsz (hb.2.kept hb.1 S hU hW) hU hW⟩ rfl (by simp [hn]) L.1 (by simp [mv]) (by show 2 * 0 + _ ≤ 8; rw [Nat.mul_zero, Nat.zero_add]; exact sum_mv hw8) hd ⟨by show cells + mc' ≤ mc; omega, by show slots + ms' ≤ ms; omega⟩
theorem g_callS {idx np ci : Nat} {M' : Mth} {As rest : List Value} {r' : Rs} (hd : decode M.2.1 pc = .ok (.invokestatic idx, 3)) (hq : mOK M.2.2.2.2 (idx, M', np, 2, ci)) (hn : As.length = np) (hw8 : w8 rest = true) (hM : MetP l d M' As h r') (hle : hTop h ≤ hTop r'.2) (hsle : hSl h ≤ hSl r'.2) (hal : hAl r'.2 = hAl h) (hm : hTop r'.2 ≤ t0 + mc) (hs : hSl r'.2 ≤ s0 + ms) (kk : GW l (d + 1) t0 s0 mc ms b M r (pc + 3) ls (r'.1.toList ++ rest) r'.2) : GW l (d + 1) t0 s0 mc ms b M r pc ls (As.reverse ++ rest) h := by
  intro p e s m args below meth c D cy H locs LS cells slots F L Rp S hb hz e1 e2
  obtain ⟨q0, qn, q1, q2⟩ := hq
  dsimp only at q0 qn q1 q2
  have hnp : ∀ sig, parseMethodDescriptor M'.1.desc = some sig → np = sig.parameters.length := by
    intro sig hsg
    rw [hsg] at qn
    exact (Option.some.inj qn).symm
  obtain ⟨mc', ht⟩ : ∃ k, hTop r'.2 = hTop h + k := ⟨hTop r'.2 - hTop h, by omega⟩
  obtain ⟨ms', hsl⟩ : ∃ k, hSl r'.2 = hSl h + k := ⟨hSl r'.2 - hSl h, by omega⟩
  have hM2 := hM D cy b mc' ms' ht hsl
  intro T hT X
  have hsz := size_of Rp S hb.1 hz e1 hT X
  refine (g_after (av := (As.map (mv b)).toArray) (rest := rest) (r' := r') (mc' := mc') (ms' := ms') F L S hb hz e1 e2 ht hsl hal ?_ kk : W p l e (rmm (d + 1) mc ms) s m args below meth c H locs cells slots _ (F0 m pc LS ((As.reverse ++ rest).map (mv b)))) T hT X
  exact va_runS (bytes := M'.2.1) (maxL := M'.2.2.1) (ret := M'.2.2.2.1) (n := np) (own := cnm M.2.2.2.2) (As := As.map (mv b)) (rest := rest.map (mv b)) (Ts := gtbl) ⟨F.1, F.2.1, F.2.2.2.1, F.2.2.2.2.1, F.2.2.2.2.2.1⟩ hM2 ⟨⟨rfl, rfl, Nat.le_refl _, room_ok q0 d, pay_in F.2.2.2.2.2.1 (wsA_good q0), List.mem_cons_self, F.2.2.2.2.2.1 _ q0.1, F.2.2.2.2.2.1 _ q0.2.1, q0.2.2.1, hnp, (F.2.2.2.2.2.1 _ q1)⟩, F.2.2.2.2.2.1 _ q2⟩ ⟨PcM_blind, fun U hU hW => pc_of F Rp (Nat.le_trans hb.1 S.1) hsz (hb.2.kept hb.1 S hU hW) hU hW⟩ rfl (by simp [hn]) L.1 (by simp [mv]) (by show 2 * 0 + _ ≤ 8; rw [Nat.mul_zero, Nat.zero_add]; exact sum_mv hw8) hd ⟨by show cells + mc' ≤ mc; omega, by show slots + ms' ≤ ms; omega⟩
theorem g_callSN {idx np ci : Nat} {M' : Mth} {As rest : List Value} {r' : Rs} (hd : decode M.2.1 pc = .ok (.invokestatic idx, 3)) (hq : mOK M.2.2.2.2 (idx, M', np, 3, ci)) (hn : As.length = np) (hw8 : w8 rest = true) (hM : MetP l d M' As h r') (hle : hTop h ≤ hTop r'.2) (hsle : hSl h ≤ hSl r'.2) (hal : hAl r'.2 = hAl h) (hm : hTop r'.2 ≤ t0 + mc) (hs : hSl r'.2 ≤ s0 + ms) (kk : GW l (d + 1) t0 s0 mc ms b M r (pc + 3) ls (r'.1.toList ++ rest) r'.2) : GW l (d + 1) t0 s0 mc ms b M r pc ls (As.reverse ++ rest) h := by
  intro p e s m args below meth c D cy H locs LS cells slots F L Rp S hb hz e1 e2
  obtain ⟨q0, qn, q1, q2⟩ := hq
  dsimp only at q0 qn q1 q2
  have hnp : ∀ sig, parseMethodDescriptor M'.1.desc = some sig → np = sig.parameters.length := by
    intro sig hsg
    rw [hsg] at qn
    exact (Option.some.inj qn).symm
  obtain ⟨mc', ht⟩ : ∃ k, hTop r'.2 = hTop h + k := ⟨hTop r'.2 - hTop h, by omega⟩
  obtain ⟨ms', hsl⟩ : ∃ k, hSl r'.2 = hSl h + k := ⟨hSl r'.2 - hSl h, by omega⟩
  have hM2 := hM D cy b mc' ms' ht hsl
  intro T hT X
  have hsz := size_of Rp S hb.1 hz e1 hT X
  refine (g_after (av := (As.map (mv b)).toArray) (rest := rest) (r' := r') (mc' := mc') (ms' := ms') F L S hb hz e1 e2 ht hsl hal ?_ kk : W p l e (rmm (d + 1) mc ms) s m args below meth c H locs cells slots _ (F0 m pc LS ((As.reverse ++ rest).map (mv b)))) T hT X
  exact va_runSN (bytes := M'.2.1) (maxL := M'.2.2.1) (ret := M'.2.2.2.1) (n := np) (own := cnm M.2.2.2.2) (As := As.map (mv b)) (rest := rest.map (mv b)) (Ts := gtbl) ⟨F.1, F.2.1, F.2.2.2.1, F.2.2.2.2.1, F.2.2.2.2.2.1⟩ hM2 ⟨⟨⟨rfl, rfl, Nat.le_refl _, room_ok q0 d, pay_in F.2.2.2.2.2.1 (wsA_good q0), List.mem_cons_self⟩, F.2.2.2.2.2.1 _ q0.1, F.2.2.2.2.2.1 _ q0.2.1, q0.2.2.1, hnp, ((F.2.2.2.2.2.2.2.2.2.1 _ q1).use rfl)⟩, F.2.2.2.2.2.1 _ q2, trivial⟩ ⟨PcM_blind, fun U hU hW => pc_of F Rp (Nat.le_trans hb.1 S.1) hsz (hb.2.kept hb.1 S hU hW) hU hW⟩ rfl (by simp [hn]) L.1 (by simp [mv]) (by show 2 * 0 + _ ≤ 8; rw [Nat.mul_zero, Nat.zero_add]; exact sum_mv hw8) hd ⟨by show cells + mc' ≤ mc; omega, by show slots + ms' ≤ ms; omega⟩
theorem g_callI {idx np ci a : Nat} {M' : Mth} {As rest : List Value} {r' : Rs} (hd : decode M.2.1 pc = .ok (.invokespecial idx, 3)) (hq : mOK M.2.2.2.2 (idx, M', np, 4, ci)) (hn : As.length = np) (hw8 : w8 rest = true) (hM : MetP l d M' (.ref a :: As) h r') (hle : hTop h ≤ hTop r'.2) (hsle : hSl h ≤ hSl r'.2) (hal : hAl r'.2 = hAl h) (hm : hTop r'.2 ≤ t0 + mc) (hs : hSl r'.2 ≤ s0 + ms) (kk : GW l (d + 1) t0 s0 mc ms b M r (pc + 3) ls (r'.1.toList ++ rest) r'.2) : GW l (d + 1) t0 s0 mc ms b M r pc ls (As.reverse ++ .ref a :: rest) h := by
  intro p e s m args below meth c D cy H locs LS cells slots F L Rp S hb hz e1 e2
  obtain ⟨q0, qn, q1, q2, q3, q4⟩ := hq
  dsimp only at q0 qn q1 q2 q3 q4
  have hnp : ∀ sig, parseMethodDescriptor M'.1.desc = some sig → np = sig.parameters.length := by
    intro sig hsg
    rw [hsg] at qn
    exact (Option.some.inj qn).symm
  obtain ⟨mc', ht⟩ : ∃ k, hTop r'.2 = hTop h + k := ⟨hTop r'.2 - hTop h, by omega⟩
  obtain ⟨ms', hsl⟩ : ∃ k, hSl r'.2 = hSl h + k := ⟨hSl r'.2 - hSl h, by omega⟩
  have hM2 := hM D cy b mc' ms' ht hsl
  intro T hT X
  have hsz := size_of Rp S hb.1 hz e1 hT X
  refine (g_after (av := (Value.ref (b + a) :: As.map (mv b)).toArray) (rest := rest) (r' := r') (mc' := mc') (ms' := ms') F L S hb hz e1 e2 ht hsl hal ?_ kk : W p l e (rmm (d + 1) mc ms) s m args below meth c H locs cells slots _ (F0 m pc LS ((As.reverse ++ .ref a :: rest).map (mv b)))) T hT X
  have hcode : Cond.code M'.1 M'.2.1 M'.2.2.1 none ∈ wsA M' := by rw [← q4]; exact List.mem_cons_self
  have hcodeg : Cond.code M'.1 M'.2.1 M'.2.2.1 none ∈ gtbl := by rw [← q4]; exact q0.1
  exact va_runI (bytes := M'.2.1) (maxL := M'.2.2.1) (n := np) (own := cnm M.2.2.2.2) (b := b + a) (As := As.map (mv b)) (rest := rest.map (mv b)) (Ts := gtbl) ⟨F.1, F.2.1, F.2.2.2.1, F.2.2.2.2.1, F.2.2.2.2.2.1⟩ hM2 ⟨⟨rfl, rfl, Nat.le_refl _, room_ok q0 d, pay_in F.2.2.2.2.2.1 (wsA_good q0), hcode, F.2.2.2.2.2.1 _ hcodeg, F.2.2.2.2.2.1 _ q0.2.1, q0.2.2.1, hnp, (F.2.2.2.2.2.1 _ q1)⟩, q3, F.2.2.2.2.2.1 _ q2⟩ ⟨PcM_blind, fun U hU hW => pc_of F Rp (Nat.le_trans hb.1 S.1) hsz (hb.2.kept hb.1 S hU hW) hU hW⟩ rfl (by simp [hn]) L.1 (by simp [mv]) (by show 2 * 0 + _ ≤ 8; rw [Nat.mul_zero, Nat.zero_add]; exact sum_mv hw8) hd ⟨by show cells + mc' ≤ mc; omega, by show slots + ms' ≤ ms; omega⟩
theorem g_callIN {idx np ci a : Nat} {M' : Mth} {As rest : List Value} {r' : Rs} (hd : decode M.2.1 pc = .ok (.invokespecial idx, 3)) (hq : mOK M.2.2.2.2 (idx, M', np, 5, ci)) (hn : As.length = np) (hw8 : w8 rest = true) (hM : MetP l d M' (.ref a :: As) h r') (hle : hTop h ≤ hTop r'.2) (hsle : hSl h ≤ hSl r'.2) (hal : hAl r'.2 = hAl h) (hm : hTop r'.2 ≤ t0 + mc) (hs : hSl r'.2 ≤ s0 + ms) (kk : GW l (d + 1) t0 s0 mc ms b M r (pc + 3) ls (r'.1.toList ++ rest) r'.2) : GW l (d + 1) t0 s0 mc ms b M r pc ls (As.reverse ++ .ref a :: rest) h := by
  intro p e s m args below meth c D cy H locs LS cells slots F L Rp S hb hz e1 e2
  obtain ⟨q0, qn, q1, q2, q3, q4⟩ := hq
  dsimp only at q0 qn q1 q2 q3 q4
  have hnp : ∀ sig, parseMethodDescriptor M'.1.desc = some sig → np = sig.parameters.length := by
    intro sig hsg
    rw [hsg] at qn
    exact (Option.some.inj qn).symm
  obtain ⟨mc', ht⟩ : ∃ k, hTop r'.2 = hTop h + k := ⟨hTop r'.2 - hTop h, by omega⟩
  obtain ⟨ms', hsl⟩ : ∃ k, hSl r'.2 = hSl h + k := ⟨hSl r'.2 - hSl h, by omega⟩
  have hM2 := hM D cy b mc' ms' ht hsl
  intro T hT X
  have hsz := size_of Rp S hb.1 hz e1 hT X
  refine (g_after (av := (Value.ref (b + a) :: As.map (mv b)).toArray) (rest := rest) (r' := r') (mc' := mc') (ms' := ms') F L S hb hz e1 e2 ht hsl hal ?_ kk : W p l e (rmm (d + 1) mc ms) s m args below meth c H locs cells slots _ (F0 m pc LS ((As.reverse ++ .ref a :: rest).map (mv b)))) T hT X
  have hcode : Cond.code M'.1 M'.2.1 M'.2.2.1 none ∈ wsA M' := by rw [← q4]; exact List.mem_cons_self
  have hcodeg : Cond.code M'.1 M'.2.1 M'.2.2.1 none ∈ gtbl := by rw [← q4]; exact q0.1
  exact va_runIN (bytes := M'.2.1) (maxL := M'.2.2.1) (n := np) (own := cnm M.2.2.2.2) (b := b + a) (As := As.map (mv b)) (rest := rest.map (mv b)) (Ts := gtbl) ⟨F.1, F.2.1, F.2.2.2.1, F.2.2.2.2.1, F.2.2.2.2.2.1⟩ hM2 ⟨⟨⟨rfl, rfl, Nat.le_refl _, room_ok q0 d, pay_in F.2.2.2.2.2.1 (wsA_good q0), hcode⟩, F.2.2.2.2.2.1 _ hcodeg, F.2.2.2.2.2.1 _ q0.2.1, q0.2.2.1, hnp, ((F.2.2.2.2.2.2.2.2.2.1 _ q1).use rfl)⟩, q3, F.2.2.2.2.2.1 _ q2⟩ ⟨PcM_blind, fun U hU hW => pc_of F Rp (Nat.le_trans hb.1 S.1) hsz (hb.2.kept hb.1 S hU hW) hU hW⟩ rfl (by simp [hn]) L.1 (by simp [mv]) (by show 2 * 0 + _ ≤ 8; rw [Nat.mul_zero, Nat.zero_add]; exact sum_mv hw8) hd ⟨by show cells + mc' ≤ mc; omega, by show slots + ms' ≤ ms; omega⟩
end GWC

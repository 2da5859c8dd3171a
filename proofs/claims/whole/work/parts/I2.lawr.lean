-- THE LAW: rows of its walk
def LF (p : Program) (s : State) (m : MethodId) (meth : Method) (c : Code) (bs L : Nat) (xs : Nat → Int32) (D : va_G) (cy : Nat → ClassId) : Prop :=
  p.tables.exec = Jvm.exec ∧ c.code = code ∧ c.maxLocals = 7 ∧ s.vm.findClass (cnm 13) = some m.cls ∧ (∀ w ∈ gtbl, w.before #[Value.ref bs] s = true) ∧ va_K D vwCl (tysL cy) s ∧ (∀ x ∈ nwF, va_Nw (nwFw x) s) ∧ (∀ x ∈ nwM, va_Nw (nwMw x) s) ∧ va_X bs L xs s s.heap ∧ bs < s.heap.size ∧ meth.locks = false ∧ meth.sig.returnType = ret ∧ KP s.heap.size s
section LAWR
variable {p : Program} {l : Launch} {e : Env} {s : State} {m : MethodId} {below : List Frame} {meth : Method} {c : Code} {bs L : Nat} {xs : Nat → Int32} {D : va_G} {cy : Nat → ClassId} {H : Heap} {locs : List Loc} {cells slots : Nat} {Q : State → Prop} {pc : Nat} {LS : Array Slot} {st : List Value}
/-- a call of the law's, on handle a -/
theorem l_call {idx np ci a : Nat} {M' : Mth} {As rest : List Value} {h : Hp} {r' : Rs} (F : LF p s m meth c bs L xs D cy) (hd : decode code pc = .ok (.invokevirtual idx, 3)) (hq : mOK 13 (idx, M', np, 0, ci)) (hn : As.length = np) (hk : hK h a = ci) (ha : As.map (mv s.heap.size) = As) (hw : (rest.map fun v => v.category).sum ≤ 8) (hC : C 11 M' (.ref a :: As) h = some r') (ht : hTop r'.2 = hTop h) (hs : hSl r'.2 = hSl h) (hal : hAl h = false) (hLS : LS.size = 7) (hc1 : cells ≤ 601024) (hc2 : slots ≤ 7293034) (Rp : Rep D cy s.heap.size h H) (S : va_S (fun q => s.heap.size ≤ q) s.heap H locs)
    (kk : ∀ (H1 : Heap) (locs1 : List Loc), Rep D cy s.heap.size r'.2 H1 → va_S (fun q => s.heap.size ≤ q) s.heap H1 locs1 → W p l e room_1 s m #[Value.ref bs] below meth c H1 locs1 cells slots Q (F0 m (pc + 3) LS ((r'.1.map (mv s.heap.size)).toList ++ rest))) :
    W p l e room_1 s m #[Value.ref bs] below meth c H locs cells slots Q (F0 m pc LS (As.reverse ++ .ref (s.heap.size + a) :: rest)) := by
  obtain ⟨F1, F2, F3, F4, F5, F6, F7, F8, F9, F10, F11, F12, F13⟩ := F
  obtain ⟨q0, qn, q1, q2, q3, q4⟩ := hq
  dsimp only at q0 qn q1 q2 q3 q4
  have hnp : ∀ sig, parseMethodDescriptor M'.1.desc = some sig → np = sig.parameters.length := by
    intro sig hsg
    rw [hsg] at qn
    exact (Option.some.inj qn).symm
  have hM2 := (C_ok l 11 M' _ h r' q0 hC).2 D cy s.heap.size 0 0 (by rw [ht]; rfl) (by rw [hs]; rfl)
  have hpc : ∀ U : State, U.heap = H → s.WarmedH U.vm → PcM D cy s.heap.size (.ref a :: As) h ((Value.ref a :: As).map (mv s.heap.size)).toArray U := fun U hU hW => ⟨rfl, by rw [hU]; exact Rp, va_K.moved hW.alike F6, fun x hx => (F7 x hx).warmF hW, fun x hx => (F8 x hx).warmM hW, by rw [hU]; exact S.1, fun q => (by rw [hal] at q; cases q), F13.kept (Nat.le_refl _) S hU hW⟩
  have hrun := va_runV (p := p) (l := l) (e := e) (R := room_1) (s := s) (m := m) (args := #[Value.ref bs]) (below := below) (meth := meth) (c := c) (H := H) (locs := locs) (cells := cells) (slots := slots) (cc := code) (nL := 7) (bytes := M'.2.1) (maxL := M'.2.2.1) (ret := M'.2.2.2.1) (n := np) (own := cnm 13) (C := cnm ci) (b := s.heap.size + a) (As := As) (rest := rest) (Ts := gtbl) (index := idx) (g := F0 m pc LS (As.reverse ++ .ref (s.heap.size + a) :: rest)) ⟨F1, F2, F3, F4, F5⟩ hM2 ⟨⟨rfl, rfl, Nat.le_refl _, room_ok q0 11, pay_in F5 (wsA_good q0), List.mem_cons_self, F5 _ q0.1, F5 _ q0.2.1, q0.2.2.1, hnp, F5 _ q1⟩, F5 _ q2, F5 _ q3⟩ ⟨PcM_blind, va_recv (q := (cnm ci, TT ci, NN ci)) F6 Rp.1 (cls_ok ci q4).1 (q0 := a) (by rw [wl_get (Rp.2 a (by rw [hk]; omega)), cE_obj hk q4]), fun U hU hW => by
      have := hpc U hU hW
      rw [List.map_cons, ha] at this
      exact this⟩ rfl hn hLS rfl (by show 2 * 0 + _ ≤ 8; rw [Nat.mul_zero, Nat.zero_add]; exact hw) hd ⟨hc1, hc2⟩
  intro T hT X
  obtain ⟨v, st₀, t, T', L2, h0, X', hL, f1, f2, hq', go⟩ := hrun T hT X
  obtain ⟨g1, g2, g3⟩ := hq'
  cases g1
  have hS2 : va_S (fun q => s.heap.size ≤ q) s.heap t.heap (locs ++ L2) := by
    refine ⟨Nat.le_trans S.1 (by rw [← h0]; exact g3.1), fun q h1 h2 => ?_, fun x hx => ?_⟩
    · rw [g3.2 q (by rw [h0]; exact Nat.lt_of_lt_of_le h1 S.1) h2, h0]
      exact S.2.1 q h1 h2
    · rcases List.mem_append.mp hx with hx | hx
      · exact S.2.2 x hx
      · exact hL x hx
  obtain ⟨t2, a1, b1⟩ := kk t.heap (locs ++ L2) g2 hS2 T' f1 X'
  exact ⟨t2, go t2 a1, b1⟩
/-- script[i + k] on the stack -/
theorem l_arg {lv : List (Nat × Value)} {i k : Nat} {kc : Int} {q0 q4 : Nat} (F : LF p s m meth c bs L xs D cy) (hl : lv_has LS 7 lv) (h0 : lv[q0]? = some (0, .ref bs)) (h4 : lv[q4]? = some (4, .int (nI i))) (hk : Int32.ofInt kc = nI k) (hi : i + k < L) (hL : L < 2 ^ 31) (S : va_S (fun q => s.heap.size ≤ q) s.heap H locs)
    (d0 : decode code pc = .ok (.aload_n 0, 1)) (d1 : decode code (pc + 1) = .ok (.iload 4, 2)) (d2 : decode code (pc + 3) = .ok (.iconst kc, 1)) (d3 : decode code (pc + 4) = .ok (.iadd, 1)) (d4 : decode code (pc + 5) = .ok (.iaload, 1))
    (kk : W p l e room_1 s m #[Value.ref bs] below meth c H locs cells slots Q (F0 m (pc + 6) LS (.int (xs (i + k)) :: st))) : W p l e room_1 s m #[Value.ref bs] below meth c H locs cells slots Q (F0 m pc LS st) := by
  obtain ⟨F1, F2, F3, F4, F5, F6, F7, F8, F9, F10, F11, F12, F13⟩ := F
  refine lv_aload_n F1 F2 d0 rfl (lv_at hl q0 h0) ?_
  refine lv_iload F1 F2 d1 (lv_at hl q4 h4) ?_
  refine lv_iconst F1 F2 d2 rfl ?_
  refine lv_iadd F1 F2 d3 ?_
  have e1 : nI i + Int32.ofInt kc = nI (i + k) := by rw [hk, nI_add]
  rw [e1]
  refine va_sld F1 F2 F9 F10 (fun q => absurd q (Nat.not_le.mpr F10)) S (i := nI (i + k)) ?_ d4 ?_
  · rintro (q | q)
    · exact nI_pos (by omega) q
    · rw [nI_clamp (by omega)] at q
      omega
  · rw [nI_clamp (by omega)]
    exact kk
end LAWR

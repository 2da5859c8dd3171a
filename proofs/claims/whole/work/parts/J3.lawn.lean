-- THE LAW: rows for what it makes
section LAWN
variable {p : Program} {l : Launch} {e : Env} {s : State} {m : MethodId} {below : List Frame} {meth : Method} {c : Code} {bs L : Nat} {xs : Nat → Int32} {D : va_G} {cy : Nat → ClassId} {H : Heap} {locs : List Loc} {cells slots : Nat} {Q : State → Prop} {pc : Nat} {LS : Array Slot} {st : List Value} {h : Hp}
theorem l_new {idx ci : Nat} (F : LF p s m meth c bs L xs D cy) (hd : decode code pc = .ok (.new idx, 3)) (hq : nCOK 13 (idx, ci)) (e1 : cells = hTop h) (hm : cells + 1 ≤ 601024) (hs : slots + NN ci ≤ 7293034) (Rp : Rep D cy s.heap.size h H) (S : va_S (fun q => s.heap.size ≤ q) s.heap H locs)
    (kk : ∀ H1 : Heap, Rep D cy s.heap.size (hNew h ci (NN ci)) H1 → va_S (fun q => s.heap.size ≤ q) s.heap H1 locs → W p l e room_1 s m #[Value.ref bs] below meth c H1 locs (cells + 1) (slots + NN ci) Q (F0 m (pc + 3) LS (.ref (s.heap.size + hTop h) :: st))) :
    W p l e room_1 s m #[Value.ref bs] below meth c H locs cells slots Q (F0 m pc LS st) := by
  obtain ⟨F1, F2, F3, F4, F5, F6, F7, F8, F9, F10, F11, F12, F13⟩ := F
  obtain ⟨q1, q2, q3, q4⟩ := hq
  dsimp only at q1 q2 q3 q4
  obtain ⟨c1, c2, c3, c4⟩ := cls_ok ci q4
  refine va_new (ci := ci) (fs := (List.range (NN ci)).map (fun k => mv s.heap.size (fP (hNew h ci (NN ci)) (hTop h) ci k))) (C := cnm ci) (T := TT ci) (N := NN ci) F1 F2 F5 c2 (tyT ci) c3 F4 (F5 _ q1) (F5 _ q2) (F5 _ q3) F6 Rp.1 wl_D S (fun q hq => hq) c1 (fun j hj => ?_) hm hs hd (fun q H1 hP hD hS => ?_)
  · rw [new_fP q4 hj s.heap.size (NN ci)]
    unfold vp_V
    rw [List.getD_eq_getElem?_getD, List.getElem?_map, List.getElem?_range hj]
    rfl
  · intro T1 hT1 X1
    have hz1 : H1.size ≤ s.heap.size + (cells + 1) := by rw [← hT1]; exact X1.same.2.2.1
    have hq : q = s.heap.size + hTop h := new_addr hD (hD.2 _ _ wl_last) (by
      have h1 := (hP _ _ wl_last).lt
      dsimp only at h1
      omega)
    subst hq
    have hw := wl_push (cy := cy) (b := s.heap.size) (h := h) (h' := hNew h ci (NN ci)) rfl (cE_obj (up_s _ _ _) q4) (fun x hx => new_oth x hx)
    rw [hw] at hP
    exact kk H1 ⟨hP, new_rng Rp.2⟩ hS T1 hT1 X1
theorem l_newl {n : Int32} (F : LF p s m meth c bs L xs D cy) (hd : decode code pc = .ok (.newarray .long, 2)) (hn : ¬ n < 0) (hn6 : n.toNatClampNeg ≤ 60000) (e1 : cells = hTop h) (hm : cells + 1 ≤ 601024) (hs : slots + n.toNatClampNeg ≤ 7293034) (Rp : Rep D cy s.heap.size h H) (S : va_S (fun q => s.heap.size ≤ q) s.heap H locs)
    (kk : ∀ H1 : Heap, Rep D cy s.heap.size (hNew h 15 n.toNatClampNeg) H1 → va_S (fun q => s.heap.size ≤ q) s.heap H1 locs → W p l e room_1 s m #[Value.ref bs] below meth c H1 locs (cells + 1) (slots + n.toNatClampNeg) Q (F0 m (pc + 2) LS (.ref (s.heap.size + hTop h) :: st))) :
    W p l e room_1 s m #[Value.ref bs] below meth c H locs cells slots Q (F0 m pc LS (.int n :: st)) := by
  obtain ⟨F1, F2, F3, F4, F5, F6, F7, F8, F9, F10, F11, F12, F13⟩ := F
  refine va_newa (atype := .long) (ty := .long) (N' := n.toNatClampNeg) (a0 := (n.toNatClampNeg, .inr (.inl (fun _ => 0)))) F1 F2 (F5 _ aK_long) rfl F6 Rp.1 wl_D S (fun q hq => hq) (fun cA => rfl) hn rfl (cb8 hn6 (by decide)) hm hs hd (fun q cA H1 hK1 hP hD hS => ?_)
  intro T1 hT1 X1
  have hcA : cA = cy 15 := by
    have h1 := (hK1.2 5 (cA, .long) rfl).2
    have h2 := (hK1.2 2 (cy 15, .long) rfl).2
    exact Option.some.inj (Eq.trans (Eq.symm h1) h2)
  subst hcA
  have hz1 : H1.size ≤ s.heap.size + (cells + 1) := by rw [← hT1]; exact X1.same.2.2.1
  have hq : q = s.heap.size + hTop h := new_addr hD (hD.2 _ _ wl_last) (by
    have h1 := (hP _ _ wl_last).lt
    dsimp only at h1
    omega)
  subst hq
  have hw := wl_push (cy := cy) (b := s.heap.size) (h := h) (h' := hNew h 15 n.toNatClampNeg) rfl (cE_lon (up_s _ _ _)) (fun x hx => new_oth x hx)
  have hce : hN (hNew h 15 n.toNatClampNeg) (hTop h) = n.toNatClampNeg := up_s _ _ _
  have hcf : hJ (hNew h 15 n.toNatClampNeg) (hTop h) = fun _ => 0 := up_s _ _ _
  rw [hce, hcf] at hw
  rw [hw] at hP
  exact kk H1 ⟨hP, new_rng Rp.2⟩ hS T1 hT1 X1
/-- a constructor's call -/
theorem l_init {idx ci a mc' ms' : Nat} {M' : Mth} {rest : List Value} {r' : Rs} (F : LF p s m meth c bs L xs D cy) (hd : decode code pc = .ok (.invokespecial idx, 3)) (hq : mOK 13 (idx, M', 0, 4, ci)) (hw : (rest.map fun v => v.category).sum ≤ 8) (hM : MetP l 11 M' [.ref a] h r') (ht : hTop r'.2 = hTop h + mc') (hsl : hSl r'.2 = hSl h + ms') (e1 : cells = hTop h) (hLS : LS.size = 7) (hc1 : cells + mc' ≤ 601024) (hc2 : slots + ms' ≤ 7293034) (Rp : Rep D cy s.heap.size h H) (S : va_S (fun q => s.heap.size ≤ q) s.heap H locs)
    (kk : ∀ (H1 : Heap) (locs1 : List Loc), Rep D cy s.heap.size r'.2 H1 → va_S (fun q => s.heap.size ≤ q) s.heap H1 locs1 → W p l e room_1 s m #[Value.ref bs] below meth c H1 locs1 (cells + mc') (slots + ms') Q (F0 m (pc + 3) LS ((r'.1.map (mv s.heap.size)).toList ++ rest))) :
    W p l e room_1 s m #[Value.ref bs] below meth c H locs cells slots Q (F0 m pc LS (.ref (s.heap.size + a) :: rest)) := by
  obtain ⟨F1, F2, F3, F4, F5, F6, F7, F8, F9, F10, F11, F12, F13⟩ := F
  obtain ⟨q0, qn, q1, q2, q3, q4⟩ := hq
  dsimp only at q0 qn q1 q2 q3 q4
  have hnp : ∀ sig, parseMethodDescriptor M'.1.desc = some sig → 0 = sig.parameters.length := by
    intro sig hsg
    rw [hsg] at qn
    exact (Option.some.inj qn).symm
  have hM2 := hM D cy s.heap.size mc' ms' ht hsl
  intro T hT X
  have hsz := size_of (t0 := 0) Rp S (Nat.le_refl _) (fun _ => rfl) (by rw [e1]; rfl) hT X
  have hcode : Cond.code M'.1 M'.2.1 M'.2.2.1 none ∈ wsA M' := by rw [← q4]; exact List.mem_cons_self
  have hcodeg : Cond.code M'.1 M'.2.1 M'.2.2.1 none ∈ gtbl := by rw [← q4]; exact q0.1
  have hrun := va_runI (p := p) (l := l) (e := e) (R := room_1) (s := s) (m := m) (args := #[Value.ref bs]) (below := below) (meth := meth) (c := c) (H := H) (locs := locs) (cells := cells) (slots := slots) (cc := code) (nL := 7) (bytes := M'.2.1) (maxL := M'.2.2.1) (n := 0) (own := cnm 13) (b := s.heap.size + a) (As := []) (rest := rest) (Ts := gtbl) (index := idx) (g := F0 m pc LS (.ref (s.heap.size + a) :: rest)) ⟨F1, F2, F3, F4, F5⟩ hM2 ⟨⟨rfl, rfl, Nat.le_refl _, room_ok q0 11, pay_in F5 (wsA_good q0), hcode, F5 _ hcodeg, F5 _ q0.2.1, q0.2.2.1, hnp, F5 _ q1⟩, q3, F5 _ q2⟩ ⟨PcM_blind, fun U hU hW => ⟨rfl, by rw [hU]; exact Rp, va_K.moved hW.alike F6, fun x hx => (F7 x hx).warmF hW, fun x hx => (F8 x hx).warmM hW, by rw [hU]; exact S.1, fun q => (by rw [hU]; exact hsz q), F13.kept (Nat.le_refl _) S hU hW⟩⟩ rfl rfl hLS rfl (by show 2 * 0 + _ ≤ 8; rw [Nat.mul_zero, Nat.zero_add]; exact hw) hd ⟨hc1, hc2⟩
  obtain ⟨v, st₀, t, T', L2, h0, X', hL, f1, f2, hq', go⟩ := hrun T hT X
  obtain ⟨g1, g2, g3⟩ := hq'
  cases g1
  have hS2 : va_S (fun q => s.heap.size ≤ q) s.heap t.heap (locs ++ L2) := by
    refine ⟨Nat.le_trans S.1 (by rw [← h0]; exact g3.1), fun q h1 h2 => ?_, fun x hx => ?_⟩
    · rw [g3.2 q (by rw [h0]; exact Nat.lt_of_lt_of_le h1 S.1) h2, h0]
      exact S.2.1 q h1 h2
    · rcases List.mem_append.mp hx with hx | hx
      · exact S.2.2 x hx
      · exact hL x hx
  obtain ⟨t2, a1, b1⟩ := kk t.heap (locs ++ L2) g2 hS2 T' f1 X'
  exact ⟨t2, go t2 a1, b1⟩
end LAWN

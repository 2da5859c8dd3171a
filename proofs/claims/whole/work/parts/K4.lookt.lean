-- LOOK: where it throws
theorem t5_in {w : Cond} (i : Nat) (h : tables_1_5[i]? = some w) : w ∈ tables_1 := List.mem_append_right _ (List.mem_append_right _ (List.mem_append_right _ (List.mem_append_right _ (List.mem_append_left _ (List.mem_of_getElem? h)))))
theorem t6_in {w : Cond} (i : Nat) (h : tables_1_6[i]? = some w) : w ∈ tables_1 := List.mem_append_right _ (List.mem_append_right _ (List.mem_append_right _ (List.mem_append_right _ (List.mem_append_right _ (List.mem_append_left _ (List.mem_of_getElem? h))))))
theorem gv_9 : gvL[9]? = some (Cond.isRef (.static Bundle.tN "UNASSIGNED_STACK" Bundle.steD)) := by decide +kernel
theorem gv_10 : gvL[10]? = some (Cond.isRef (.static Bundle.tN "SUPPRESSED_SENTINEL" Bundle.listD)) := by decide +kernel
theorem gv_24 : gvL[24]? = some (Cond.not (.castable xN xI)) := by decide +kernel
theorem gv_169 : gvL[169]? = some (Cond.exactly (.string RX11 163) "java/lang/String") := by decide +kernel
theorem gv_187 : gvL[187]? = some (Cond.exactly (.string RX11 190) "java/lang/String") := by decide +kernel
theorem KP_st {b : Nat} {U : State} (k : KP b U) : vx_Zq Bundle.tN "UNASSIGNED_STACK" Bundle.steD (fun q => b ≤ q) U U.heap ∧ vx_Zq Bundle.tN "SUPPRESSED_SENTINEL" Bundle.listD (fun q => b ≤ q) U U.heap := by
  obtain ⟨s0, a0, h1, h2, h3, h4, h5⟩ := k
  have hf : ∀ c ∈ gvL, c.before #[Value.ref a0] s0 = true := flat_of_before _ h3
  have hA : ∀ a : Nat, a < s0.heap.size → ¬ b ≤ a := fun a ha => by omega
  have hkept : ∀ a : Nat, a < s0.heap.size → ¬ b ≤ a → U.heap[a]? = s0.heap[a]? := fun a ha _ => h5 a (by omega)
  exact ⟨((vx_Zqof (h2 _ (t5_in 228 rfl)) (h2 _ (t1_in 19 rfl)) (hf _ (List.mem_of_getElem? gv_9)) hA).moved h4.alike).kept hkept, ((vx_Zqof (h2 _ (t5_in 230 rfl)) (h2 _ (t1_in 19 rfl)) (hf _ (List.mem_of_getElem? gv_10)) hA).moved h4.alike).kept hkept⟩
theorem KP_s1 {b : Nat} {U : State} (k : KP b U) : ∃ sa, vk_R RX11 163 "no such clock" sa U := by
  obtain ⟨s0, a0, h1, h2, h3, h4, h5⟩ := k
  have hf : ∀ c ∈ gvL, c.before #[Value.ref a0] s0 = true := flat_of_before _ h3
  obtain ⟨a, c, cA, kA, q1, -⟩ := Cond.exactly_spec (args := #[Value.ref a0]) (first := s0) (o := none) (s := s0) (idx := []) (t := .string RX11 163) (cls := "java/lang/String") (hf _ (List.mem_of_getElem? gv_169))
  exact ⟨a, vk_R.warm h4 (vk_R.of (h2 _ (t6_in 1 rfl)) q1)⟩
theorem KP_s2 {b : Nat} {U : State} (k : KP b U) : ∃ sa, vk_R RX11 190 "no such what" sa U := by
  obtain ⟨s0, a0, h1, h2, h3, h4, h5⟩ := k
  have hf : ∀ c ∈ gvL, c.before #[Value.ref a0] s0 = true := flat_of_before _ h3
  obtain ⟨a, c, cA, kA, q1, -⟩ := Cond.exactly_spec (args := #[Value.ref a0]) (first := s0) (o := none) (s := s0) (idx := []) (t := .string RX11 190) (cls := "java/lang/String") (hf _ (List.mem_of_getElem? gv_187))
  exact ⟨a, vk_R.warm h4 (vk_R.of (h2 _ (t6_in 36 rfl)) q1)⟩
theorem KP_nc {b : Nat} {U : State} (k : KP b U) : va_Nc xN xI U := by
  obtain ⟨s0, a0, h1, h2, h3, h4, h5⟩ := k
  have hf : ∀ c ∈ gvL, c.before #[Value.ref a0] s0 = true := flat_of_before _ h3
  exact (va_Nc.of (hf _ (List.mem_of_getElem? gv_24))).moved h4.alike
theorem dk_0 : decode cX11_look 0 = .ok (.aload_n 0, 1) := by decide +kernel
theorem dk_1 : decode cX11_look 1 = .ok (.iload_n 1, 1) := by decide +kernel
theorem dk_2 : decode cX11_look 2 = .ok (.invokevirtual 157, 3) := by decide +kernel
theorem dk_5 : decode cX11_look 5 = .ok (.ifCond .ne 13, 3) := by decide +kernel
theorem dk_8 : decode cX11_look 8 = .ok (.new 161, 3) := by decide +kernel
theorem dk_11 : decode cX11_look 11 = .ok (.dup, 1) := by decide +kernel
theorem dk_12 : decode cX11_look 12 = .ok (.ldc 163, 2) := by decide +kernel
theorem dk_14 : decode cX11_look 14 = .ok (.invokespecial 165, 3) := by decide +kernel
theorem dk_17 : decode cX11_look 17 = .ok (.athrow, 1) := by decide +kernel
theorem dk_18 : decode cX11_look 18 = .ok (.iload_n 2, 1) := by decide +kernel
theorem dk_19 : decode cX11_look 19 = .ok (.tableswitch 125 0 7 #[45, 55, 65, 75, 85, 95, 105, 115], 45) := by decide +kernel
theorem dk_144 : decode cX11_look 144 = .ok (.new 188, 3) := by decide +kernel
theorem dk_147 : decode cX11_look 147 = .ok (.dup, 1) := by decide +kernel
theorem dk_148 : decode cX11_look 148 = .ok (.ldc 190, 2) := by decide +kernel
theorem dk_150 : decode cX11_look 150 = .ok (.invokespecial 192, 3) := by decide +kernel
theorem dk_153 : decode cX11_look 153 = .ok (.athrow, 1) := by decide +kernel
section FCALL
variable {p : Program} {l : Launch} {e : Env} {R : Room} {s : State} {m : MethodId} {args : Array Value} {below : List Frame} {meth : Method} {c : Code} {H : Heap} {locs : List Loc} {cells slots : Nat} {Q : State → Prop} {pc : Nat} {LS : Array Slot} {D : va_G} {cy : Nat → ClassId}
/-- a call out of any method, on handle a -/
theorem f_call {cc : ByteArray} {nL o idx np ci a d b : Nat} {M' : Mth} {h : Hp} {r' : Rs} (As rest : List Value) (F1 : p.tables.exec = Jvm.exec) (F2 : c.code = cc) (F3 : c.maxLocals = nL) (F4 : s.vm.findClass (cnm o) = some m.cls) (F5 : ∀ w ∈ gtbl, w.before args s = true) (F6 : va_K D vwCl (tysL cy) s) (F7 : ∀ x ∈ nwF, va_Nw (nwFw x) s) (F8 : ∀ x ∈ nwM, va_Nw (nwMw x) s) (kp : KP b s) (hb : b ≤ s.heap.size)
    (hd : decode cc pc = .ok (.invokevirtual idx, 3)) (hq : mOK o (idx, M', np, 0, ci)) (hn : As.length = np) (hk : hK h a = ci) (ha : As.map (mv b) = As) (hw : (rest.map fun v => v.category).sum ≤ 8) (hC : C d M' (.ref a :: As) h = some r') (ht : hTop r'.2 = hTop h) (hs : hSl r'.2 = hSl h) (hal : hAl h = false) (hLS : LS.size = nL) (hRf : d + 1 ≤ R.frames) (hRl : 42 * (d + 1) ≤ R.locals) (hc1 : cells ≤ R.cells) (hc2 : slots ≤ R.slots) (Rp : Rep D cy b h H) (S : va_S (fun q => b ≤ q) s.heap H locs)
    (kk : ∀ (H1 : Heap) (locs1 : List Loc), Rep D cy b r'.2 H1 → va_S (fun q => b ≤ q) s.heap H1 locs1 → W p l e R s m args below meth c H1 locs1 cells slots Q (F0 m (pc + 3) LS ((r'.1.map (mv b)).toList ++ rest))) :
    W p l e R s m args below meth c H locs cells slots Q (F0 m pc LS (As.reverse ++ .ref (b + a) :: rest)) := by
  obtain ⟨q0, qn, q1, q2, q3, q4⟩ := hq
  dsimp only at q0 qn q1 q2 q3 q4
  have hnp : ∀ sig, parseMethodDescriptor M'.1.desc = some sig → np = sig.parameters.length := by
    intro sig hsg
    rw [hsg] at qn
    exact (Option.some.inj qn).symm
  have hM2 := (C_ok l d M' _ h r' q0 hC).2 D cy b 0 0 (by rw [ht]; rfl) (by rw [hs]; rfl)
  have hpc : ∀ U : State, U.heap = H → s.WarmedH U.vm → PcM D cy b (.ref a :: As) h ((Value.ref a :: As).map (mv b)).toArray U := fun U hU hW => ⟨rfl, by rw [hU]; exact Rp, va_K.moved hW.alike F6, fun x hx => (F7 x hx).warmF hW, fun x hx => (F8 x hx).warmM hW, by rw [hU]; exact Nat.le_trans hb S.1, fun q => (by rw [hal] at q; cases q), kp.kept hb S hU hW⟩
  have hrun := va_runV (p := p) (l := l) (e := e) (R := R) (s := s) (m := m) (args := args) (below := below) (meth := meth) (c := c) (H := H) (locs := locs) (cells := cells) (slots := slots) (cc := cc) (nL := nL) (bytes := M'.2.1) (maxL := M'.2.2.1) (ret := M'.2.2.2.1) (n := np) (own := cnm o) (C := cnm ci) (b := b + a) (As := As) (rest := rest) (Ts := gtbl) (index := idx) (g := F0 m pc LS (As.reverse ++ .ref (b + a) :: rest)) ⟨F1, F2, F3, F4, F5⟩ hM2 ⟨⟨rfl, rfl, hRf, Nat.le_trans (room_ok q0 d) hRl, pay_in F5 (wsA_good q0), List.mem_cons_self, F5 _ q0.1, F5 _ q0.2.1, q0.2.2.1, hnp, F5 _ q1⟩, F5 _ q2, F5 _ q3⟩ ⟨PcM_blind, va_recv (q := (cnm ci, TT ci, NN ci)) F6 Rp.1 (cls_ok ci q4).1 (q0 := a) (by rw [wl_get (Rp.2 a (by rw [hk]; omega)), cE_obj hk q4]), fun U hU hW => by
      have := hpc U hU hW
      rw [List.map_cons, ha] at this
      exact this⟩ rfl hn hLS rfl (by show 2 * 0 + _ ≤ 8; rw [Nat.mul_zero, Nat.zero_add]; exact hw) hd ⟨hc1, hc2⟩
  intro T hT X
  obtain ⟨v, st₀, t, T', L2, h0, X', hL, f1, f2, hq', go⟩ := hrun T hT X
  obtain ⟨g1, g2, g3⟩ := hq'
  cases g1
  have hS2 : va_S (fun q => b ≤ q) s.heap t.heap (locs ++ L2) := by
    refine ⟨Nat.le_trans S.1 (by rw [← h0]; exact g3.1), fun q h1 h2 => ?_, fun x hx => ?_⟩
    · rw [g3.2 q (by rw [h0]; exact Nat.lt_of_lt_of_le h1 S.1) h2, h0]
      exact S.2.1 q h1 h2
    · rcases List.mem_append.mp hx with hx | hx
      · exact S.2.2 x hx
      · exact hL x hx
  obtain ⟨t2, a1, b1⟩ := kk t.heap (locs ++ L2) g2 hS2 T' f1 X'
  exact ⟨t2, go t2 a1, b1⟩
end FCALL
theorem Rep.same {D : va_G} {cy : Nat → ClassId} {b : Nat} {h : Hp} {H H1 : Heap} (Rp : Rep D cy b h H) (hs : ∀ q : Nat, q < H.size → H1[q]? = H[q]?) : Rep D cy b h H1 := ⟨fun k q hq => (Rp.1 k q hq).kept (hs q.1 (Rp.1 k q hq).lt), Rp.2⟩
def XCl (D : va_G) (cy : Nat → ClassId) (b : Nat) (h : Hp) (E0 : String) : String → State → State → Prop := fun E st t => E = E0 ∧ Rep D cy b h t.heap ∧ va_F (fun q => b ≤ q) st t
theorem lkS_ok {b : Nat} {s : State} {args : Array Value} (k : KP b s) {L : List Cond} (h : ∀ w ∈ L, w ∈ slT ∧ gw2 w = true ∧ vx_ot w = true) : (∀ w ∈ L, w.before args s = true) ∧ ∀ w ∈ L, vx_ot w = true := ⟨fun w hw => KP_w k (slT_in w (h w hw).1) (h w hw).2.1, fun w hw => (h w hw).2.2⟩
section LKT
variable {l : Launch} {b t : Nat} {D : va_G} {cy : Nat → ClassId} {I : Mem} {J : MemL} {R : MemR} {x y : Int32}
theorem lk_t1 (hl : l.stackTraces = false) (ht : isTe t) (hR : R 0 3 = some t) (hic : icF (I (t + 5) 1) x = 0) : vx_Met l yX11_look (wsA MX11_look) (rmm 10 1 6) (PcM D cy b [.ref 0, .int x, .int y] (hp I J R)) (fun _ _ _ _ => False) (XCl D cy b (hp I J R) xI) 1 6 (fun q => b ≤ q) := by
  refine vx_ofW (cc := cX11_look) (maxL := 3) (ret := some .int) mgX11_look.2.2.2.1 rfl ?_
  intro p e s m args below meth c s₁ B hml htab hv
  obtain ⟨rfl, Rp, hK, hF, hMw, hb, hz, hkp⟩ := hv
  have F5 : ∀ w ∈ gtbl, w.before (([.ref 0, .int x, .int y] : List Value).map (mv b)).toArray s = true := fun w hw => atoms_spec (ws := wsA MX11_look) B.pre w (List.mem_cons_of_mem _ hw)
  have hown : s.vm.findClass RX11 = some m.cls := findClass_of_methodNamed B.named
  rw [lg_entry_eq]
  have hl0 := lv_entry (([.ref 0, .int x, .int y] : List Value).map (mv b)) (n := 3) (Nat.le_of_ble_eq_true rfl)
  show W p l e (rmm 10 1 6) s m _ below meth c s.heap [] 0 0 _ _
  refine lv_aload_n (x := b + 0) B.exec B.bytes dk_0 rfl (lv_at hl0 0 rfl) ?_
  refine lv_iload_n (x := x) B.exec B.bytes dk_1 rfl (lv_at hl0 1 rfl) ?_
  refine f_call (o := 11) (d := 9) (b := b) (a := 0) [.int x] [] B.exec B.bytes hml hown F5 hK hF hMw hkp hb dk_2 mo11_157 rfl rfl rfl (by decide) (icl_c (d := 8) (J := J) (x := x) ht hR) rfl rfl rfl hl0.1 (by decide) (by decide) (Nat.zero_le _) (Nat.zero_le _) Rp va_S.rf (fun H1 locs1 R1 S1 => ?_)
  rw [hic]
  refine lv_if_ne (x := 0) B.exec B.bytes dk_5 (tgt := 18) rfl (fun q => absurd rfl q) (fun _ => ?_)
  obtain ⟨sa, hsa⟩ := KP_s1 hkp
  obtain ⟨z1, z2⟩ := KP_st hkp
  obtain ⟨w1, w2⟩ := lkS_ok (args := (([.ref 0, .int x, .int y] : List Value).map (mv b)).toArray) hkp lkI_ok
  exact tx_throw (own := RX11) (cls := xI) (Yn := "java/lang/RuntimeException") (names := ["java/lang/Exception"]) (ik := 161) (is := 163) (ic := 165) (ix := 7) (rx := prog_19_method_2_code) B.exec B.bytes hl (by decide +kernel) (by decide +kernel) (by decide +kernel) (by decide +kernel) hown (by decide +kernel) (by decide +kernel) (by decide +kernel) hsa w1 w2 z1 z2 S1 (by rw [hml]; exact hl0.1) dk_8 dk_11 dk_12 dk_14 dk_17 (fun z hz => (htab z hz).elim) (by decide) (by decide) (by decide) (by decide) B.notSynchronized (fun u hu h1 h2 => ⟨rfl, R1.same h2, Nat.le_trans S1.1 h1, fun q g1 g2 => (h2 q (Nat.lt_of_lt_of_le g1 S1.1)).trans (S1.2.1 q g1 g2)⟩) S1.2.2 (Nat.le_refl _) (Nat.le_refl _)
theorem lk_t2 (hl : l.stackTraces = false) (ht : isTe t) (hR : R 0 3 = some t) (hic : icF (I (t + 5) 1) x = 1) (hy : y < 0 ∨ 7 < y) : vx_Met l yX11_look (wsA MX11_look) (rmm 10 1 6) (PcM D cy b [.ref 0, .int x, .int y] (hp I J R)) (fun _ _ _ _ => False) (XCl D cy b (hp I J R) xN) 1 6 (fun q => b ≤ q) := by
  refine vx_ofW (cc := cX11_look) (maxL := 3) (ret := some .int) mgX11_look.2.2.2.1 rfl ?_
  intro p e s m args below meth c s₁ B hml htab hv
  obtain ⟨rfl, Rp, hK, hF, hMw, hb, hz, hkp⟩ := hv
  have F5 : ∀ w ∈ gtbl, w.before (([.ref 0, .int x, .int y] : List Value).map (mv b)).toArray s = true := fun w hw => atoms_spec (ws := wsA MX11_look) B.pre w (List.mem_cons_of_mem _ hw)
  have hown : s.vm.findClass RX11 = some m.cls := findClass_of_methodNamed B.named
  have hy2 : y.toInt < 0 ∨ 7 < y.toInt := by
    rcases hy with w | w
    · left
      have := Int32.lt_iff_toInt_lt.mp w
      rw [show (0 : Int32).toInt = 0 by decide] at this
      exact this
    · right
      have := Int32.lt_iff_toInt_lt.mp w
      rw [show (7 : Int32).toInt = 7 by decide] at this
      exact this
  rw [lg_entry_eq]
  have hl0 := lv_entry (([.ref 0, .int x, .int y] : List Value).map (mv b)) (n := 3) (Nat.le_of_ble_eq_true rfl)
  show W p l e (rmm 10 1 6) s m _ below meth c s.heap [] 0 0 _ _
  refine lv_aload_n (x := b + 0) B.exec B.bytes dk_0 rfl (lv_at hl0 0 rfl) ?_
  refine lv_iload_n (x := x) B.exec B.bytes dk_1 rfl (lv_at hl0 1 rfl) ?_
  refine f_call (o := 11) (d := 9) (b := b) (a := 0) [.int x] [] B.exec B.bytes hml hown F5 hK hF hMw hkp hb dk_2 mo11_157 rfl rfl rfl (by decide) (icl_c (d := 8) (J := J) (x := x) ht hR) rfl rfl rfl hl0.1 (by decide) (by decide) (Nat.zero_le _) (Nat.zero_le _) Rp va_S.rf (fun H1 locs1 R1 S1 => ?_)
  rw [hic]
  refine lv_if_ne (x := 1) B.exec B.bytes dk_5 (tgt := 18) rfl (fun _ => ?_) (fun q => absurd q (by decide))
  refine lv_iload_n (x := y) B.exec B.bytes dk_18 rfl (lv_at hl0 2 rfl) ?_
  refine lv_tableOut B.exec B.bytes dk_19 hy2 (tgt := 144) rfl ?_
  obtain ⟨sa, hsa⟩ := KP_s2 hkp
  obtain ⟨z1, z2⟩ := KP_st hkp
  obtain ⟨w1, w2⟩ := lkS_ok (args := (([.ref 0, .int x, .int y] : List Value).map (mv b)).toArray) hkp lkN_ok
  exact tx_throw (own := RX11) (cls := xN) (Yn := "java/lang/RuntimeException") (names := ["java/lang/Exception"]) (ik := 188) (is := 190) (ic := 192) (ix := 13) (rx := prog_29_method_4_code) B.exec B.bytes hl (by decide +kernel) (by decide +kernel) (by decide +kernel) (by decide +kernel) hown (by decide +kernel) (by decide +kernel) (by decide +kernel) hsa w1 w2 z1 z2 S1 (by rw [hml]; exact hl0.1) dk_144 dk_147 dk_148 dk_150 dk_153 (fun z hz => (htab z hz).elim) (by decide) (by decide) (by decide) (by decide) B.notSynchronized (fun u hu h1 h2 => ⟨rfl, R1.same h2, Nat.le_trans S1.1 h1, fun q g1 g2 => (h2 q (Nat.lt_of_lt_of_le g1 S1.1)).trans (S1.2.1 q g1 g2)⟩) S1.2.2 (Nat.le_refl _) (Nat.le_refl _)
end LKT

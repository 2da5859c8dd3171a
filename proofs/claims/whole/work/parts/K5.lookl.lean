-- THE LAW's own look: it answers 0, 1 or 2
def lkH : List (Nat × Nat × Nat × Nat) := [(0, 10, 13, 13), (0, 10, 17, 15)]
def wsLk : List Cond := .codeWith yL_look cL_look 5 (some .int) lkH :: gtbl
theorem jk_code : Cond.codeWith yL_look cL_look 5 (some .int) lkH ∈ gtbl := tq5 194 rfl rfl
theorem jk_link : Cond.methodLink RL 39 yL_look ∈ gtbl := tq5 192 rfl rfl
theorem jk_stat : Cond.static yL_look ∈ gtbl := tq5 193 rfl rfl
theorem jk_init : Cond.initialized RL ∈ gtbl := tq1 0 rfl rfl
theorem jk_13 : Cond.classLink RL 13 xI ∈ gtbl := tq5 195 rfl rfl
theorem jk_15 : Cond.classLink RL 15 xN ∈ gtbl := tq5 196 rfl rfl
theorem wsLk_good : ∀ w ∈ wsLk, w ∈ gtbl ∧ ((w.onTables && w.keeps) = true ∨ ∃ ty, w = .arrayClass ty) := by
  intro w hw
  rcases List.mem_cons.mp hw with rfl | hw
  · exact ⟨jk_code, gtbl_good jk_code⟩
  · exact ⟨hw, gtbl_good hw⟩
section FL
variable {p : Program} {l : Launch} {e : Env} {R : Room} {s : State} {m : MethodId} {args : Array Value} {below : List Frame} {meth : Method} {c : Code} {H : Heap} {locs : List Loc} {cells slots : Nat} {Q : State → Prop} {pc : Nat} {LS : Array Slot} {D : va_G} {cy : Nat → ClassId}
theorem f_last {cc : ByteArray} {b a : Nat} {i : Int32} {v : Int64} {h : Hp} {st : List Value} (F1 : p.tables.exec = Jvm.exec) (F2 : c.code = cc) (F6 : va_K D vwCl (tysL cy) s) (hd : decode cc pc = .ok (.lastore, 1)) (hk : hK h a = 15) (hi : inb i (hN h a) = true) (Rp : Rep D cy b h H) (S : va_S (fun q => b ≤ q) s.heap H locs)
    (kk : ∀ (H1 : Heap) (locs1 : List Loc), Rep D cy b (stJ h a i.toNatClampNeg v) H1 → va_S (fun q => b ≤ q) s.heap H1 locs1 → W p l e R s m args below meth c H1 locs1 cells slots Q (F0 m (pc + 1) LS st)) : W p l e R s m args below meth c H locs cells slots Q (F0 m pc LS (.long v :: .int i :: .ref (b + a) :: st)) := by
  have ha : a < hTop h := Rp.2 a (by rw [hk]; decide)
  have hw : (wl cy b h).set a (b + a, .inl (cy 15, hN h a, .inr (.inl (vp_updL (hJ h a) i.toNatClampNeg v)))) = wl cy b (stJ h a i.toNatClampNeg v) := by
    refine wl_set rfl ha ?_ (oth_stJ (h := h))
    rw [cE_lon (h := stJ h a i.toNatClampNeg v) hk]
    show (Sum.inl (_, _, Sum.inr (Sum.inl (va_up h.2.2.1 a (vp_updL (h.2.2.1 a) i.toNatClampNeg v) a))) : va_E) = _
    rw [up_s]
    rfl
  exact va_last F1 F2 F6 Rp.1 wl_D S a 2 (by rw [wl_get ha, cE_lon hk]) rfl (inb_in hi) hd (fun H1 locs1 hP hD hS => kk H1 locs1 ⟨by rw [← hw]; exact hP, Rp.2⟩ hS)
end FL
section LKL
variable {l : Launch} {b : Nat} {D : va_G} {cy : Nat → ClassId} {I : Mem} {J : MemL} {R : MemR} {x y : Int32}
theorem lk_a {v : Int32} (hC : C 10 MX11_look [.ref 0, .int x, .int y] (hp I J R) = some (some (.int v), hp I J R)) : Met l yL_look wsLk (rmm 11 1 6) (PcM D cy b [.ref 0, .int x, .int y, .ref 171] (hp I J R)) (QcM D cy b (some (.int 0), hp I (va_up J 171 (vp_updL (J 171) 0 v.toInt64)) R)) 1 6 (fun q => b ≤ q) := by
  refine va_MetW (hh := lkH) (cc := cL_look) (maxL := 5) (ret := some .int) (by decide +kernel) rfl ?_
  intro p e s m args below meth c s₁ B hml hv
  obtain ⟨rfl, Rp, hK, hF, hMw, hb, hz, hkp⟩ := hv
  have F5 : ∀ w ∈ gtbl, w.before (([.ref 0, .int x, .int y, .ref 171] : List Value).map (mv b)).toArray s = true := fun w hw => atoms_spec (ws := wsLk) B.pre w (List.mem_cons_of_mem _ hw)
  have hown : s.vm.findClass RL = some m.cls := findClass_of_methodNamed B.named
  rw [lg_entry_eq]
  have hl0 := lv_entry (([.ref 0, .int x, .int y, .ref 171] : List Value).map (mv b)) (n := 5) (Nat.le_of_ble_eq_true rfl)
  show W p l e (rmm 11 1 6) s m _ below meth c s.heap [] 0 0 _ _
  refine lv_aload_n (x := b + 171) B.exec B.bytes dL_look_0 rfl (lv_at hl0 3 rfl) ?_
  refine lv_iconst B.exec B.bytes dL_look_1 (v := 0) rfl ?_
  refine lv_aload_n (x := b + 0) B.exec B.bytes dL_look_2 rfl (lv_at hl0 0 rfl) ?_
  refine lv_iload_n (x := x) B.exec B.bytes dL_look_3 rfl (lv_at hl0 1 rfl) ?_
  refine lv_iload_n (x := y) B.exec B.bytes dL_look_4 rfl (lv_at hl0 2 rfl) ?_
  refine f_call (o := 13) (d := 10) (b := b) (a := 0) [.int x, .int y] [.int 0, .ref (b + 171)] B.exec B.bytes hml hown F5 hK hF hMw hkp hb dL_look_5 lo_7 rfl rfl rfl (Nat.le_of_ble_eq_true rfl) hC rfl rfl rfl hl0.1 (by decide) (by decide) (Nat.zero_le _) (Nat.zero_le _) Rp va_S.rf (fun H1 locs1 R1 S1 => ?_)
  refine lv_i2l B.exec B.bytes dL_look_8 rfl ?_
  refine f_last (b := b) (a := 171) (i := 0) (h := hp I J R) B.exec B.bytes hK dL_look_9 rfl (by show inb 0 (ln0 171) = true; decide +kernel) R1 S1 (fun H2 locs2 R2 S2 => ?_)
  refine lv_goto B.exec B.bytes dL_look_10 (tgt := 21) rfl ?_
  refine lv_iconst B.exec B.bytes dL_look_21 (v := 0) rfl ?_
  refine W.widen (k := 1) (n := 6) (by omega) (by omega) ?_
  exact W.iret B.exec B.bytes B.returns (fun t ht hW => ⟨rfl, by rw [ht]; exact R2, S2.F ht⟩) S2.2.2 dL_look_22 B.notSynchronized
theorem lk_th {E0 : String} {kr : Int32} (hM : vx_Met l yX11_look (wsA MX11_look) (rmm 10 1 6) (PcM D cy b [.ref 0, .int x, .int y] (hp I J R)) (fun _ _ _ _ => False) (XCl D cy b (hp I J R) E0) 1 6 (fun q => b ≤ q)) (hcase : (E0 = xI ∧ kr = 1) ∨ (E0 = xN ∧ kr = 2)) : Met l yL_look wsLk (rmm 11 1 6) (PcM D cy b [.ref 0, .int x, .int y, .ref 171] (hp I J R)) (QcM D cy b (some (.int kr), hp I J R)) 1 6 (fun q => b ≤ q) := by
  refine va_MetW (hh := lkH) (cc := cL_look) (maxL := 5) (ret := some .int) (by decide +kernel) rfl ?_
  intro p e s m args below meth c s₁ B hml hv
  obtain ⟨rfl, Rp, hK, hF, hMw, hb, hz, hkp⟩ := hv
  have F5 : ∀ w ∈ gtbl, w.before (([.ref 0, .int x, .int y, .ref 171] : List Value).map (mv b)).toArray s = true := fun w hw => atoms_spec (ws := wsLk) B.pre w (List.mem_cons_of_mem _ hw)
  have hown : s.vm.findClass RL = some m.cls := findClass_of_methodNamed B.named
  have htb : c.exceptionTable.toList = tableOf lkH := vx_table (x := yL_look) B (F5 _ jk_code)
  rw [lg_entry_eq]
  have hl0 := lv_entry (([.ref 0, .int x, .int y, .ref 171] : List Value).map (mv b)) (n := 5) (Nat.le_of_ble_eq_true rfl)
  show W p l e (rmm 11 1 6) s m _ below meth c s.heap [] 0 0 _ _
  refine lv_aload_n (x := b + 171) B.exec B.bytes dL_look_0 rfl (lv_at hl0 3 rfl) ?_
  refine lv_iconst B.exec B.bytes dL_look_1 (v := 0) rfl ?_
  refine lv_aload_n (x := b + 0) B.exec B.bytes dL_look_2 rfl (lv_at hl0 0 rfl) ?_
  refine lv_iload_n (x := x) B.exec B.bytes dL_look_3 rfl (lv_at hl0 1 rfl) ?_
  refine lv_iload_n (x := y) B.exec B.bytes dL_look_4 rfl (lv_at hl0 2 rfl) ?_
  generalize hLS : (lg_sl (([.ref 0, .int x, .int y, .ref 171] : List Value).map (mv b)) ++ List.replicate (5 - (lg_sl (([.ref 0, .int x, .int y, .ref 171] : List Value).map (mv b))).length) Slot.unset).toArray = LS at hl0 ⊢
  show W p l e (rmm 11 1 6) s m _ below meth c s.heap [] 0 0 _ (F0 m 5 LS ([.int x, .int y].reverse ++ .ref (b + 0) :: [.int 0, .ref (b + 171)]))
  obtain ⟨q0, qn, q1, q2, q3, q4⟩ := lo_7
  dsimp only at q0 qn q1 q2 q3 q4
  have hnp : ∀ sig, parseMethodDescriptor MX11_look.1.desc = some sig → 2 = sig.parameters.length := by
    intro sig hsg
    rw [hsg] at qn
    exact (Option.some.inj qn).symm
  have hpc : ∀ U : State, U.heap = s.heap → s.WarmedH U.vm → PcM D cy b [.ref 0, .int x, .int y] (hp I J R) (([.ref 0, .int x, .int y] : List Value).map (mv b)).toArray U := fun U hU hW => ⟨rfl, by rw [hU]; exact Rp, va_K.moved hW.alike hK, fun x hx => (hF x hx).warmF hW, fun x hx => (hMw x hx).warmM hW, by rw [hU]; exact hb, fun q => Bool.noConfusion (show false = true from q), hkp.kept hb va_S.rf hU hW⟩
  have hrun := vx_runV (p := p) (l := l) (e := e) (R := rmm 11 1 6) (s := s) (m := m) (args := (([.ref 0, .int x, .int y, .ref 171] : List Value).map (mv b)).toArray) (below := below) (meth := meth) (c := c) (H := s.heap) (locs := []) (cells := 0) (slots := 0) (cc := cL_look) (nL := 5) (bytes := cX11_look) (maxL := 3) (ret := some .int) (n := 2) (own := RL) (C := RX11) (b := b + 0) (As := [.int x, .int y]) (rest := [.int 0, .ref (b + 171)]) (Ts := gtbl) (index := 7) (g := F0 m 5 LS ([.int x, .int y].reverse ++ .ref (b + 0) :: [.int 0, .ref (b + 171)])) ⟨B.exec, B.bytes, hml, hown, F5⟩ hM ⟨⟨rfl, rfl, Nat.le_refl _, by decide, pay_in F5 (wsA_good q0), List.mem_cons_self, F5 _ q0.1, F5 _ q0.2.1, q0.2.2.1, hnp, F5 _ q1⟩, F5 _ q2, F5 _ q3⟩ ⟨PcM_blind, va_recv (q := (cnm 11, TT 11, NN 11)) hK Rp.1 (cls_ok 11 q4).1 (q0 := 0) (by rw [wl_get (Rp.2 0 (by show kd0 0 < 18; decide +kernel)), cE_obj (ci := 11) rfl q4]), fun U hU hW => hpc U hU hW⟩ rfl rfl hl0.1 rfl (Nat.le_of_ble_eq_true rfl) dL_look_5 ⟨Nat.le_refl _, Nat.le_refl _⟩
  intro T hT X
  rcases hrun T hT X with ⟨v, st₀, t, T', L, h0, X', hL, e1, e2, hq, st⟩ | ⟨q, st₀, t, T', L2, E, ce, h0, X', hL, e1, e2, ⟨hE, g2, g3⟩, hce, hcv, hcl, st⟩
  · exact hq.elim
  · subst hE
    have hpl : e.platform.magicAccessors = ({} : Platform).magicAccessors := by rw [X.admits.platform]
    obtain ⟨cI, hcI, hlI⟩ := Cond.classLink_spec hown (F5 _ jk_13) e.platform hpl
    obtain ⟨cN, hcN, hlN⟩ := Cond.classLink_spec hown (F5 _ jk_15) e.platform hpl
    obtain ⟨k0, hk0⟩ := Vm.classAt_of_findClass hcl
    have hS2 : va_S (fun q => b ≤ q) s.heap t.heap ([] ++ L2) := by
      refine ⟨by rw [← h0]; exact g3.1, fun q h1 h2 => ?_, fun x hx => ?_⟩
      · rw [g3.2 q (by rw [h0]; exact h1) h2, h0]
      · rcases List.mem_append.mp hx with hx | hx
        · exact nomatch hx
        · exact hL x hx
    rcases hcase with ⟨rfl, rfl⟩ | ⟨rfl, rfl⟩
    · have kx := tx_catch (p := p) (l := l) (e := e) (R := rmm 11 1 6) (s := s) (m := m) (args := (([.ref 0, .int x, .int y, .ref 171] : List Value).map (mv b)).toArray) (below := below) (meth := meth) (c := c) (H := t.heap) (locs := [] ++ L2) (cells := 0 + 1) (slots := 0 + 6) (Q := MQ below (QcM D cy b (some (.int 1), hp I J R)) (([.ref 0, .int x, .int y, .ref 171] : List Value).map (mv b)).toArray s 1 6 (fun q => b ≤ q)) (pc := 5) (ls := LS) (rest := [.int 0, .ref (b + 171)]) (q := q) (ce := ce) (k0 := k0) [] { startPc := 0, endPc := 10, handlerPc := 13, catchType := 13 } [{ startPc := 0, endPc := 10, handlerPc := 17, catchType := 15 }] (by rw [htb]; rfl) (fun z hz => nomatch hz) ⟨rfl, by decide, cI, hlI, by rw [Option.some.inj (hcI.symm.trans hcl)]; exact va_asg _ _⟩ hce hcv hk0 ?_
      · obtain ⟨t2, a1, b1⟩ := kx T' e1 X'
        exact ⟨t2, st.trans a1, b1⟩
      · refine lv_astore (pc := 13) B.exec B.bytes dL_look_13 hl0 (by decide) rfl (fun LS2 hl2 => ?_)
        refine lv_iconst B.exec B.bytes dL_look_15 (v := 1) rfl ?_
        exact W.iret B.exec B.bytes B.returns (fun u hu hW => ⟨rfl, by rw [hu]; exact g2, hS2.F hu⟩) hS2.2.2 dL_look_16 B.notSynchronized
    · have kx := tx_catch (p := p) (l := l) (e := e) (R := rmm 11 1 6) (s := s) (m := m) (args := (([.ref 0, .int x, .int y, .ref 171] : List Value).map (mv b)).toArray) (below := below) (meth := meth) (c := c) (H := t.heap) (locs := [] ++ L2) (cells := 0 + 1) (slots := 0 + 6) (Q := MQ below (QcM D cy b (some (.int 2), hp I J R)) (([.ref 0, .int x, .int y, .ref 171] : List Value).map (mv b)).toArray s 1 6 (fun q => b ≤ q)) (pc := 5) (ls := LS) (rest := [.int 0, .ref (b + 171)]) (q := q) (ce := ce) (k0 := k0) [{ startPc := 0, endPc := 10, handlerPc := 13, catchType := 13 }] { startPc := 0, endPc := 10, handlerPc := 17, catchType := 15 } [] (by rw [htb]; rfl) (fun z hz => by
          obtain rfl := List.mem_singleton.mp hz
          obtain ⟨c8, c9, n1, n2, n3⟩ := KP_nc hkp
          refine ⟨rfl, by decide, cI, hlI, ?_⟩
          rw [← Option.some.inj (n1.symm.trans hcl), ← Option.some.inj (n2.symm.trans hcI)]
          exact n3) ⟨rfl, by decide, cN, hlN, by rw [Option.some.inj (hcN.symm.trans hcl)]; exact va_asg _ _⟩ hce hcv hk0 ?_
      · obtain ⟨t2, a1, b1⟩ := kx T' e1 X'
        exact ⟨t2, st.trans a1, b1⟩
      · refine lv_astore (pc := 17) B.exec B.bytes dL_look_17 hl0 (by decide) rfl (fun LS2 hl2 => ?_)
        refine lv_iconst B.exec B.bytes dL_look_19 (v := 2) rfl ?_
        exact W.iret B.exec B.bytes B.returns (fun u hu hW => ⟨rfl, by rw [hu]; exact g2, hS2.F hu⟩) hS2.2.2 dL_look_20 B.notSynchronized
end LKL

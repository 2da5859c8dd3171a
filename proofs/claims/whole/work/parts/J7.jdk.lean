-- STRINGS: what String.length and String.charAt come to over the constant
def wsJ (y : MethodName) (cc : ByteArray) (n : Nat) (r : Option FieldType) : List Cond := .code y cc n r :: gtbl
def PcJ (b sa va : Nat) (as : List Value) : Array Value → State → Prop := fun v U => v = as.toArray ∧ SF b sa va U U.heap
def QcJ (r : Option Value) : Array Value → State → Outcome → State → Prop := fun _ st oc t => oc = .returned r ∧ t.heap = st.heap
def jOK (own : String) (idx : Nat) (y : MethodName) (cc : ByteArray) (n : Nat) (r : Option FieldType) (np : Nat) : Prop := Cond.code y cc n r ∈ gtbl ∧ Cond.initialized y.cls ∈ gtbl ∧ (y.cls ≠ "java/lang/invoke/MethodHandle" ∧ y.cls ≠ "java/lang/invoke/VarHandle") ∧ (parseMethodDescriptor y.desc).map (fun d => d.parameters.length) = some np ∧ Cond.methodLink own idx y ∈ gtbl ∧ n ≤ 23
theorem wsJ_good {y : MethodName} {cc : ByteArray} {n : Nat} {r : Option FieldType} (h : Cond.code y cc n r ∈ gtbl) : ∀ w ∈ wsJ y cc n r, w ∈ gtbl ∧ ((w.onTables && w.keeps) = true ∨ ∃ ty, w = .arrayClass ty) := by
  intro w hw
  rcases List.mem_cons.mp hw with rfl | hw
  · exact ⟨h, gtbl_good h⟩
  · exact ⟨hw, gtbl_good hw⟩
theorem PcJ_blind {b sa va : Nat} {as : List Value} : FrameBlind (PcJ b sa va as) := by
  rintro a U g mk ⟨q1, f1, f2, f3, f4, f5, f6, f7⟩
  have hv : U.vm.Alike (U.calling g mk a).vm := Vm.Alike.refl U.vm
  exact ⟨q1, vk_R.same (u := U) (U := U.calling g mk a) rfl f1, f2.moved hv, f3.moved hv, f4.moved hv, f5.moved hv, f6.moved hv, f7.moved hv⟩
theorem SF.go {b sa va : Nat} {s U : State} {H : Heap} {locs : List Loc} (f : SF b sa va s s.heap) (S : va_S (fun q => b ≤ q) s.heap H locs) (hU : U.heap = H) (hW : s.WarmedH U.vm) : SF b sa va U U.heap := by
  obtain ⟨f1, f2, f3, f4, f5, f6, f7⟩ := f
  rw [hU]
  exact ⟨vk_R.warm hW f1, (f2.moved hW.alike).kept S.2.1, (f3.moved hW.alike).kept S.2.1, (f4.moved hW.alike).kept S.2.1, (f5.moved hW.alike).kept S.2.1, (f6.moved hW.alike).kept S.2.1, (f7.moved hW.alike).kept S.2.1⟩
theorem j_recv {b sa va : Nat} {s : State} {H : Heap} {locs : List Loc} (f : SF b sa va s s.heap) (S : va_S (fun q => b ≤ q) s.heap H locs) : ∃ cell : Cell, H[sa]? = some cell ∧ cell.vm.isStatics = false ∧ s.vm.findClass RJ0 = some cell.cls := by
  obtain ⟨cell, h1, h2, h3, -⟩ := f.2.1.kept S.2.1
  exact ⟨cell, h1, h2, h3⟩
section JCALL
variable {p : Program} {l : Launch} {e : Env} {s : State} {m : MethodId} {args : Array Value} {below : List Frame} {meth : Method} {c : Code} {H : Heap} {locs : List Loc} {cells slots : Nat} {Q : State → Prop} {pc : Nat} {LS : Array Slot} {d mc ms b sa va nL idx np n' : Nat} {cc cc' : ByteArray} {own : String} {y : MethodName} {rt : Option FieldType} {rv : Option Value}
theorem j_callV (As rest : List Value) (F : CallFix p m c cc nL s args gtbl own) (hj : jOK own idx y cc' n' rt np) (hi : Cond.instanceMethod y ∈ gtbl) (hs : Cond.selects RJ0 y y ∈ gtbl) (hM : Met l y (wsJ y cc' n' rt) (rmm d 0 0) (PcJ b sa va (.ref sa :: As)) (QcJ rv) 0 0 (fun q => b ≤ q)) (f : SF b sa va s s.heap) (hn : As.length = np) (hLS : LS.size = nL) (hw : (rest.map fun v => v.category).sum ≤ 8) (hd : decode cc pc = .ok (.invokevirtual idx, 3)) (hc1 : cells ≤ mc) (hc2 : slots ≤ ms) (S : va_S (fun q => b ≤ q) s.heap H locs)
    (kk : ∀ locs1, va_S (fun q => b ≤ q) s.heap H locs1 → W p l e (rmm (d + 1) mc ms) s m args below meth c H locs1 cells slots Q (F0 m (pc + 3) LS (rv.toList ++ rest))) : W p l e (rmm (d + 1) mc ms) s m args below meth c H locs cells slots Q (F0 m pc LS (As.reverse ++ .ref sa :: rest)) := by
  obtain ⟨j1, j2, j3, j4, j5, j6⟩ := hj
  have F5 := F.2.2.2.2
  have hnp : ∀ sig, parseMethodDescriptor y.desc = some sig → np = sig.parameters.length := by
    intro sig hsg
    rw [hsg] at j4
    exact (Option.some.inj j4).symm
  have hrun := va_runV (p := p) (l := l) (e := e) (R := rmm (d + 1) mc ms) (s := s) (m := m) (args := args) (below := below) (meth := meth) (c := c) (H := H) (locs := locs) (cells := cells) (slots := slots) (cc := cc) (nL := nL) (bytes := cc') (maxL := n') (ret := rt) (n := np) (own := own) (C := RJ0) (b := sa) (As := As) (rest := rest) (Ts := gtbl) (index := idx) (g := F0 m pc LS (As.reverse ++ .ref sa :: rest)) F hM ⟨⟨rfl, rfl, Nat.le_refl _, (by show 8 + (n' + 11) + 42 * d ≤ 42 * (d + 1); omega), pay_in F5 (wsJ_good j1), List.mem_cons_self, F5 _ j1, F5 _ j2, j3, hnp, F5 _ j5⟩, F5 _ hi, F5 _ hs⟩ ⟨PcJ_blind, j_recv f S, fun U hU hW => ⟨rfl, f.go S hU hW⟩⟩ rfl hn hLS rfl (by show 2 * 0 + _ ≤ 8; rw [Nat.mul_zero, Nat.zero_add]; exact hw) hd ⟨hc1, hc2⟩
  intro T hT X
  obtain ⟨v, st₀, t, T', L2, h0, X', hL, f1, f2, hq', go⟩ := hrun T hT X
  obtain ⟨g1, g2⟩ := hq'
  cases g1
  obtain ⟨t2, a1, b1⟩ := kk (locs ++ L2) ⟨S.1, S.2.1, fun x hx => by
    rcases List.mem_append.mp hx with hx | hx
    · exact S.2.2 x hx
    · exact hL x hx⟩ T' (by rw [f1, g2, h0]) X'
  exact ⟨t2, go t2 a1, b1⟩
theorem j_callS (As rest : List Value) (F : CallFix p m c cc nL s args gtbl own) (hj : jOK own idx y cc' n' rt np) (hi : Cond.static y ∈ gtbl) (hM : Met l y (wsJ y cc' n' rt) (rmm d 0 0) (PcJ b sa va As) (QcJ rv) 0 0 (fun q => b ≤ q)) (f : SF b sa va s s.heap) (hn : As.length = np) (hLS : LS.size = nL) (hw : (rest.map fun v => v.category).sum ≤ 8) (hd : decode cc pc = .ok (.invokestatic idx, 3)) (hc1 : cells ≤ mc) (hc2 : slots ≤ ms) (S : va_S (fun q => b ≤ q) s.heap H locs)
    (kk : ∀ locs1, va_S (fun q => b ≤ q) s.heap H locs1 → W p l e (rmm (d + 1) mc ms) s m args below meth c H locs1 cells slots Q (F0 m (pc + 3) LS (rv.toList ++ rest))) : W p l e (rmm (d + 1) mc ms) s m args below meth c H locs cells slots Q (F0 m pc LS (As.reverse ++ rest)) := by
  obtain ⟨j1, j2, j3, j4, j5, j6⟩ := hj
  have F5 := F.2.2.2.2
  have hnp : ∀ sig, parseMethodDescriptor y.desc = some sig → np = sig.parameters.length := by
    intro sig hsg
    rw [hsg] at j4
    exact (Option.some.inj j4).symm
  have hrun := va_runS (p := p) (l := l) (e := e) (R := rmm (d + 1) mc ms) (s := s) (m := m) (args := args) (below := below) (meth := meth) (c := c) (H := H) (locs := locs) (cells := cells) (slots := slots) (cc := cc) (nL := nL) (bytes := cc') (maxL := n') (ret := rt) (n := np) (own := own) (As := As) (rest := rest) (Ts := gtbl) (index := idx) (g := F0 m pc LS (As.reverse ++ rest)) F hM ⟨⟨rfl, rfl, Nat.le_refl _, (by show 8 + (n' + 11) + 42 * d ≤ 42 * (d + 1); omega), pay_in F5 (wsJ_good j1), List.mem_cons_self, F5 _ j1, F5 _ j2, j3, hnp, F5 _ j5⟩, F5 _ hi⟩ ⟨PcJ_blind, fun U hU hW => ⟨rfl, f.go S hU hW⟩⟩ rfl hn hLS rfl (by show 2 * 0 + _ ≤ 8; rw [Nat.mul_zero, Nat.zero_add]; exact hw) hd ⟨hc1, hc2⟩
  intro T hT X
  obtain ⟨v, st₀, t, T', L2, h0, X', hL, f1, f2, hq', go⟩ := hrun T hT X
  obtain ⟨g1, g2⟩ := hq'
  cases g1
  obtain ⟨t2, a1, b1⟩ := kk (locs ++ L2) ⟨S.1, S.2.1, fun x hx => by
    rcases List.mem_append.mp hx with hx | hx
    · exact S.2.2 x hx
    · exact hL x hx⟩ T' (by rw [f1, g2, h0]) X'
  exact ⟨t2, go t2 a1, b1⟩
end JCALL
theorem jo_cod : jOK RJ0 335 yJ0_coder_7d493 cJ0_coder_7d493 1 (some .byte) 0 := ⟨jc_J0_coder_7d493, jn_RJ0, by decide +kernel, by decide +kernel, jl_RJ0_335, by decide⟩
theorem jo_isL : jOK RJ0 492 yJ0_isLatin1_aae02 cJ0_isLatin1_aae02 1 (some .boolean) 0 := ⟨jc_J0_isLatin1_aae02, jn_RJ0, by decide +kernel, by decide +kernel, jl_RJ0_492, by decide⟩
theorem jo_ch1 : jOK RJ0 495 yJ1_charAt_3b067 cJ1_charAt_3b067 2 (some .char) 2 := ⟨jc_J1_charAt_3b067, jn_RJ1, by decide +kernel, by decide +kernel, jl_RJ0_495, by decide⟩
theorem jo_ck0 : jOK RJ1 9 yJ0_checkIndex_df160 cJ0_checkIndex_df160 2 none 2 := ⟨jc_J0_checkIndex_df160, jn_RJ0, by decide +kernel, by decide +kernel, jl_RJ1_9, by decide⟩
theorem jo_ck3 : jOK RJ0 1059 yJ3_checkIndex_8e157 cJ3_checkIndex_8e157 3 (some .int) 3 := ⟨jc_J3_checkIndex_8e157, jn_RJ3, by decide +kernel, by decide +kernel, jl_RJ0_1059, by decide⟩
theorem jo_len : jOK RX10 21 yJ0_length_8abf5 cJ0_length_8abf5 1 (some .int) 0 := ⟨jc_J0_length_8abf5, jn_RJ0, by decide +kernel, by decide +kernel, jl_RX10_21, by decide⟩
theorem jo_ch0 : jOK RX10 27 yJ0_charAt_5068e cJ0_charAt_5068e 2 (some .char) 1 := ⟨jc_J0_charAt_5068e, jn_RJ0, by decide +kernel, by decide +kernel, jl_RX10_27, by decide⟩
theorem lng_c : ∀ k, k < 126 → ((lngB.getD k 0 &&& 255).toUInt32 % 65536).toInt32 = lngB.getD k 0 := by decide +kernel
theorem lng_n : ∀ k, k < 126 → (lngB.getD k 0).toUInt32.toUInt16.toUInt32.toInt32 = lngB.getD k 0 := by decide +kernel
section JDK
variable {l : Launch} {d b sa va : Nat}
theorem m_isL : Met l yJ0_isLatin1_aae02 (wsJ yJ0_isLatin1_aae02 cJ0_isLatin1_aae02 1 (some .boolean)) (rmm d 0 0) (PcJ b sa va [.ref sa]) (QcJ (some (.int 1))) 0 0 (fun q => b ≤ q) := by
  refine Met.ofW (cc := cJ0_isLatin1_aae02) (maxL := 1) (ret := some .boolean) (by decide +kernel) rfl ?_
  intro p e s m args below meth c s₁ B hml hv
  obtain ⟨rfl, f1, f2, f3, f4, f5, f6, f7⟩ := hv
  have hw : ∀ w ∈ gtbl, w.before ([Value.ref sa] : List Value).toArray s = true := fun w hw => atoms_spec (ws := wsJ yJ0_isLatin1_aae02 cJ0_isLatin1_aae02 1 (some .boolean)) B.pre w (List.mem_cons_of_mem _ hw)
  have hown : s.vm.findClass RJ0 = some m.cls := findClass_of_methodNamed B.named
  rw [lg_entry_eq]
  have hl := lv_entry [Value.ref sa] (n := 1) (Nat.le_of_ble_eq_true rfl)
  refine va_gets B.exec B.bytes f6 va_S.rf hown (hw _ jf_RJ0_38) (fun x hx => hx) dJ0_isLatin1_aae02_0 ?_
  refine lv_if_eq B.exec B.bytes dJ0_isLatin1_aae02_3 (tgt := 17) rfl (fun q => absurd q (by decide)) (fun _ => ?_)
  refine lv_aload_n B.exec B.bytes dJ0_isLatin1_aae02_6 rfl (lv_at hl 0 rfl) ?_
  refine vk_getf B.exec B.bytes f3 va_S.rf hown (hw _ jf_RJ0_15) (fun x hx => hx) dJ0_isLatin1_aae02_7 ?_
  refine lv_if_ne B.exec B.bytes dJ0_isLatin1_aae02_10 (tgt := 17) rfl (fun q => absurd rfl q) (fun _ => ?_)
  refine lv_iconst B.exec B.bytes dJ0_isLatin1_aae02_13 rfl ?_
  refine lv_goto B.exec B.bytes dJ0_isLatin1_aae02_14 (tgt := 18) rfl ?_
  exact W.zret B.exec B.bytes B.returns rfl (fun t ht hW => ⟨rfl, ht⟩) (fun x hx => nomatch hx) dJ0_isLatin1_aae02_18 B.notSynchronized
theorem m_cod : Met l yJ0_coder_7d493 (wsJ yJ0_coder_7d493 cJ0_coder_7d493 1 (some .byte)) (rmm d 0 0) (PcJ b sa va [.ref sa]) (QcJ (some (.int 0))) 0 0 (fun q => b ≤ q) := by
  refine Met.ofW (cc := cJ0_coder_7d493) (maxL := 1) (ret := some .byte) (by decide +kernel) rfl ?_
  intro p e s m args below meth c s₁ B hml hv
  obtain ⟨rfl, f1, f2, f3, f4, f5, f6, f7⟩ := hv
  have hw : ∀ w ∈ gtbl, w.before ([Value.ref sa] : List Value).toArray s = true := fun w hw => atoms_spec (ws := wsJ yJ0_coder_7d493 cJ0_coder_7d493 1 (some .byte)) B.pre w (List.mem_cons_of_mem _ hw)
  have hown : s.vm.findClass RJ0 = some m.cls := findClass_of_methodNamed B.named
  rw [lg_entry_eq]
  have hl := lv_entry [Value.ref sa] (n := 1) (Nat.le_of_ble_eq_true rfl)
  refine va_gets B.exec B.bytes f6 va_S.rf hown (hw _ jf_RJ0_38) (fun x hx => hx) dJ0_coder_7d493_0 ?_
  refine lv_if_eq B.exec B.bytes dJ0_coder_7d493_3 (tgt := 13) rfl (fun q => absurd q (by decide)) (fun _ => ?_)
  refine lv_aload_n B.exec B.bytes dJ0_coder_7d493_6 rfl (lv_at hl 0 rfl) ?_
  refine vk_getf B.exec B.bytes f3 va_S.rf hown (hw _ jf_RJ0_15) (fun x hx => hx) dJ0_coder_7d493_7 ?_
  refine lv_goto B.exec B.bytes dJ0_coder_7d493_10 (tgt := 14) rfl ?_
  exact W.zret B.exec B.bytes B.returns rfl (fun t ht hW => ⟨rfl, ht⟩) (fun x hx => nomatch hx) dJ0_coder_7d493_14 B.notSynchronized
theorem m_len : Met l yJ0_length_8abf5 (wsJ yJ0_length_8abf5 cJ0_length_8abf5 1 (some .int)) (rmm (d + 1) 0 0) (PcJ b sa va [.ref sa]) (QcJ (some (.int 126))) 0 0 (fun q => b ≤ q) := by
  refine Met.ofW (cc := cJ0_length_8abf5) (maxL := 1) (ret := some .int) (by decide +kernel) rfl ?_
  intro p e s m args below meth c s₁ B hml hv
  obtain ⟨rfl, f⟩ := hv
  have hw : ∀ w ∈ gtbl, w.before ([Value.ref sa] : List Value).toArray s = true := fun w hw => atoms_spec (ws := wsJ yJ0_length_8abf5 cJ0_length_8abf5 1 (some .int)) B.pre w (List.mem_cons_of_mem _ hw)
  have hown : s.vm.findClass RJ0 = some m.cls := findClass_of_methodNamed B.named
  rw [lg_entry_eq]
  have hl := lv_entry [Value.ref sa] (n := 1) (Nat.le_of_ble_eq_true rfl)
  refine lv_aload_n B.exec B.bytes dJ0_length_8abf5_0 rfl (lv_at hl 0 rfl) ?_
  refine vk_getf B.exec B.bytes f.2.2.2.1 va_S.rf hown (hw _ jf_RJ0_9) (fun x hx => hx) dJ0_length_8abf5_1 ?_
  refine va_tlen B.exec B.bytes f.2.2.2.2.1 va_S.rf (v := 126) (by decide) dJ0_length_8abf5_4 ?_
  refine lv_aload_n B.exec B.bytes dJ0_length_8abf5_5 rfl (lv_at hl 0 rfl) ?_
  refine j_callV (d := d) (mc := 0) (ms := 0) [] [.int 126] ⟨B.exec, B.bytes, hml, hown, hw⟩ jo_cod ji_J0_coder_7d493 jv_J0_coder_7d493 m_cod f rfl hl.1 (by decide) dJ0_length_8abf5_6 (Nat.le_refl _) (Nat.le_refl _) va_S.rf (fun locs1 S1 => ?_)
  refine lv_ishr B.exec B.bytes dJ0_length_8abf5_9 ?_
  exact W.iret (v := 126) B.exec B.bytes B.returns (fun t ht hW => ⟨rfl, ht⟩) S1.2.2 dJ0_length_8abf5_10 B.notSynchronized
theorem m_ck3 {k n : Nat} {o : Option Nat} (hk : k < n) (hn : n < 2 ^ 31) : Met l yJ3_checkIndex_8e157 (wsJ yJ3_checkIndex_8e157 cJ3_checkIndex_8e157 3 (some .int)) (rmm d 0 0) (PcJ b sa va [.int (nI k), .int (nI n), va_rf o]) (QcJ (some (.int (nI k)))) 0 0 (fun q => b ≤ q) := by
  refine Met.ofW (cc := cJ3_checkIndex_8e157) (maxL := 3) (ret := some .int) (by decide +kernel) rfl ?_
  intro p e s m args below meth c s₁ B hml hv
  obtain ⟨rfl, f⟩ := hv
  rw [lg_entry_eq]
  have hl : ∃ q, lv_has ((lg_sl [.int (nI k), .int (nI n), va_rf o] ++ List.replicate (3 - (lg_sl [.int (nI k), .int (nI n), va_rf o]).length) Slot.unset).toArray) 3 [(0, .int (nI k)), (1, .int (nI n)), (2, q)] := by
    cases o
    · exact ⟨.null, lv_entry [.int (nI k), .int (nI n), .null] (n := 3) (Nat.le_of_ble_eq_true rfl)⟩
    · next t => exact ⟨.ref t, lv_entry [.int (nI k), .int (nI n), .ref t] (n := 3) (Nat.le_of_ble_eq_true rfl)⟩
  obtain ⟨q, hl⟩ := hl
  refine lv_iload_n B.exec B.bytes dJ3_checkIndex_8e157_0 rfl (lv_at hl 0 rfl) ?_
  refine lv_if_lt B.exec B.bytes dJ3_checkIndex_8e157_1 (tgt := 9) rfl (fun q => absurd q (nI_pos (by omega))) (fun _ => ?_)
  refine lv_iload_n B.exec B.bytes dJ3_checkIndex_8e157_4 rfl (lv_at hl 0 rfl) ?_
  refine lv_iload_n B.exec B.bytes dJ3_checkIndex_8e157_5 rfl (lv_at hl 1 rfl) ?_
  refine lv_icmp_lt B.exec B.bytes dJ3_checkIndex_8e157_6 (tgt := 16) rfl (fun _ => ?_) (fun q => absurd (nI_lt hk hn) q)
  refine lv_iload_n B.exec B.bytes dJ3_checkIndex_8e157_16 rfl (lv_at hl 0 rfl) ?_
  exact W.iret B.exec B.bytes B.returns (fun t ht hW => ⟨rfl, ht⟩) (fun x hx => nomatch hx) dJ3_checkIndex_8e157_17 B.notSynchronized
theorem m_ck0 {k n : Nat} (hk : k < n) (hn : n < 2 ^ 31) : Met l yJ0_checkIndex_df160 (wsJ yJ0_checkIndex_df160 cJ0_checkIndex_df160 2 none) (rmm (d + 1) 0 0) (PcJ b sa va [.int (nI k), .int (nI n)]) (QcJ none) 0 0 (fun q => b ≤ q) := by
  refine Met.ofW (cc := cJ0_checkIndex_df160) (maxL := 2) (ret := none) (by decide +kernel) rfl ?_
  intro p e s m args below meth c s₁ B hml hv
  obtain ⟨rfl, f⟩ := hv
  have hw : ∀ w ∈ gtbl, w.before ([.int (nI k), .int (nI n)] : List Value).toArray s = true := fun w hw => atoms_spec (ws := wsJ yJ0_checkIndex_df160 cJ0_checkIndex_df160 2 none) B.pre w (List.mem_cons_of_mem _ hw)
  have hown : s.vm.findClass RJ0 = some m.cls := findClass_of_methodNamed B.named
  rw [lg_entry_eq]
  have hl := lv_entry [Value.int (nI k), .int (nI n)] (n := 2) (Nat.le_of_ble_eq_true rfl)
  obtain ⟨o, hz⟩ : ∃ o, va_Z "jdk/internal/util/Preconditions" "SIOOBE_FORMATTER" "Ljava/util/function/BiFunction;" (va_rf o) (fun q => b ≤ q) s s.heap := by
    rcases f.2.2.2.2.2.2 with h | ⟨t, h⟩
    · exact ⟨none, h⟩
    · exact ⟨some t, h⟩
  refine lv_iload_n B.exec B.bytes dJ0_checkIndex_df160_0 rfl (lv_at hl 0 rfl) ?_
  refine lv_iload_n B.exec B.bytes dJ0_checkIndex_df160_1 rfl (lv_at hl 1 rfl) ?_
  refine va_gets B.exec B.bytes hz va_S.rf hown (hw _ jf_RJ0_1053) (fun x hx => hx) dJ0_checkIndex_df160_2 ?_
  refine j_callS (d := d) (mc := 0) (ms := 0) [.int (nI k), .int (nI n), va_rf o] [] ⟨B.exec, B.bytes, hml, hown, hw⟩ jo_ck3 js_J3_checkIndex_8e157 (m_ck3 hk hn) f rfl hl.1 (by decide) dJ0_checkIndex_df160_5 (Nat.le_refl _) (Nat.le_refl _) va_S.rf (fun locs1 S1 => ?_)
  refine lv_pop (va := .int (nI k)) B.exec B.bytes dJ0_checkIndex_df160_8 rfl ?_
  exact W.vret B.exec B.bytes B.returns (fun t ht hW => ⟨rfl, ht⟩) S1.2.2 dJ0_checkIndex_df160_9 B.notSynchronized
theorem m_ch1 {k : Nat} (hk : k < 126) : Met l yJ1_charAt_3b067 (wsJ yJ1_charAt_3b067 cJ1_charAt_3b067 2 (some .char)) (rmm (d + 2) 0 0) (PcJ b sa va [.ref va, .int (nI k)]) (QcJ (some (.int (lngB.getD k 0)))) 0 0 (fun q => b ≤ q) := by
  refine Met.ofW (cc := cJ1_charAt_3b067) (maxL := 2) (ret := some .char) (by decide +kernel) rfl ?_
  intro p e s m args below meth c s₁ B hml hv
  obtain ⟨rfl, f⟩ := hv
  have hw : ∀ w ∈ gtbl, w.before ([.ref va, .int (nI k)] : List Value).toArray s = true := fun w hw => atoms_spec (ws := wsJ yJ1_charAt_3b067 cJ1_charAt_3b067 2 (some .char)) B.pre w (List.mem_cons_of_mem _ hw)
  have hown : s.vm.findClass RJ1 = some m.cls := findClass_of_methodNamed B.named
  rw [lg_entry_eq]
  have hl := lv_entry [Value.ref va, .int (nI k)] (n := 2) (Nat.le_of_ble_eq_true rfl)
  refine lv_iload_n B.exec B.bytes dJ1_charAt_3b067_0 rfl (lv_at hl 1 rfl) ?_
  refine lv_aload_n B.exec B.bytes dJ1_charAt_3b067_1 rfl (lv_at hl 0 rfl) ?_
  refine va_tlen B.exec B.bytes f.2.2.2.2.1 va_S.rf (v := nI 126) rfl dJ1_charAt_3b067_2 ?_
  refine j_callS (d := d + 1) (mc := 0) (ms := 0) [.int (nI k), .int (nI 126)] [] ⟨B.exec, B.bytes, hml, hown, hw⟩ jo_ck0 js_J0_checkIndex_df160 (m_ck0 (d := d) hk (by decide)) f rfl hl.1 (by decide) dJ1_charAt_3b067_3 (Nat.le_refl _) (Nat.le_refl _) va_S.rf (fun locs1 S1 => ?_)
  refine lv_aload_n B.exec B.bytes dJ1_charAt_3b067_6 rfl (lv_at hl 0 rfl) ?_
  refine lv_iload_n B.exec B.bytes dJ1_charAt_3b067_7 rfl (lv_at hl 1 rfl) ?_
  refine va_tb B.exec B.bytes f.2.2.2.2.1 S1 (nI_in hk (by decide)) (v := .int (lngB.getD k 0)) (by rw [nI_clamp (by omega)]) dJ1_charAt_3b067_8 ?_
  refine lv_sipush B.exec B.bytes dJ1_charAt_3b067_9 (v := 255) (by decide) ?_
  refine lv_iand B.exec B.bytes dJ1_charAt_3b067_12 ?_
  refine lv_i2c B.exec B.bytes dJ1_charAt_3b067_13 (lng_c k hk) ?_
  exact W.zret B.exec B.bytes B.returns (congrArg Value.int (lng_n k hk)) (fun t ht hW => ⟨rfl, ht⟩) S1.2.2 dJ1_charAt_3b067_14 B.notSynchronized
theorem m_ch0 {k : Nat} (hk : k < 126) : Met l yJ0_charAt_5068e (wsJ yJ0_charAt_5068e cJ0_charAt_5068e 2 (some .char)) (rmm (d + 3) 0 0) (PcJ b sa va [.ref sa, .int (nI k)]) (QcJ (some (.int (lngB.getD k 0)))) 0 0 (fun q => b ≤ q) := by
  refine Met.ofW (cc := cJ0_charAt_5068e) (maxL := 2) (ret := some .char) (by decide +kernel) rfl ?_
  intro p e s m args below meth c s₁ B hml hv
  obtain ⟨rfl, f⟩ := hv
  have hw : ∀ w ∈ gtbl, w.before ([.ref sa, .int (nI k)] : List Value).toArray s = true := fun w hw => atoms_spec (ws := wsJ yJ0_charAt_5068e cJ0_charAt_5068e 2 (some .char)) B.pre w (List.mem_cons_of_mem _ hw)
  have hown : s.vm.findClass RJ0 = some m.cls := findClass_of_methodNamed B.named
  rw [lg_entry_eq]
  have hl := lv_entry [Value.ref sa, .int (nI k)] (n := 2) (Nat.le_of_ble_eq_true rfl)
  refine lv_aload_n B.exec B.bytes dJ0_charAt_5068e_0 rfl (lv_at hl 0 rfl) ?_
  refine j_callV (d := d + 2) (mc := 0) (ms := 0) [] [] ⟨B.exec, B.bytes, hml, hown, hw⟩ jo_isL ji_J0_isLatin1_aae02 jv_J0_isLatin1_aae02 m_isL f rfl hl.1 (by decide) dJ0_charAt_5068e_1 (Nat.le_refl _) (Nat.le_refl _) va_S.rf (fun locs1 S1 => ?_)
  refine lv_if_eq B.exec B.bytes dJ0_charAt_5068e_4 (tgt := 16) rfl (fun q => absurd q (by decide)) (fun _ => ?_)
  refine lv_aload_n B.exec B.bytes dJ0_charAt_5068e_7 rfl (lv_at hl 0 rfl) ?_
  refine vk_getf B.exec B.bytes f.2.2.2.1 S1 hown (hw _ jf_RJ0_9) (fun x hx => hx) dJ0_charAt_5068e_8 ?_
  refine lv_iload_n B.exec B.bytes dJ0_charAt_5068e_11 rfl (lv_at hl 1 rfl) ?_
  refine j_callS (d := d + 2) (mc := 0) (ms := 0) [.ref va, .int (nI k)] [] ⟨B.exec, B.bytes, hml, hown, hw⟩ jo_ch1 js_J1_charAt_3b067 (m_ch1 hk) f rfl hl.1 (by decide) dJ0_charAt_5068e_12 (Nat.le_refl _) (Nat.le_refl _) S1 (fun locs2 S2 => ?_)
  exact W.zret B.exec B.bytes B.returns (congrArg Value.int (lng_n k hk)) (fun t ht hW => ⟨rfl, ht⟩) S2.2.2 dJ0_charAt_5068e_15 B.notSynchronized
end JDK

-- TOKENS: its constructor, 1: decode rows; the two calls of String
theorem d10_0 : decode cX10_init 0 = .ok (.aload_n 0, 1) := by decide +kernel
theorem d10_1 : decode cX10_init 1 = .ok (.invokespecial 3, 3) := by decide +kernel
theorem d10_4 : decode cX10_init 4 = .ok (.aload_n 0, 1) := by decide +kernel
theorem d10_5 : decode cX10_init 5 = .ok (.bipush 21, 2) := by decide +kernel
theorem d10_7 : decode cX10_init 7 = .ok (.newarray .int, 2) := by decide +kernel
theorem d10_9 : decode cX10_init 9 = .ok (.putfield 9, 3) := by decide +kernel
theorem d10_12 : decode cX10_init 12 = .ok (.aload_n 0, 1) := by decide +kernel
theorem d10_13 : decode cX10_init 13 = .ok (.aload_n 1, 1) := by decide +kernel
theorem d10_14 : decode cX10_init 14 = .ok (.putfield 15, 3) := by decide +kernel
theorem d10_17 : decode cX10_init 17 = .ok (.iconst 0, 1) := by decide +kernel
theorem d10_18 : decode cX10_init 18 = .ok (.istore_n 2, 1) := by decide +kernel
theorem d10_19 : decode cX10_init 19 = .ok (.iload_n 2, 1) := by decide +kernel
theorem d10_20 : decode cX10_init 20 = .ok (.bipush 21, 2) := by decide +kernel
theorem d10_22 : decode cX10_init 22 = .ok (.if_icmp .ge 90, 3) := by decide +kernel
theorem d10_25 : decode cX10_init 25 = .ok (.iconst 0, 1) := by decide +kernel
theorem d10_26 : decode cX10_init 26 = .ok (.istore_n 3, 1) := by decide +kernel
theorem d10_27 : decode cX10_init 27 = .ok (.iconst 0, 1) := by decide +kernel
theorem d10_28 : decode cX10_init 28 = .ok (.istore 4, 2) := by decide +kernel
theorem d10_30 : decode cX10_init 30 = .ok (.iload 4, 2) := by decide +kernel
theorem d10_32 : decode cX10_init 32 = .ok (.bipush 6, 2) := by decide +kernel
theorem d10_34 : decode cX10_init 34 = .ok (.if_icmp .ge 65, 3) := by decide +kernel
theorem d10_37 : decode cX10_init 37 = .ok (.iload_n 2, 1) := by decide +kernel
theorem d10_38 : decode cX10_init 38 = .ok (.bipush 6, 2) := by decide +kernel
theorem d10_40 : decode cX10_init 40 = .ok (.imul, 1) := by decide +kernel
theorem d10_41 : decode cX10_init 41 = .ok (.iload 4, 2) := by decide +kernel
theorem d10_43 : decode cX10_init 43 = .ok (.iadd, 1) := by decide +kernel
theorem d10_44 : decode cX10_init 44 = .ok (.istore 5, 2) := by decide +kernel
theorem d10_46 : decode cX10_init 46 = .ok (.iload 5, 2) := by decide +kernel
theorem d10_48 : decode cX10_init 48 = .ok (.ldc 19, 2) := by decide +kernel
theorem d10_50 : decode cX10_init 50 = .ok (.invokevirtual 21, 3) := by decide +kernel
theorem d10_53 : decode cX10_init 53 = .ok (.if_icmp .ge 13, 3) := by decide +kernel
theorem d10_56 : decode cX10_init 56 = .ok (.ldc 19, 2) := by decide +kernel
theorem d10_58 : decode cX10_init 58 = .ok (.iload 5, 2) := by decide +kernel
theorem d10_60 : decode cX10_init 60 = .ok (.invokevirtual 27, 3) := by decide +kernel
theorem d10_63 : decode cX10_init 63 = .ok (.goto 5, 3) := by decide +kernel
theorem d10_68 : decode cX10_init 68 = .ok (.istore 6, 2) := by decide +kernel
theorem d10_70 : decode cX10_init 70 = .ok (.iload_n 3, 1) := by decide +kernel
theorem d10_71 : decode cX10_init 71 = .ok (.iconst 5, 1) := by decide +kernel
theorem d10_72 : decode cX10_init 72 = .ok (.ishl, 1) := by decide +kernel
theorem d10_73 : decode cX10_init 73 = .ok (.iload 6, 2) := by decide +kernel
theorem d10_75 : decode cX10_init 75 = .ok (.bipush 32, 2) := by decide +kernel
theorem d10_77 : decode cX10_init 77 = .ok (.if_icmp .ne 7, 3) := by decide +kernel
theorem d10_80 : decode cX10_init 80 = .ok (.iconst 0, 1) := by decide +kernel
theorem d10_81 : decode cX10_init 81 = .ok (.goto 10, 3) := by decide +kernel
theorem d10_84 : decode cX10_init 84 = .ok (.iload 6, 2) := by decide +kernel
theorem d10_86 : decode cX10_init 86 = .ok (.bipush 97, 2) := by decide +kernel
theorem d10_88 : decode cX10_init 88 = .ok (.isub, 1) := by decide +kernel
theorem d10_89 : decode cX10_init 89 = .ok (.iconst 1, 1) := by decide +kernel
theorem d10_90 : decode cX10_init 90 = .ok (.iadd, 1) := by decide +kernel
theorem d10_91 : decode cX10_init 91 = .ok (.ior, 1) := by decide +kernel
theorem d10_92 : decode cX10_init 92 = .ok (.istore_n 3, 1) := by decide +kernel
theorem d10_93 : decode cX10_init 93 = .ok (.iinc 4 1, 3) := by decide +kernel
theorem d10_96 : decode cX10_init 96 = .ok (.goto (-66), 3) := by decide +kernel
theorem d10_99 : decode cX10_init 99 = .ok (.aload_n 0, 1) := by decide +kernel
theorem d10_100 : decode cX10_init 100 = .ok (.getfield 9, 3) := by decide +kernel
theorem d10_103 : decode cX10_init 103 = .ok (.iload_n 2, 1) := by decide +kernel
theorem d10_104 : decode cX10_init 104 = .ok (.iload_n 3, 1) := by decide +kernel
theorem d10_105 : decode cX10_init 105 = .ok (.iastore, 1) := by decide +kernel
theorem d10_106 : decode cX10_init 106 = .ok (.iinc 2 1, 3) := by decide +kernel
theorem d10_109 : decode cX10_init 109 = .ok (.goto (-90), 3) := by decide +kernel
theorem d10_112 : decode cX10_init 112 = .ok (.return_, 1) := by decide +kernel
def M10 : Mth := (yX10_init, cX10_init, 7, none, 10)
theorem mg10 : mG M10 := ⟨mgX10_init.1, mgX10_init.2.1, mgX10_init.2.2.1, mgX10_init.2.2.2.1, rfl, mgX10_init.2.2.2.2.2⟩
section TOK
variable {l : Launch} {d t0 s0 mc ms b : Nat} {r : Rs} {ls : Lc} {st : List Value} {h : Hp}
theorem g_len48 (hm : hTop h ≤ t0 + mc) (hs : hSl h ≤ s0 + ms) (hw8 : w8 st = true) (k : GW l (d + 4) t0 s0 mc ms b M10 r 53 ls (.int 126 :: st) h) : GW l (d + 4) t0 s0 mc ms b M10 r 48 ls st h := by
  intro p e s m args below meth c D cy H locs LS cells slots F L Rp S hb hz e1 e2
  obtain ⟨sa, va, f⟩ := KP_SF hb.2
  have hown : s.vm.findClass RX10 = some m.cls := F.2.2.2.2.1
  refine va_ldcS (own := "BeamClocks$Tokens") (index := 19) F.1 F.2.1 hown f.1 d10_48 ?_
  exact j_callV (d := d + 3) (va := va) [] (st.map (mv b)) ⟨F.1, F.2.1, F.2.2.2.1, hown, F.2.2.2.2.2.1⟩ jo_len ji_J0_length_8abf5 jv_J0_length_8abf5 (m_len (d := d + 2)) f rfl L.1 (sum_mv hw8) d10_50 (by omega) (by omega) S (fun locs1 S1 => k p e s m args below meth c D cy H locs1 LS cells slots F L Rp S1 hb hz e1 e2)
theorem g_chr56 {k : Nat} (hk : k < 126) (h5 : ls[5]? = some (some (.int (nI k)))) (hm : hTop h ≤ t0 + mc) (hs : hSl h ≤ s0 + ms) (hw8 : w8 st = true) (kk : GW l (d + 4) t0 s0 mc ms b M10 r 63 ls (.int (lngB.getD k 0) :: st) h) : GW l (d + 4) t0 s0 mc ms b M10 r 56 ls st h := by
  intro p e s m args below meth c D cy H locs LS cells slots F L Rp S hb hz e1 e2
  obtain ⟨sa, va, f⟩ := KP_SF hb.2
  have hown : s.vm.findClass RX10 = some m.cls := F.2.2.2.2.1
  refine va_ldcS (own := "BeamClocks$Tokens") (index := 19) F.1 F.2.1 hown f.1 d10_56 ?_
  refine lv_iload (x := nI k) F.1 F.2.1 d10_58 (L.2.2.2 5 (.int (nI k)) h5) ?_
  exact j_callV (d := d + 3) (va := va) [.int (nI k)] (st.map (mv b)) ⟨F.1, F.2.1, F.2.2.2.1, hown, F.2.2.2.2.2.1⟩ jo_ch0 ji_J0_charAt_5068e jv_J0_charAt_5068e (m_ch0 (d := d) hk) f rfl L.1 (sum_mv hw8) d10_60 (by omega) (by omega) S (fun locs1 S1 => kk p e s m args below meth c D cy H locs1 LS cells slots F L Rp S1 hb hz e1 e2)
end TOK

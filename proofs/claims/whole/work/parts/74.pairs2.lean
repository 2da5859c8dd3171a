-- PAIRS, 3: pull, stroke, since, falls, fall
/-- the reaches now, of both -/
theorem rea_now {I Im : Mem} {R : MemR} {t t' n nb nm fL lL fG lG st a b : Nat} (h : cAll I R t t' n nb nm fL lL fG lG st) (ha : a < n) (hb : b < n) (h61 : Im 123 61 = I 123 16) (h64 : Im 123 64 = -1) (e151 : ∀ k, k < 6 → Im 151 k = I 151 k) (e152 : ∀ k, k < 6 → Im 152 k = I 152 k) (e127 : Im 127 = I 127) (e128 : Im 128 = I 128) :
    reaF (I (t + 3)) (I 61) (I 63) (I 62) (I 60 3) a b = reaM Im a b := by
  have hn6 := h.n6
  obtain ⟨c1, c2, c3, c4, c5, c6, c7, c8, ⟨c9, -⟩, c10, c11, c12⟩ := h.now
  obtain ⟨⟨b1, b2, b3⟩, ⟨n1, n2, n3⟩, ⟨m1, m2, m3⟩, x1, x2, x3, x4, ⟨x5, x5'⟩, x6⟩ := h.txt
  obtain ⟨a1, ⟨xa, a2, a2'⟩, a3, ⟨pa, -, a4, a4'⟩⟩ := c9 a ha
  obtain ⟨d1, ⟨xb, d2, d2'⟩, d3, ⟨pb, -, d4, d4'⟩⟩ := c9 b hb
  have hr := rea_eq (Im := Im) (give := I (t + 3)) (stiff := I 61) (place := I 63) (beam := I 62) (wall := I 60 3) (at1 := 0) (a := a) (b := b) (by rw [h61, c6, x5]) h64 (by rw [e151 _ (by omega)]; exact a1) (by rw [e151 _ (by omega)]; exact d1) (by rw [e152 _ (by omega)]; exact a3) (by rw [e152 _ (by omega)]; exact d3) ⟨xa, by omega, a2', by rw [e127]; exact (x1 xa a2).2.1, by rw [e128, c8 xa a2]; exact (x1 xa a2).2.2.1⟩ ⟨pa, a4, a4'⟩ ⟨pb, d4, d4'⟩
  rw [Nat.zero_add, Nat.zero_add] at hr
  exact hr
theorem pull_p {I : Mem} {J : MemL} {R : MemR} {t t' n nb nm fL lL fG lG st : Nat} (h : cAll I R t t' n nb nm fL lL fG lG st) {x : Int32} : askP MX11_pull MX12_pull [.int x] I J R := by
  have hn6 := h.n6
  have n1 : ¬ (1 : Int32) = 0 := by decide
  rcases ic_or (x := x) h.n6 with ⟨c, hc, rfl, e⟩ | e
  · obtain ⟨c1, c2, c3, c4, c5, c6, c7, c8, ⟨c9, -⟩, c10, c11, c12⟩ := h.now
    have hw := wei_spec (d := 7) (m := 60) (n := n) (I := I) (J := J) (R := R) (Or.inl rfl) c2 hn6
    have hph : ∀ c, c < n → ∃ p, p < 1000 ∧ I 67 c = nI p := fun c hc => (c11 c hc).2.1
    have hv := wei_at (n := n) (sa := I 70) (ph := I 67) (bo := I 71) (r := I 72) hph c
    rw [if_pos hc] at hv
    refine ⟨smI (tugF (I 70) (I 67) (I 71) c) n, va_up I 72 (weiF n (I 70) (I 67) (I 71) (I 72)), J, R, plaM (va_up (va_up I 72 (weiF n (I 70) (I 67) (I 71) (I 72))) 123 (upd (va_up I 72 (weiF n (I 70) (I 67) (I 71) (I 72)) 123) 2 0)), J, ?_, ?_, ?_, rfl, rfl, rfl⟩
    · have e3 := eX11_pull (d := 10) (a := 0) (v0 := nI c) (h := hp I J R)
      rw [e3]
      have e4 : C 10 MX4_pullOf [.ref 60, .int (nI c)] (hp I J R) = some (some (.int (smI (tugF (I 70) (I 67) (I 71) c) n)), hp (va_up I 72 (weiF n (I 70) (I 67) (I 71) (I 72))) J R) := by
        have hw := wei_spec (d := 7) (m := 60) (n := n) (I := I) (J := J) (R := R) (Or.inl rfl) c2 hn6
        rw [eX4_pullOf]
        simp (disch := omega) only [xX4_pullOf_0, xX4_pullOf_1, xX4_pullOf_4, xX4_pullOf_5, xX4_pullOf_8, xX4_pullOf_9, xX4_pullOf_10, kd_60, fi_60_16, kd_72, ln_72, ↓reduceIte, gd_t, hK_p, hN_p, hF_p, hI_p, hJ_p, hR_p, stI_p, stJ_p, stR_p, stA_p, va_rf_s, va_rf_n, clr_i, clr_l, clr_r, clr_n, clr_o, w8_0, w8_1i, w8_1r, w8_2ii, w8_2ri, w8_2ir, w8_2rr, w8_3, beq_self_eq_true, Bool.and_self, Bool.and_true, Bool.true_and, decide_true, Option.toList_some, Option.toList_none, List.cons_append, List.nil_append, Option.bind_some, if_true, if_false, Nat.reduceLeDiff, Nat.reduceLT, Nat.reduceBEq, Bool.or_false, Bool.false_or, Bool.or_true, Bool.true_or, nI_leI, nI_ltI, nI_eq, nI_clamp, inb_n, up_s, up_n, bx_uu, nI_1, ix6, nI_0n, pk_us, pk_un, ge_0n, hw, hv]
      simp (disch := omega) only [xX11_pull_0, xX11_pull_1, xX11_pull_2, xX11_pull_5, xX11_pull_8, xX11_pull_9, xX11_pull_12, xX11_pull_13, xX11_pull_16, xX11_pull_19, xX11_pull_21, kd_0, fi_0_5, kd_60, kd_0, kd_60, ↓reduceIte, gd_t, hK_p, hN_p, hF_p, hI_p, hJ_p, hR_p, stI_p, stJ_p, stR_p, stA_p, va_rf_s, va_rf_n, clr_i, clr_l, clr_r, clr_n, clr_o, w8_0, w8_1i, w8_1r, w8_2ii, w8_2ri, w8_2ir, w8_2rr, w8_3, beq_self_eq_true, Bool.and_self, Bool.and_true, Bool.true_and, decide_true, Option.toList_some, Option.toList_none, List.cons_append, List.nil_append, Option.bind_some, if_true, if_false, Nat.reduceLeDiff, Nat.reduceLT, Nat.reduceBEq, Bool.or_false, Bool.false_or, Bool.or_true, Bool.true_or, nI_leI, nI_ltI, nI_eq, nI_clamp, inb_n, up_s, up_n, bx_uu, nI_1, ix6, nI_0n, pk_us, pk_un, ge_0n, icl_c h.te h.r3, h.nc, e, n1, e4]
    · generalize hI1 : va_up I 72 (weiF n (I 70) (I 67) (I 71) (I 72)) = I1
      have o1 : ∀ a, a ≠ 72 → I1 a = I a := fun a ha => by rw [← hI1, up_n ha]
      have ep : plaM (va_up I1 123 (upd (I1 123) 2 0)) 123 13 = nI n := by rw [pla_f (by omega), up_s, pk_un (by decide), o1 _ (by decide), h.nd]
      have e6 : plaM (va_up I1 123 (upd (I1 123) 2 0)) 156 = I 156 := by rw [pla_o (by decide) (by decide) (by decide), up_n (by decide), o1 _ (by decide)]
      have e153 : plaM (va_up I1 123 (upd (I1 123) 2 0)) 153 = I 153 := by rw [pla_o (by decide) (by decide) (by decide), up_n (by decide), o1 _ (by decide)]
      obtain ⟨a1, ⟨xa, a2, a2'⟩, a3, ⟨pa, -, a4, a4'⟩⟩ := c9 c hc
      have hb3 := h.txt.1.2.2
      have hpu := puM_spec (d := 7) (at1 := 0) (c := c) (n := n) (I := plaM (va_up I1 123 (upd (I1 123) 2 0))) (J := J) (R := R) (by omega) (by omega) ep hn6 ⟨xa, by omega, by rw [pla_o (by decide) (by decide) (by decide), up_n (by decide), o1 _ (by decide), ← a1]; exact a2'⟩
      rw [nI_0] at hpu
      rw [eX12_pull]
      have hs : smI (tugF (I 70) (I 67) (I 71) c) n = if I 156 c = 1 then smI (tugM (plaM (va_up I1 123 (upd (I1 123) 2 0))) 0 c) n else 0 := by
        obtain ⟨s1, s2, s3, s4, s5⟩ := c11 c hc
        by_cases z : I 156 c = 1
        · rw [if_pos z]
          refine smI_cong (fun k hk => ?_)
          obtain ⟨k1, k2, k3, k4, k5⟩ := c11 k hk
          unfold tugF tugM
          by_cases hkc : k = c
          · rw [if_pos hkc, if_pos hkc]
          · rw [if_neg hkc, if_neg hkc, s5, if_pos z, k5, Nat.zero_add, e6]
            by_cases y : I 156 k = 1
            · rw [if_pos y, if_pos y, c12 c k hc hk, k1, s1]
              have hrn := rea_now (Im := plaM (va_up I1 123 (upd (I1 123) 2 0))) h hc hk (by rw [pla_61.1, up_s, pk_un (by decide), o1 _ (by decide)]) pla_61.2.2.2.1 (fun k _ => by rw [pla_o (by decide) (by decide) (by decide), up_n (by decide), o1 _ (by decide)]) (fun k _ => by rw [pla_o (by decide) (by decide) (by decide), up_n (by decide), o1 _ (by decide)]) (by rw [pla_o (by decide) (by decide) (by decide), up_n (by decide), o1 _ (by decide)]) (by rw [pla_o (by decide) (by decide) (by decide), up_n (by decide), o1 _ (by decide)])
              unfold bonF
              rw [if_neg (fun q => hkc q.symm), hrn, (c10 k hk).1, (h.txt.2.2.2.2.1 k hk).2.2.2.1]
              have hwg : wghM (plaM (va_up I1 123 (upd (I1 123) 2 0))) k = I 132 k := by
                unfold wghM
                rw [pla_61.2.2.1, if_neg n1, pla_o (by decide) (by decide) (by decide), up_n (by decide), o1 _ (by decide)]
              rw [hwg, Nat.zero_add, e153]
            · rw [if_neg y, if_neg y]
        · rw [if_neg z]
          refine smI_zero (fun k hk => ?_)
          unfold tugF
          rw [s5, if_neg z]
          by_cases hkc : k = c
          · rw [if_pos hkc]
          · rw [if_neg hkc]
      rw [hs]
      by_cases z : I 156 c = 1
      · rw [if_pos z]
        simp (disch := omega) only [xX12_pull_0, xX12_pull_1, xX12_pull_2, xX12_pull_5, xX12_pull_6, xX12_pull_9, xX12_pull_10, xX12_pull_11, xX12_pull_14, xX12_pull_17, xX12_pull_20, xX12_pull_23, xX12_pull_24, xX12_pull_27, xX12_pull_28, xX12_pull_29, xX12_pull_30, xX12_pull_33, xX12_pull_34, xX12_pull_35, xX12_pull_36, xX12_pull_39, xX12_pull_42, xX12_pull_43, kd_123, fi_123_60, kd_156, ln_156, kd_123, ↓reduceIte, gd_t, hK_p, hN_p, hF_p, hI_p, hJ_p, hR_p, stI_p, stJ_p, stR_p, stA_p, va_rf_s, va_rf_n, clr_i, clr_l, clr_r, clr_n, clr_o, w8_0, w8_1i, w8_1r, w8_2ii, w8_2ri, w8_2ir, w8_2rr, w8_3, beq_self_eq_true, Bool.and_self, Bool.and_true, Bool.true_and, decide_true, Option.toList_some, Option.toList_none, List.cons_append, List.nil_append, Option.bind_some, if_true, if_false, Nat.reduceLeDiff, Nat.reduceLT, Nat.reduceBEq, Bool.or_false, Bool.false_or, Bool.or_true, Bool.true_or, nI_leI, nI_ltI, nI_eq, nI_clamp, inb_n, up_s, up_n, bx_uu, nI_1, ix6, nI_0n, pk_us, pk_un, ge_0n, pla_spec, icl_m, ep, e, n1, e6, z, hpu, not_true_eq_false, not_false_eq_true]
      · rw [if_neg z]
        simp (disch := omega) only [xX12_pull_0, xX12_pull_1, xX12_pull_2, xX12_pull_5, xX12_pull_6, xX12_pull_9, xX12_pull_10, xX12_pull_11, xX12_pull_14, xX12_pull_17, xX12_pull_20, xX12_pull_23, xX12_pull_24, xX12_pull_27, xX12_pull_28, xX12_pull_29, xX12_pull_30, xX12_pull_33, xX12_pull_34, xX12_pull_35, xX12_pull_36, xX12_pull_39, xX12_pull_42, xX12_pull_43, kd_123, fi_123_60, kd_156, ln_156, kd_123, ↓reduceIte, gd_t, hK_p, hN_p, hF_p, hI_p, hJ_p, hR_p, stI_p, stJ_p, stR_p, stA_p, va_rf_s, va_rf_n, clr_i, clr_l, clr_r, clr_n, clr_o, w8_0, w8_1i, w8_1r, w8_2ii, w8_2ri, w8_2ir, w8_2rr, w8_3, beq_self_eq_true, Bool.and_self, Bool.and_true, Bool.true_and, decide_true, Option.toList_some, Option.toList_none, List.cons_append, List.nil_append, Option.bind_some, if_true, if_false, Nat.reduceLeDiff, Nat.reduceLT, Nat.reduceBEq, Bool.or_false, Bool.false_or, Bool.or_true, Bool.true_or, nI_leI, nI_ltI, nI_eq, nI_clamp, inb_n, up_s, up_n, bx_uu, nI_1, ix6, nI_0n, pk_us, pk_un, ge_0n, pla_spec, icl_m, ep, e, n1, e6, z, not_true_eq_false, not_false_eq_true]
    · refine kp.tr (I' := va_up I 72 (weiF n (I 70) (I 67) (I 71) (I 72))) ?_ (kp.thr.tr kp_pla)
      refine ⟨fun a h => ?_, fun k h => ?_, fun a k h1 h2 h3 => ?_⟩
      · unfold kpA at h
        exact up_n (by omega)
      · rw [up_n (by decide)]
      · rw [up_n (by omega)]
  · refine ⟨-2147483648, I, J, R, plaM (va_up I 123 (upd (I 123) 2 0)), J, ?_, ?_, kp.thr.tr kp_pla, rfl, rfl, rfl⟩
    · rw [eX11_pull]
      simp (disch := omega) only [xX11_pull_0, xX11_pull_1, xX11_pull_2, xX11_pull_5, xX11_pull_8, xX11_pull_9, xX11_pull_12, xX11_pull_13, xX11_pull_16, xX11_pull_19, xX11_pull_21, kd_0, fi_0_5, kd_60, kd_0, ↓reduceIte, gd_t, hK_p, hN_p, hF_p, hI_p, hJ_p, hR_p, stI_p, stJ_p, stR_p, stA_p, va_rf_s, va_rf_n, clr_i, clr_l, clr_r, clr_n, clr_o, w8_0, w8_1i, w8_1r, w8_2ii, w8_2ri, w8_2ir, w8_2rr, w8_3, beq_self_eq_true, Bool.and_self, Bool.and_true, Bool.true_and, decide_true, Option.toList_some, Option.toList_none, List.cons_append, List.nil_append, Option.bind_some, if_true, if_false, Nat.reduceLeDiff, Nat.reduceLT, Nat.reduceBEq, Bool.or_false, Bool.false_or, Bool.or_true, Bool.true_or, nI_leI, nI_ltI, nI_eq, nI_clamp, inb_n, up_s, up_n, bx_uu, nI_1, ix6, nI_0n, pk_us, pk_un, ge_0n, icl_c h.te h.r3, h.nc, e]
    · have ep : plaM (va_up I 123 (upd (I 123) 2 0)) 123 13 = nI n := by rw [pla_f (by omega), up_s, pk_un (by decide), h.nd]
      rw [eX12_pull]
      simp (disch := omega) only [xX12_pull_0, xX12_pull_1, xX12_pull_2, xX12_pull_5, xX12_pull_6, xX12_pull_9, xX12_pull_10, xX12_pull_11, xX12_pull_14, xX12_pull_17, xX12_pull_20, xX12_pull_23, xX12_pull_24, xX12_pull_27, xX12_pull_28, xX12_pull_29, xX12_pull_30, xX12_pull_33, xX12_pull_34, xX12_pull_35, xX12_pull_36, xX12_pull_39, xX12_pull_42, xX12_pull_43, kd_123, fi_123_60, kd_156, ln_156, kd_123, ↓reduceIte, gd_t, hK_p, hN_p, hF_p, hI_p, hJ_p, hR_p, stI_p, stJ_p, stR_p, stA_p, va_rf_s, va_rf_n, clr_i, clr_l, clr_r, clr_n, clr_o, w8_0, w8_1i, w8_1r, w8_2ii, w8_2ri, w8_2ir, w8_2rr, w8_3, beq_self_eq_true, Bool.and_self, Bool.and_true, Bool.true_and, decide_true, Option.toList_some, Option.toList_none, List.cons_append, List.nil_append, Option.bind_some, if_true, if_false, Nat.reduceLeDiff, Nat.reduceLT, Nat.reduceBEq, Bool.or_false, Bool.false_or, Bool.or_true, Bool.true_or, nI_leI, nI_ltI, nI_eq, nI_clamp, inb_n, up_s, up_n, bx_uu, nI_1, ix6, nI_0n, pk_us, pk_un, ge_0n, pla_spec, icl_m, ep, e, not_true_eq_false]
-- stroke
theorem sb_0 {x : Int32} : (x + (-1)) = x - 1 := (Int32.sub_eq_add_neg x 1).symm
def bt (x : Int32) (c : Nat) : Bool := decide (isB x (nI c))
theorem sto_c {d c st : Nat} {I : Mem} {J : MemL} {R : MemR} {k : Int32} (hs : st ≤ 4000) : C (d + 1) MX8_strokeStep [.ref 102, .int (nI c), .int k, .int (nI st)] (hp I J R) = some (some (.int (an (srF (fun i (s : Int32) => bt (I 104 i) c && decide (s = 0)) (fun i s => if bt (I 104 i) c = true then s - 1 else s) st 0 k).1 (-2))), hp I J R) := by
  have h := for_s (P := fun i (s : Int32) => E (C d) MX8_strokeStep 6 [some (.ref 102), some (.int (nI c)), some (.int k), some (.int (nI st)), some (.int s), some (.int (nI i))] [] (hp I J R)) (F := fun o => some (some (.int (an o.1 (-2))), hp I J R)) (c := fun i s => bt (I 104 i) c && decide (s = 0)) (f := fun i s => if bt (I 104 i) c = true then s - 1 else s) (n := st) (by
    intro i s hi
    have c0 : ¬ st ≤ i := by omega
    have c1 : ¬ (4000 : Int32) ≤ nI i := nI_ge (b := 4000) (by omega) (by omega)
    rw [xX8_strokeStep_6]
    by_cases z : isB (I 104 i) (nI c)
    · have z' : bt (I 104 i) c = true := decide_eq_true z
      have z2 : I 104 i >>> (nI c &&& 31) &&& 1 = 1 := z
      by_cases y : s = 0
      · simp (disch := omega) only [xX8_strokeStep_8, xX8_strokeStep_9, xX8_strokeStep_12, xX8_strokeStep_14, xX8_strokeStep_17, xX8_strokeStep_20, xX8_strokeStep_21, xX8_strokeStep_24, xX8_strokeStep_26, xX8_strokeStep_27, xX8_strokeStep_28, xX8_strokeStep_29, xX8_strokeStep_30, xX8_strokeStep_31, xX8_strokeStep_32, xX8_strokeStep_35, xX8_strokeStep_37, xX8_strokeStep_40, xX8_strokeStep_42, xX8_strokeStep_43, xX8_strokeStep_46, xX8_strokeStep_49, xX8_strokeStep_52, xX8_strokeStep_54, kd_102, fi_102_1, kd_104, ln_104, ↓reduceIte, gd_t, hK_p, hN_p, hF_p, hI_p, hJ_p, hR_p, stI_p, stJ_p, stR_p, stA_p, va_rf_s, va_rf_n, clr_i, clr_l, clr_r, clr_n, clr_o, w8_0, w8_1i, w8_1r, w8_2ii, w8_2ri, w8_2ir, w8_2rr, w8_3, beq_self_eq_true, Bool.and_self, Bool.and_true, Bool.true_and, decide_true, Option.toList_some, Option.toList_none, List.cons_append, List.nil_append, Option.bind_some, if_true, if_false, Nat.reduceLeDiff, Nat.reduceLT, Nat.reduceBEq, Bool.or_false, Bool.false_or, Bool.or_true, Bool.true_or, nI_leI, nI_ltI, nI_eq, nI_clamp, inb_n, up_s, up_n, bx_uu, nI_1, ix6, nI_0n, pk_us, pk_un, ge_0n, c0, c1, z', z2, y, an, not_true_eq_false]
      · simp (disch := omega) only [xX8_strokeStep_8, xX8_strokeStep_9, xX8_strokeStep_12, xX8_strokeStep_14, xX8_strokeStep_17, xX8_strokeStep_20, xX8_strokeStep_21, xX8_strokeStep_24, xX8_strokeStep_26, xX8_strokeStep_27, xX8_strokeStep_28, xX8_strokeStep_29, xX8_strokeStep_30, xX8_strokeStep_31, xX8_strokeStep_32, xX8_strokeStep_35, xX8_strokeStep_37, xX8_strokeStep_40, xX8_strokeStep_42, xX8_strokeStep_43, xX8_strokeStep_46, xX8_strokeStep_49, xX8_strokeStep_52, xX8_strokeStep_54, kd_102, fi_102_1, kd_104, ln_104, ↓reduceIte, gd_t, hK_p, hN_p, hF_p, hI_p, hJ_p, hR_p, stI_p, stJ_p, stR_p, stA_p, va_rf_s, va_rf_n, clr_i, clr_l, clr_r, clr_n, clr_o, w8_0, w8_1i, w8_1r, w8_2ii, w8_2ri, w8_2ir, w8_2rr, w8_3, beq_self_eq_true, Bool.and_self, Bool.and_true, Bool.true_and, decide_true, Option.toList_some, Option.toList_none, List.cons_append, List.nil_append, Option.bind_some, if_true, if_false, Nat.reduceLeDiff, Nat.reduceLT, Nat.reduceBEq, Bool.or_false, Bool.false_or, Bool.or_true, Bool.true_or, nI_leI, nI_ltI, nI_eq, nI_clamp, inb_n, up_s, up_n, bx_uu, nI_1, ix6, nI_0n, pk_us, pk_un, ge_0n, c0, c1, z', z2, y, sb_0, decide_false, Bool.and_false, Bool.false_eq_true, not_true_eq_false, not_false_eq_true]
    · have z' : bt (I 104 i) c = false := decide_eq_false z
      have z2 : ¬ I 104 i >>> (nI c &&& 31) &&& 1 = 1 := z
      simp (disch := omega) only [xX8_strokeStep_8, xX8_strokeStep_9, xX8_strokeStep_12, xX8_strokeStep_14, xX8_strokeStep_17, xX8_strokeStep_20, xX8_strokeStep_21, xX8_strokeStep_24, xX8_strokeStep_26, xX8_strokeStep_27, xX8_strokeStep_28, xX8_strokeStep_29, xX8_strokeStep_30, xX8_strokeStep_31, xX8_strokeStep_32, xX8_strokeStep_35, xX8_strokeStep_37, xX8_strokeStep_40, xX8_strokeStep_42, xX8_strokeStep_43, xX8_strokeStep_46, xX8_strokeStep_49, xX8_strokeStep_52, xX8_strokeStep_54, kd_102, fi_102_1, kd_104, ln_104, ↓reduceIte, gd_t, hK_p, hN_p, hF_p, hI_p, hJ_p, hR_p, stI_p, stJ_p, stR_p, stA_p, va_rf_s, va_rf_n, clr_i, clr_l, clr_r, clr_n, clr_o, w8_0, w8_1i, w8_1r, w8_2ii, w8_2ri, w8_2ir, w8_2rr, w8_3, beq_self_eq_true, Bool.and_self, Bool.and_true, Bool.true_and, decide_true, Option.toList_some, Option.toList_none, List.cons_append, List.nil_append, Option.bind_some, if_true, if_false, Nat.reduceLeDiff, Nat.reduceLT, Nat.reduceBEq, Bool.or_false, Bool.false_or, Bool.or_true, Bool.true_or, nI_leI, nI_ltI, nI_eq, nI_clamp, inb_n, up_s, up_n, bx_uu, nI_1, ix6, nI_0n, pk_us, pk_un, ge_0n, c0, c1, z', z2, Bool.false_and, Bool.false_eq_true, not_false_eq_true]) (by
    intro s
    have c0 : st ≤ st := Nat.le_refl st
    rw [xX8_strokeStep_6]
    simp (disch := omega) only [xX8_strokeStep_8, xX8_strokeStep_9, xX8_strokeStep_12, xX8_strokeStep_14, xX8_strokeStep_17, xX8_strokeStep_20, xX8_strokeStep_21, xX8_strokeStep_24, xX8_strokeStep_26, xX8_strokeStep_27, xX8_strokeStep_28, xX8_strokeStep_29, xX8_strokeStep_30, xX8_strokeStep_31, xX8_strokeStep_32, xX8_strokeStep_35, xX8_strokeStep_37, xX8_strokeStep_40, xX8_strokeStep_42, xX8_strokeStep_43, xX8_strokeStep_46, xX8_strokeStep_49, xX8_strokeStep_52, xX8_strokeStep_54, kd_102, fi_102_1, kd_104, ln_104, ↓reduceIte, gd_t, hK_p, hN_p, hF_p, hI_p, hJ_p, hR_p, stI_p, stJ_p, stR_p, stA_p, va_rf_s, va_rf_n, clr_i, clr_l, clr_r, clr_n, clr_o, w8_0, w8_1i, w8_1r, w8_2ii, w8_2ri, w8_2ir, w8_2rr, w8_3, beq_self_eq_true, Bool.and_self, Bool.and_true, Bool.true_and, decide_true, Option.toList_some, Option.toList_none, List.cons_append, List.nil_append, Option.bind_some, if_true, if_false, Nat.reduceLeDiff, Nat.reduceLT, Nat.reduceBEq, Bool.or_false, Bool.false_or, Bool.or_true, Bool.true_or, nI_leI, nI_ltI, nI_eq, nI_clamp, inb_n, up_s, up_n, bx_uu, nI_1, ix6, nI_0n, pk_us, pk_un, ge_0n, c0, an]) st 0 k (by omega)
  rw [nI_0] at h
  rw [eX8_strokeStep]
  simp only [xX8_strokeStep_0, xX8_strokeStep_1, xX8_strokeStep_3, xX8_strokeStep_4, clr_i]
  exact h
theorem stroke_p {I : Mem} {J : MemL} {R : MemR} {t t' n nb nm fL lL fG lG st : Nat} (h : cAll I R t t' n nb nm fL lL fG lG st) {x y : Int32} : askP MX11_stroke MX12_stroke [.int x, .int y] I J R := by
  have hn6 := h.n6
  have h4 := h.s4
  have n1 : ¬ (1 : Int32) = 0 := by decide
  rcases ic_or (x := x) h.n6 with ⟨c, hc, rfl, e⟩ | e
  · by_cases y0 : 0 ≤ y
    · have hm := for_s (P := fun i (s : Int32) => E (C 10) MX12_stroke 24 [some (.ref 123), some (.int (nI c)), some (.int y), some (.int s), some (.int (nI i))] [] (hp (va_up I 123 (upd (I 123) 2 0)) J R)) (F := fun o => some (some (.int (an o.1 (-2))), hp (va_up I 123 (upd (I 123) 2 0)) J R)) (c := fun i s => bt (I 161 i) c && decide (s = y)) (f := fun i s => if bt (I 161 i) c = true then s + 1 else s) (n := st) (by
        intro i s hi
        have c0 : ¬ st ≤ i := by omega
        rw [xX12_stroke_24]
        by_cases z : isB (I 161 i) (nI c)
        · have z' : bt (I 161 i) c = true := decide_eq_true z
          have z3 : bi (isB (I 161 i) (nI c)) = 1 := if_pos z
          by_cases w : s = y
          · simp (disch := omega) only [xX12_stroke_26, xX12_stroke_27, xX12_stroke_30, xX12_stroke_33, xX12_stroke_34, xX12_stroke_37, xX12_stroke_39, xX12_stroke_40, xX12_stroke_41, xX12_stroke_44, xX12_stroke_47, xX12_stroke_50, xX12_stroke_51, xX12_stroke_52, xX12_stroke_55, xX12_stroke_57, xX12_stroke_58, xX12_stroke_61, xX12_stroke_64, xX12_stroke_67, xX12_stroke_69, kd_123, fi_123_72, kd_161, ln_161, ↓reduceIte, gd_t, hK_p, hN_p, hF_p, hI_p, hJ_p, hR_p, stI_p, stJ_p, stR_p, stA_p, va_rf_s, va_rf_n, clr_i, clr_l, clr_r, clr_n, clr_o, w8_0, w8_1i, w8_1r, w8_2ii, w8_2ri, w8_2ir, w8_2rr, w8_3, beq_self_eq_true, Bool.and_self, Bool.and_true, Bool.true_and, decide_true, Option.toList_some, Option.toList_none, List.cons_append, List.nil_append, Option.bind_some, if_true, if_false, Nat.reduceLeDiff, Nat.reduceLT, Nat.reduceBEq, Bool.or_false, Bool.false_or, Bool.or_true, Bool.true_or, nI_leI, nI_ltI, nI_eq, nI_clamp, inb_n, up_s, up_n, bx_uu, nI_1, ix6, nI_0n, pk_us, pk_un, ge_0n, h.sd, c0, isO_spec, z3, z', w, n1, an, not_true_eq_false, not_false_eq_true]
          · simp (disch := omega) only [xX12_stroke_26, xX12_stroke_27, xX12_stroke_30, xX12_stroke_33, xX12_stroke_34, xX12_stroke_37, xX12_stroke_39, xX12_stroke_40, xX12_stroke_41, xX12_stroke_44, xX12_stroke_47, xX12_stroke_50, xX12_stroke_51, xX12_stroke_52, xX12_stroke_55, xX12_stroke_57, xX12_stroke_58, xX12_stroke_61, xX12_stroke_64, xX12_stroke_67, xX12_stroke_69, kd_123, fi_123_72, kd_161, ln_161, ↓reduceIte, gd_t, hK_p, hN_p, hF_p, hI_p, hJ_p, hR_p, stI_p, stJ_p, stR_p, stA_p, va_rf_s, va_rf_n, clr_i, clr_l, clr_r, clr_n, clr_o, w8_0, w8_1i, w8_1r, w8_2ii, w8_2ri, w8_2ir, w8_2rr, w8_3, beq_self_eq_true, Bool.and_self, Bool.and_true, Bool.true_and, decide_true, Option.toList_some, Option.toList_none, List.cons_append, List.nil_append, Option.bind_some, if_true, if_false, Nat.reduceLeDiff, Nat.reduceLT, Nat.reduceBEq, Bool.or_false, Bool.false_or, Bool.or_true, Bool.true_or, nI_leI, nI_ltI, nI_eq, nI_clamp, inb_n, up_s, up_n, bx_uu, nI_1, ix6, nI_0n, pk_us, pk_un, ge_0n, h.sd, c0, isO_spec, z3, z', w, n1, decide_false, Bool.and_false, Bool.false_eq_true, not_true_eq_false, not_false_eq_true]
        · have z' : bt (I 161 i) c = false := decide_eq_false z
          have z3 : bi (isB (I 161 i) (nI c)) = 0 := if_neg z
          simp (disch := omega) only [xX12_stroke_26, xX12_stroke_27, xX12_stroke_30, xX12_stroke_33, xX12_stroke_34, xX12_stroke_37, xX12_stroke_39, xX12_stroke_40, xX12_stroke_41, xX12_stroke_44, xX12_stroke_47, xX12_stroke_50, xX12_stroke_51, xX12_stroke_52, xX12_stroke_55, xX12_stroke_57, xX12_stroke_58, xX12_stroke_61, xX12_stroke_64, xX12_stroke_67, xX12_stroke_69, kd_123, fi_123_72, kd_161, ln_161, ↓reduceIte, gd_t, hK_p, hN_p, hF_p, hI_p, hJ_p, hR_p, stI_p, stJ_p, stR_p, stA_p, va_rf_s, va_rf_n, clr_i, clr_l, clr_r, clr_n, clr_o, w8_0, w8_1i, w8_1r, w8_2ii, w8_2ri, w8_2ir, w8_2rr, w8_3, beq_self_eq_true, Bool.and_self, Bool.and_true, Bool.true_and, decide_true, Option.toList_some, Option.toList_none, List.cons_append, List.nil_append, Option.bind_some, if_true, if_false, Nat.reduceLeDiff, Nat.reduceLT, Nat.reduceBEq, Bool.or_false, Bool.false_or, Bool.or_true, Bool.true_or, nI_leI, nI_ltI, nI_eq, nI_clamp, inb_n, up_s, up_n, bx_uu, nI_1, ix6, nI_0n, pk_us, pk_un, ge_0n, h.sd, c0, isO_spec, z3, z', Bool.false_and, Bool.false_eq_true, not_true_eq_false]) (by
        intro s
        have c0 : st ≤ st := Nat.le_refl st
        rw [xX12_stroke_24]
        simp (disch := omega) only [xX12_stroke_26, xX12_stroke_27, xX12_stroke_30, xX12_stroke_33, xX12_stroke_34, xX12_stroke_37, xX12_stroke_39, xX12_stroke_40, xX12_stroke_41, xX12_stroke_44, xX12_stroke_47, xX12_stroke_50, xX12_stroke_51, xX12_stroke_52, xX12_stroke_55, xX12_stroke_57, xX12_stroke_58, xX12_stroke_61, xX12_stroke_64, xX12_stroke_67, xX12_stroke_69, kd_123, fi_123_72, kd_161, ln_161, ↓reduceIte, gd_t, hK_p, hN_p, hF_p, hI_p, hJ_p, hR_p, stI_p, stJ_p, stR_p, stA_p, va_rf_s, va_rf_n, clr_i, clr_l, clr_r, clr_n, clr_o, w8_0, w8_1i, w8_1r, w8_2ii, w8_2ri, w8_2ir, w8_2rr, w8_3, beq_self_eq_true, Bool.and_self, Bool.and_true, Bool.true_and, decide_true, Option.toList_some, Option.toList_none, List.cons_append, List.nil_append, Option.bind_some, if_true, if_false, Nat.reduceLeDiff, Nat.reduceLT, Nat.reduceBEq, Bool.or_false, Bool.false_or, Bool.or_true, Bool.true_or, nI_leI, nI_ltI, nI_eq, nI_clamp, inb_n, up_s, up_n, bx_uu, nI_1, ix6, nI_0n, pk_us, pk_un, ge_0n, h.sd, c0, an]) st 0 0 (by omega)
      rw [nI_0] at hm
      refine askP.mk0 (v := an (srF (fun i (s : Int32) => bt (I 104 i) c && decide (s = 0)) (fun i s => if bt (I 104 i) c = true then s - 1 else s) st 0 y).1 (-2)) (w := an (srF (fun i s => bt (I 161 i) c && decide (s = y)) (fun i s => if bt (I 161 i) c = true then s + 1 else s) st 0 0).1 (-2)) ?_ ?_ ?_
      · rw [eX11_stroke]
        simp (disch := omega) only [xX11_stroke_0, xX11_stroke_1, xX11_stroke_2, xX11_stroke_5, xX11_stroke_8, xX11_stroke_9, xX11_stroke_12, xX11_stroke_13, xX11_stroke_14, xX11_stroke_15, xX11_stroke_18, xX11_stroke_19, xX11_stroke_20, xX11_stroke_21, xX11_stroke_24, xX11_stroke_27, xX11_stroke_30, kd_0, fi_0_5, kd_60, fi_0_9, kd_102, kd_102, ↓reduceIte, gd_t, hK_p, hN_p, hF_p, hI_p, hJ_p, hR_p, stI_p, stJ_p, stR_p, stA_p, va_rf_s, va_rf_n, clr_i, clr_l, clr_r, clr_n, clr_o, w8_0, w8_1i, w8_1r, w8_2ii, w8_2ri, w8_2ir, w8_2rr, w8_3, beq_self_eq_true, Bool.and_self, Bool.and_true, Bool.true_and, decide_true, Option.toList_some, Option.toList_none, List.cons_append, List.nil_append, Option.bind_some, if_true, if_false, Nat.reduceLeDiff, Nat.reduceLT, Nat.reduceBEq, Bool.or_false, Bool.false_or, Bool.or_true, Bool.true_or, nI_leI, nI_ltI, nI_eq, nI_clamp, inb_n, up_s, up_n, bx_uu, nI_1, ix6, nI_0n, pk_us, pk_un, ge_0n, icl_c h.te h.r3, h.nc, h.sc, e, n1, y0, sto_c h4, w8_4]
      · rw [eX12_stroke]
        simp (disch := omega) only [xX12_stroke_0, xX12_stroke_1, xX12_stroke_2, xX12_stroke_5, xX12_stroke_6, xX12_stroke_7, xX12_stroke_10, xX12_stroke_13, xX12_stroke_14, xX12_stroke_17, xX12_stroke_18, xX12_stroke_19, xX12_stroke_20, xX12_stroke_21, xX12_stroke_22, kd_123, fi_123_72, kd_161, ln_161, ↓reduceIte, gd_t, hK_p, hN_p, hF_p, hI_p, hJ_p, hR_p, stI_p, stJ_p, stR_p, stA_p, va_rf_s, va_rf_n, clr_i, clr_l, clr_r, clr_n, clr_o, w8_0, w8_1i, w8_1r, w8_2ii, w8_2ri, w8_2ir, w8_2rr, w8_3, beq_self_eq_true, Bool.and_self, Bool.and_true, Bool.true_and, decide_true, Option.toList_some, Option.toList_none, List.cons_append, List.nil_append, Option.bind_some, if_true, if_false, Nat.reduceLeDiff, Nat.reduceLT, Nat.reduceBEq, Bool.or_false, Bool.false_or, Bool.or_true, Bool.true_or, nI_leI, nI_ltI, nI_eq, nI_clamp, inb_n, up_s, up_n, bx_uu, nI_1, ix6, nI_0n, pk_us, pk_un, ge_0n, icl_m, h.nd, e, n1, y0]
        exact hm
      · have hq := (srF_sim (Rl := fun _ (a b : Int32) => a = y - b) (c := fun i (s : Int32) => bt (I 104 i) c && decide (s = 0)) (f := fun i s => if bt (I 104 i) c = true then s - 1 else s) (c' := fun i s => bt (I 161 i) c && decide (s = y)) (f' := fun i s => if bt (I 161 i) c = true then s + 1 else s) (n := st) (fun i a b hi r => by
            have hs := (h.sto i hi).2.1
            rw [hs, r]
            congr 1
            have : (y - b = 0) = (b = y) := propext ⟨fun q => (Int32.sub_eq_iff_eq_add.mp q).symm ▸ (by rw [Int32.zero_add]), fun q => by rw [q, Int32.sub_self]⟩
            simp only [this]) (fun i a b hi r _ => by
            have hs := (h.sto i hi).2.1
            rw [hs, r]
            by_cases z : bt (I 161 i) c = true
            · rw [if_pos z, if_pos z]
              rw [Int32.sub_sub]
            · rw [if_neg z, if_neg z]) st 0 y 0 (by omega) (by rw [Int32.sub_zero])).1
        rw [hq]
    · refine askP.mk0 (v := -1) (w := -1) ?_ ?_ rfl
      · rw [eX11_stroke]
        simp (disch := omega) only [xX11_stroke_0, xX11_stroke_1, xX11_stroke_2, xX11_stroke_5, xX11_stroke_8, xX11_stroke_9, xX11_stroke_12, xX11_stroke_13, xX11_stroke_14, xX11_stroke_15, xX11_stroke_18, xX11_stroke_19, xX11_stroke_20, xX11_stroke_21, xX11_stroke_24, xX11_stroke_27, xX11_stroke_30, kd_0, fi_0_5, kd_60, fi_0_9, kd_102, ↓reduceIte, gd_t, hK_p, hN_p, hF_p, hI_p, hJ_p, hR_p, stI_p, stJ_p, stR_p, stA_p, va_rf_s, va_rf_n, clr_i, clr_l, clr_r, clr_n, clr_o, w8_0, w8_1i, w8_1r, w8_2ii, w8_2ri, w8_2ir, w8_2rr, w8_3, beq_self_eq_true, Bool.and_self, Bool.and_true, Bool.true_and, decide_true, Option.toList_some, Option.toList_none, List.cons_append, List.nil_append, Option.bind_some, if_true, if_false, Nat.reduceLeDiff, Nat.reduceLT, Nat.reduceBEq, Bool.or_false, Bool.false_or, Bool.or_true, Bool.true_or, nI_leI, nI_ltI, nI_eq, nI_clamp, inb_n, up_s, up_n, bx_uu, nI_1, ix6, nI_0n, pk_us, pk_un, ge_0n, icl_c h.te h.r3, h.nc, e, n1, y0]
      · rw [eX12_stroke]
        simp (disch := omega) only [xX12_stroke_0, xX12_stroke_1, xX12_stroke_2, xX12_stroke_5, xX12_stroke_6, xX12_stroke_7, xX12_stroke_10, xX12_stroke_13, xX12_stroke_14, xX12_stroke_17, xX12_stroke_18, xX12_stroke_19, xX12_stroke_20, xX12_stroke_21, xX12_stroke_22, kd_123, fi_123_72, kd_161, ln_161, ↓reduceIte, gd_t, hK_p, hN_p, hF_p, hI_p, hJ_p, hR_p, stI_p, stJ_p, stR_p, stA_p, va_rf_s, va_rf_n, clr_i, clr_l, clr_r, clr_n, clr_o, w8_0, w8_1i, w8_1r, w8_2ii, w8_2ri, w8_2ir, w8_2rr, w8_3, beq_self_eq_true, Bool.and_self, Bool.and_true, Bool.true_and, decide_true, Option.toList_some, Option.toList_none, List.cons_append, List.nil_append, Option.bind_some, if_true, if_false, Nat.reduceLeDiff, Nat.reduceLT, Nat.reduceBEq, Bool.or_false, Bool.false_or, Bool.or_true, Bool.true_or, nI_leI, nI_ltI, nI_eq, nI_clamp, inb_n, up_s, up_n, bx_uu, nI_1, ix6, nI_0n, pk_us, pk_un, ge_0n, icl_m, h.nd, e, n1, y0]
  · refine askP.mk0 (v := -1) (w := -1) ?_ ?_ rfl
    · rw [eX11_stroke]
      simp (disch := omega) only [xX11_stroke_0, xX11_stroke_1, xX11_stroke_2, xX11_stroke_5, xX11_stroke_8, xX11_stroke_9, xX11_stroke_12, xX11_stroke_13, xX11_stroke_14, xX11_stroke_15, xX11_stroke_18, xX11_stroke_19, xX11_stroke_20, xX11_stroke_21, xX11_stroke_24, xX11_stroke_27, xX11_stroke_30, kd_0, fi_0_5, kd_60, fi_0_9, kd_102, ↓reduceIte, gd_t, hK_p, hN_p, hF_p, hI_p, hJ_p, hR_p, stI_p, stJ_p, stR_p, stA_p, va_rf_s, va_rf_n, clr_i, clr_l, clr_r, clr_n, clr_o, w8_0, w8_1i, w8_1r, w8_2ii, w8_2ri, w8_2ir, w8_2rr, w8_3, beq_self_eq_true, Bool.and_self, Bool.and_true, Bool.true_and, decide_true, Option.toList_some, Option.toList_none, List.cons_append, List.nil_append, Option.bind_some, if_true, if_false, Nat.reduceLeDiff, Nat.reduceLT, Nat.reduceBEq, Bool.or_false, Bool.false_or, Bool.or_true, Bool.true_or, nI_leI, nI_ltI, nI_eq, nI_clamp, inb_n, up_s, up_n, bx_uu, nI_1, ix6, nI_0n, pk_us, pk_un, ge_0n, icl_c h.te h.r3, h.nc, e]
    · rw [eX12_stroke]
      simp (disch := omega) only [xX12_stroke_0, xX12_stroke_1, xX12_stroke_2, xX12_stroke_5, xX12_stroke_6, xX12_stroke_7, xX12_stroke_10, xX12_stroke_13, xX12_stroke_14, xX12_stroke_17, xX12_stroke_18, xX12_stroke_19, xX12_stroke_20, xX12_stroke_21, xX12_stroke_22, kd_123, fi_123_72, kd_161, ln_161, ↓reduceIte, gd_t, hK_p, hN_p, hF_p, hI_p, hJ_p, hR_p, stI_p, stJ_p, stR_p, stA_p, va_rf_s, va_rf_n, clr_i, clr_l, clr_r, clr_n, clr_o, w8_0, w8_1i, w8_1r, w8_2ii, w8_2ri, w8_2ir, w8_2rr, w8_3, beq_self_eq_true, Bool.and_self, Bool.and_true, Bool.true_and, decide_true, Option.toList_some, Option.toList_none, List.cons_append, List.nil_append, Option.bind_some, if_true, if_false, Nat.reduceLeDiff, Nat.reduceLT, Nat.reduceBEq, Bool.or_false, Bool.false_or, Bool.or_true, Bool.true_or, nI_leI, nI_ltI, nI_eq, nI_clamp, inb_n, up_s, up_n, bx_uu, nI_1, ix6, nI_0n, pk_us, pk_un, ge_0n, icl_m, h.nd, e]

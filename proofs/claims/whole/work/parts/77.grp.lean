-- PAIRS, 5: group, groups, count
theorem for_v {σ : Type} {P : Nat → σ → Option Rs} {f : Nat → σ → σ} {fin : σ → Option Rs} {Inv : Nat → σ → Prop} {n : Nat} (hs : ∀ i s, i < n → Inv i s → P i s = P (i + 1) (f i s)) (hk : ∀ i s, i < n → Inv i s → Inv (i + 1) (f i s)) (he : ∀ s, Inv n s → P n s = fin s) : ∀ k i s, i + k = n → Inv i s → P i s = fin (itf f k i s)
  | 0, i, s, h, v => by
    obtain rfl : i = n := by omega
    exact he s v
  | k + 1, i, s, h, v => by
    rw [hs i s (by omega) v]
    exact for_v hs hk he k (i + 1) (f i s) (by omega) (hk i s (by omega) v)
theorem nI_6 : nI 6 = 6 := rfl
def ruF (sa : Nat → Int32) (n : Nat) : Nat → Bool := fun k => decide (k < n) && decide (sa k = 1)
theorem run_c {d m n : Nat} {I : Mem} {J : MemL} {R : MemR} (hm : isMo m) (hn : I m 1 = nI n) (hn6 : n ≤ 6) : C (d + 1) MX4_runners [.ref m] (hp I J R) = some (some (.int (bI (ruF (I (m + 10)) n))), hp I J R) := by
  have h := for_0 (P := fun i (_ : Unit) => E (C d) MX4_runners 4 [some (.ref m), some (.int (bI (ruF (I (m + 10)) i))), some (.int (nI i))] [] (hp I J R)) (f := fun _ s => s) (fin := fun _ => some (some (.int (bI (ruF (I (m + 10)) n))), hp I J R)) (n := n) (s := ()) (by
    intro i s hi
    have c0 : ¬ n ≤ i := by omega
    rw [xX4_runners_4]
    by_cases z : I (m + 10) i = 1
    · have hb : bI (ruF (I (m + 10)) i) ||| (1 : Int32) <<< (nI i &&& 31) = bI (ruF (I (m + 10)) (i + 1)) := by
        rw [bI_or (by omega)]
        refine bI_ext (fun k hk => ?_)
        unfold ruF
        by_cases e : k = i
        · subst e
          simp [z]
        · by_cases e2 : k < i
          · simp [e, e2, show k < i + 1 by omega]
          · simp [e, e2, show ¬ k < i + 1 by omega]
      simp (disch := omega) only [xX4_runners_5, xX4_runners_6, xX4_runners_9, xX4_runners_12, xX4_runners_13, xX4_runners_16, xX4_runners_17, xX4_runners_18, xX4_runners_19, xX4_runners_22, xX4_runners_23, xX4_runners_24, xX4_runners_25, xX4_runners_26, xX4_runners_27, xX4_runners_28, xX4_runners_31, mo_k0 hm, mo_f0_14 hm, mo_k10 hm, mo_n10 hm, ↓reduceIte, gd_t, hK_p, hN_p, hF_p, hI_p, hJ_p, hR_p, stI_p, stJ_p, stR_p, stA_p, va_rf_s, va_rf_n, clr_i, clr_l, clr_r, clr_n, clr_o, w8_0, w8_1i, w8_1r, w8_2ii, w8_2ri, w8_2ir, w8_2rr, w8_3, beq_self_eq_true, Bool.and_self, Bool.and_true, Bool.true_and, decide_true, Option.toList_some, Option.toList_none, List.cons_append, List.nil_append, Option.bind_some, if_true, if_false, Nat.reduceLeDiff, Nat.reduceLT, Nat.reduceBEq, Bool.or_false, Bool.false_or, Bool.or_true, Bool.true_or, nI_leI, nI_ltI, nI_eq, nI_clamp, inb_n, up_s, up_n, bx_uu, nI_1, ix6, nI_0n, pk_us, pk_un, ge_0n, hn, c0, z, hb, not_true_eq_false]
    · have hb : bI (ruF (I (m + 10)) i) = bI (ruF (I (m + 10)) (i + 1)) := by
        refine bI_ext (fun k hk => ?_)
        unfold ruF
        by_cases e : k = i
        · subst e
          simp [z]
        · by_cases e2 : k < i
          · simp [e2, show k < i + 1 by omega]
          · simp [e2, show ¬ k < i + 1 by omega]
      simp (disch := omega) only [xX4_runners_5, xX4_runners_6, xX4_runners_9, xX4_runners_12, xX4_runners_13, xX4_runners_16, xX4_runners_17, xX4_runners_18, xX4_runners_19, xX4_runners_22, xX4_runners_23, xX4_runners_24, xX4_runners_25, xX4_runners_26, xX4_runners_27, xX4_runners_28, xX4_runners_31, mo_k0 hm, mo_f0_14 hm, mo_k10 hm, mo_n10 hm, ↓reduceIte, gd_t, hK_p, hN_p, hF_p, hI_p, hJ_p, hR_p, stI_p, stJ_p, stR_p, stA_p, va_rf_s, va_rf_n, clr_i, clr_l, clr_r, clr_n, clr_o, w8_0, w8_1i, w8_1r, w8_2ii, w8_2ri, w8_2ir, w8_2rr, w8_3, beq_self_eq_true, Bool.and_self, Bool.and_true, Bool.true_and, decide_true, Option.toList_some, Option.toList_none, List.cons_append, List.nil_append, Option.bind_some, if_true, if_false, Nat.reduceLeDiff, Nat.reduceLT, Nat.reduceBEq, Bool.or_false, Bool.false_or, Bool.or_true, Bool.true_or, nI_leI, nI_ltI, nI_eq, nI_clamp, inb_n, up_s, up_n, bx_uu, nI_1, ix6, nI_0n, pk_us, pk_un, ge_0n, hn, c0, z, hb, not_false_eq_true]) (by
    intro s
    have c0 : n ≤ n := Nat.le_refl n
    rw [xX4_runners_4]
    simp (disch := omega) only [xX4_runners_5, xX4_runners_6, xX4_runners_9, xX4_runners_12, xX4_runners_13, xX4_runners_16, xX4_runners_17, xX4_runners_18, xX4_runners_19, xX4_runners_22, xX4_runners_23, xX4_runners_24, xX4_runners_25, xX4_runners_26, xX4_runners_27, xX4_runners_28, xX4_runners_31, xX4_runners_34, xX4_runners_35, mo_k0 hm, mo_f0_14 hm, mo_k10 hm, mo_n10 hm, ↓reduceIte, gd_t, hK_p, hN_p, hF_p, hI_p, hJ_p, hR_p, stI_p, stJ_p, stR_p, stA_p, va_rf_s, va_rf_n, clr_i, clr_l, clr_r, clr_n, clr_o, w8_0, w8_1i, w8_1r, w8_2ii, w8_2ri, w8_2ir, w8_2rr, w8_3, beq_self_eq_true, Bool.and_self, Bool.and_true, Bool.true_and, decide_true, Option.toList_some, Option.toList_none, List.cons_append, List.nil_append, Option.bind_some, if_true, if_false, Nat.reduceLeDiff, Nat.reduceLT, Nat.reduceBEq, Bool.or_false, Bool.false_or, Bool.or_true, Bool.true_or, nI_leI, nI_ltI, nI_eq, nI_clamp, inb_n, up_s, up_n, bx_uu, nI_1, ix6, nI_0n, pk_us, pk_un, ge_0n, hn, c0])
  have h0 : bI (ruF (I (m + 10)) 0) = 0 := by
    rw [← bI_0]
    exact bI_ext (fun k _ => by simp [ruF])
  rw [h0, nI_0] at h
  rw [eX4_runners]
  simp only [xX4_runners_0, xX4_runners_1, xX4_runners_2, xX4_runners_3, clr_r, clr_i]
  exact h
def nrF (ph : Nat → Int32) (w : Int32) (a b : Nat) : Bool := decide (apaF (ph a) (ph b) ≤ w)
theorem bt_is {p : Nat → Bool} {i : Nat} (h : i < 6) : (bI p >>> (nI i &&& 31) &&& 1 = 1) = (p i = true) := by
  have := bI_is (p := p) h
  unfold bt at this
  rw [← this]
  exact propext ⟨fun q => decide_eq_true q, fun q => of_decide_eq_true q⟩
theorem grC_a {d m n a : Nat} {w : Int32} {I : Mem} {J : MemL} {R : MemR} {l1 : Option Value} {x5 : Int32} {p : Nat → Bool} (hm : isMo m) (hn : I m 1 = nI n) (hn6 : n ≤ 6) (ha : a < n) : ∃ q : Option Value, E (C (d + 2)) MX4_groupOf 39 [some (.ref m), l1, some (.int w), some (.int (bI (ruF (I (m + 10)) n))), some (.int (bI p)), some (.int x5), some (.int (nI a)), some (.int (nI 0))] [] (hp I J R) = E (C (d + 2)) MX4_groupOf 97 [some (.ref m), l1, some (.int w), some (.int (bI (ruF (I (m + 10)) n))), some (.int (bI (oneF n (ruF (I (m + 10)) n) (nrF (I (m + 7)) w) a p))), some (.int x5), some (.int (nI a)), q] [] (hp I J R) := by
  by_cases pa : p a = true
  · have h := for_v (P := fun b (p : Nat → Bool) => E (C (d + 2)) MX4_groupOf 39 [some (.ref m), l1, some (.int w), some (.int (bI (ruF (I (m + 10)) n))), some (.int (bI p)), some (.int x5), some (.int (nI a)), some (.int (nI b))] [] (hp I J R)) (f := fun b p => if nrF (I (m + 7)) w a b = true then (fun k => p k || (ruF (I (m + 10)) n k && decide (k = b))) else p) (fin := fun p => E (C (d + 2)) MX4_groupOf 97 [some (.ref m), l1, some (.int w), some (.int (bI (ruF (I (m + 10)) n))), some (.int (bI p)), some (.int x5), some (.int (nI a)), some (.int (nI n))] [] (hp I J R)) (Inv := fun b q => q a = true ∧ ∀ k, q k = (p k || (decide (k < b) && (ruF (I (m + 10)) n k && nrF (I (m + 7)) w a k)))) (n := n) (by
      intro b q hb hv
      have c0 : ¬ n ≤ b := by omega
      have hbit : bI q >>> (nI a &&& 31) &&& 1 = 1 := by rw [bt_is (by omega)]; exact hv.1
      rw [xX4_groupOf_39]
      by_cases z : nrF (I (m + 7)) w a b = true
      · have z2 : ¬ w < apaF (I (m + 7) a) (I (m + 7) b) := Int32.not_lt.mpr (of_decide_eq_true z)
        simp (disch := omega) only [xX4_groupOf_41, xX4_groupOf_42, xX4_groupOf_45, xX4_groupOf_48, xX4_groupOf_50, xX4_groupOf_52, xX4_groupOf_53, xX4_groupOf_54, xX4_groupOf_55, xX4_groupOf_56, xX4_groupOf_59, xX4_groupOf_60, xX4_groupOf_63, xX4_groupOf_65, xX4_groupOf_66, xX4_groupOf_67, xX4_groupOf_70, xX4_groupOf_72, xX4_groupOf_73, xX4_groupOf_76, xX4_groupOf_77, xX4_groupOf_80, xX4_groupOf_82, xX4_groupOf_83, xX4_groupOf_84, xX4_groupOf_86, xX4_groupOf_87, xX4_groupOf_88, xX4_groupOf_89, xX4_groupOf_91, xX4_groupOf_94, mo_k0 hm, mo_f0_11 hm, mo_k7 hm, mo_n7 hm, ↓reduceIte, gd_t, hK_p, hN_p, hF_p, hI_p, hJ_p, hR_p, stI_p, stJ_p, stR_p, stA_p, va_rf_s, va_rf_n, clr_i, clr_l, clr_r, clr_n, clr_o, w8_0, w8_1i, w8_1r, w8_2ii, w8_2ri, w8_2ir, w8_2rr, w8_3, beq_self_eq_true, Bool.and_self, Bool.and_true, Bool.true_and, decide_true, Option.toList_some, Option.toList_none, List.cons_append, List.nil_append, Option.bind_some, if_true, if_false, Nat.reduceLeDiff, Nat.reduceLT, Nat.reduceBEq, Bool.or_false, Bool.false_or, Bool.or_true, Bool.true_or, nI_leI, nI_ltI, nI_eq, nI_clamp, inb_n, up_s, up_n, bx_uu, nI_1, ix6, nI_0n, pk_us, pk_un, ge_0n, hn, c0, hbit, z, z2, apa_spec, bI_an, bI_oo, not_true_eq_false]
      · have z2 : w < apaF (I (m + 7) a) (I (m + 7) b) := Int32.not_le.mp (fun q => z (decide_eq_true q))
        simp (disch := omega) only [xX4_groupOf_41, xX4_groupOf_42, xX4_groupOf_45, xX4_groupOf_48, xX4_groupOf_50, xX4_groupOf_52, xX4_groupOf_53, xX4_groupOf_54, xX4_groupOf_55, xX4_groupOf_56, xX4_groupOf_59, xX4_groupOf_60, xX4_groupOf_63, xX4_groupOf_65, xX4_groupOf_66, xX4_groupOf_67, xX4_groupOf_70, xX4_groupOf_72, xX4_groupOf_73, xX4_groupOf_76, xX4_groupOf_77, xX4_groupOf_80, xX4_groupOf_82, xX4_groupOf_83, xX4_groupOf_84, xX4_groupOf_86, xX4_groupOf_87, xX4_groupOf_88, xX4_groupOf_89, xX4_groupOf_91, xX4_groupOf_94, mo_k0 hm, mo_f0_11 hm, mo_k7 hm, mo_n7 hm, ↓reduceIte, gd_t, hK_p, hN_p, hF_p, hI_p, hJ_p, hR_p, stI_p, stJ_p, stR_p, stA_p, va_rf_s, va_rf_n, clr_i, clr_l, clr_r, clr_n, clr_o, w8_0, w8_1i, w8_1r, w8_2ii, w8_2ri, w8_2ir, w8_2rr, w8_3, beq_self_eq_true, Bool.and_self, Bool.and_true, Bool.true_and, decide_true, Option.toList_some, Option.toList_none, List.cons_append, List.nil_append, Option.bind_some, if_true, if_false, Nat.reduceLeDiff, Nat.reduceLT, Nat.reduceBEq, Bool.or_false, Bool.false_or, Bool.or_true, Bool.true_or, nI_leI, nI_ltI, nI_eq, nI_clamp, inb_n, up_s, up_n, bx_uu, nI_1, ix6, nI_0n, pk_us, pk_un, ge_0n, hn, c0, hbit, z, z2, apa_spec, not_true_eq_false, Bool.false_eq_true]) (by
      intro b q hb hv
      have hstep : ∀ k, (if nrF (I (m + 7)) w a b = true then (fun k => q k || (ruF (I (m + 10)) n k && decide (k = b))) else q) k = (p k || (decide (k < b + 1) && (ruF (I (m + 10)) n k && nrF (I (m + 7)) w a k))) := by
        intro k
        by_cases z : nrF (I (m + 7)) w a b = true
        · rw [if_pos z]
          rw [hv.2 k]
          by_cases e : k = b
          · subst e
            simp [z]
          · by_cases e2 : k < b
            · simp [e, e2, show k < b + 1 by omega]
            · simp [e, e2, show ¬ k < b + 1 by omega]
        · rw [if_neg z, hv.2 k]
          by_cases e : k = b
          · subst e
            simp [z]
          · by_cases e2 : k < b
            · simp [e2, show k < b + 1 by omega]
            · simp [e2, show ¬ k < b + 1 by omega]
      exact ⟨by rw [hstep a, pa, Bool.true_or], hstep⟩) (by
      intro q hv
      have c0 : n ≤ n := Nat.le_refl n
      rw [xX4_groupOf_39]
      simp (disch := omega) only [xX4_groupOf_41, xX4_groupOf_42, xX4_groupOf_45, xX4_groupOf_48, xX4_groupOf_50, xX4_groupOf_52, xX4_groupOf_53, xX4_groupOf_54, xX4_groupOf_55, xX4_groupOf_56, xX4_groupOf_59, xX4_groupOf_60, xX4_groupOf_63, xX4_groupOf_65, xX4_groupOf_66, xX4_groupOf_67, xX4_groupOf_70, xX4_groupOf_72, xX4_groupOf_73, xX4_groupOf_76, xX4_groupOf_77, xX4_groupOf_80, xX4_groupOf_82, xX4_groupOf_83, xX4_groupOf_84, xX4_groupOf_86, xX4_groupOf_87, xX4_groupOf_88, xX4_groupOf_89, xX4_groupOf_91, xX4_groupOf_94, mo_k0 hm, mo_f0_11 hm, mo_k7 hm, mo_n7 hm, ↓reduceIte, gd_t, hK_p, hN_p, hF_p, hI_p, hJ_p, hR_p, stI_p, stJ_p, stR_p, stA_p, va_rf_s, va_rf_n, clr_i, clr_l, clr_r, clr_n, clr_o, w8_0, w8_1i, w8_1r, w8_2ii, w8_2ri, w8_2ir, w8_2rr, w8_3, beq_self_eq_true, Bool.and_self, Bool.and_true, Bool.true_and, decide_true, Option.toList_some, Option.toList_none, List.cons_append, List.nil_append, Option.bind_some, if_true, if_false, Nat.reduceLeDiff, Nat.reduceLT, Nat.reduceBEq, Bool.or_false, Bool.false_or, Bool.or_true, Bool.true_or, nI_leI, nI_ltI, nI_eq, nI_clamp, inb_n, up_s, up_n, bx_uu, nI_1, ix6, nI_0n, pk_us, pk_un, ge_0n, hn, c0]) n 0 p (by omega) ⟨pa, fun k => by simp⟩
    have hq := itf_inv (f := fun b (p : Nat → Bool) => if nrF (I (m + 7)) w a b = true then (fun k => p k || (ruF (I (m + 10)) n k && decide (k = b))) else p) (Q := fun b q => ∀ k, q k = (p k || (decide (k < b) && (ruF (I (m + 10)) n k && nrF (I (m + 7)) w a k)))) (n := n) (by
      intro b q hb hv k
      by_cases z : nrF (I (m + 7)) w a b = true
      · rw [if_pos z]
        rw [hv k]
        by_cases e : k = b
        · subst e
          simp [z]
        · by_cases e2 : k < b
          · simp [e, e2, show k < b + 1 by omega]
          · simp [e, e2, show ¬ k < b + 1 by omega]
      · rw [if_neg z, hv k]
        by_cases e : k = b
        · subst e
          simp [z]
        · by_cases e2 : k < b
          · simp [e2, show k < b + 1 by omega]
          · simp [e2, show ¬ k < b + 1 by omega]) n 0 p (by omega) (fun k => by simp)
    refine ⟨some (.int (nI n)), h.trans ?_⟩
    have he : itf (fun b (p : Nat → Bool) => if nrF (I (m + 7)) w a b = true then (fun k => p k || (ruF (I (m + 10)) n k && decide (k = b))) else p) n 0 p = oneF n (ruF (I (m + 10)) n) (nrF (I (m + 7)) w) a p := by
      funext k
      rw [hq k]
      unfold oneF
      rw [pa, Bool.true_and]
    rw [he]
  · refine ⟨some (.int (nI 0)), ?_⟩
    have hbit : ¬ bI p >>> (nI a &&& 31) &&& 1 = 1 := by rw [bt_is (by omega)]; exact pa
    have c0 : ¬ n ≤ 0 := by omega
    have he : oneF n (ruF (I (m + 10)) n) (nrF (I (m + 7)) w) a p = p := by
      funext k
      unfold oneF
      simp [pa]
    rw [xX4_groupOf_39, he]
    simp (disch := omega) only [xX4_groupOf_41, xX4_groupOf_42, xX4_groupOf_45, xX4_groupOf_48, xX4_groupOf_50, xX4_groupOf_52, xX4_groupOf_53, xX4_groupOf_54, xX4_groupOf_55, xX4_groupOf_56, xX4_groupOf_59, xX4_groupOf_60, xX4_groupOf_63, xX4_groupOf_65, xX4_groupOf_66, xX4_groupOf_67, xX4_groupOf_70, xX4_groupOf_72, xX4_groupOf_73, xX4_groupOf_76, xX4_groupOf_77, xX4_groupOf_80, xX4_groupOf_82, xX4_groupOf_83, xX4_groupOf_84, xX4_groupOf_86, xX4_groupOf_87, xX4_groupOf_88, xX4_groupOf_89, xX4_groupOf_91, xX4_groupOf_94, mo_k0 hm, mo_f0_11 hm, mo_k7 hm, mo_n7 hm, ↓reduceIte, gd_t, hK_p, hN_p, hF_p, hI_p, hJ_p, hR_p, stI_p, stJ_p, stR_p, stA_p, va_rf_s, va_rf_n, clr_i, clr_l, clr_r, clr_n, clr_o, w8_0, w8_1i, w8_1r, w8_2ii, w8_2ri, w8_2ir, w8_2rr, w8_3, beq_self_eq_true, Bool.and_self, Bool.and_true, Bool.true_and, decide_true, Option.toList_some, Option.toList_none, List.cons_append, List.nil_append, Option.bind_some, if_true, if_false, Nat.reduceLeDiff, Nat.reduceLT, Nat.reduceBEq, Bool.or_false, Bool.false_or, Bool.or_true, Bool.true_or, nI_leI, nI_ltI, nI_eq, nI_clamp, inb_n, up_s, up_n, bx_uu, nI_1, ix6, nI_0n, pk_us, pk_un, ge_0n, hn, c0, hbit, not_false_eq_true]
theorem grC_r {d m n : Nat} {w : Int32} {I : Mem} {J : MemL} {R : MemR} {l1 : Option Value} {x5 : Int32} (hm : isMo m) (hn : I m 1 = nI n) (hn6 : n ≤ 6) : ∀ (k a : Nat) (p : Nat → Bool) (g : Option Value), a + k = n → ∃ q : Option Value, E (C (d + 2)) MX4_groupOf 27 [some (.ref m), l1, some (.int w), some (.int (bI (ruF (I (m + 10)) n))), some (.int (bI p)), some (.int x5), some (.int (nI a)), g] [] (hp I J R) = E (C (d + 2)) MX4_groupOf 103 [some (.ref m), l1, some (.int w), some (.int (bI (ruF (I (m + 10)) n))), some (.int (bI (itf (oneF n (ruF (I (m + 10)) n) (nrF (I (m + 7)) w)) k a p))), some (.int x5), some (.int (nI n)), q] [] (hp I J R) := by
  refine for_j (P := fun a (p : Nat → Bool) (g : Option Value) => E (C (d + 2)) MX4_groupOf 27 [some (.ref m), l1, some (.int w), some (.int (bI (ruF (I (m + 10)) n))), some (.int (bI p)), some (.int x5), some (.int (nI a)), g] [] (hp I J R)) (F := fun p (q : Option Value) => E (C (d + 2)) MX4_groupOf 103 [some (.ref m), l1, some (.int w), some (.int (bI (ruF (I (m + 10)) n))), some (.int (bI p)), some (.int x5), some (.int (nI n)), q] [] (hp I J R)) (n := n) ?_ ?_
  · intro a p g ha
    obtain ⟨q3, hq3⟩ := grC_a (d := d) (w := w) (J := J) (R := R) (l1 := l1) (x5 := x5) (p := p) hm hn hn6 ha
    have c0 : ¬ n ≤ a := by omega
    rw [nI_0] at hq3
    refine ⟨q3, ?_⟩
    rw [xX4_groupOf_27]
    simp (disch := omega) only [xX4_groupOf_29, xX4_groupOf_30, xX4_groupOf_33, xX4_groupOf_36, xX4_groupOf_37, mo_k0 hm, mo_f0_11 hm, mo_k7 hm, mo_n7 hm, ↓reduceIte, gd_t, hK_p, hN_p, hF_p, hI_p, hJ_p, hR_p, stI_p, stJ_p, stR_p, stA_p, va_rf_s, va_rf_n, clr_i, clr_l, clr_r, clr_n, clr_o, w8_0, w8_1i, w8_1r, w8_2ii, w8_2ri, w8_2ir, w8_2rr, w8_3, beq_self_eq_true, Bool.and_self, Bool.and_true, Bool.true_and, decide_true, Option.toList_some, Option.toList_none, List.cons_append, List.nil_append, Option.bind_some, if_true, if_false, Nat.reduceLeDiff, Nat.reduceLT, Nat.reduceBEq, Bool.or_false, Bool.false_or, Bool.or_true, Bool.true_or, nI_leI, nI_ltI, nI_eq, nI_clamp, inb_n, up_s, up_n, bx_uu, nI_1, ix6, nI_0n, pk_us, pk_un, ge_0n, hn, c0, hq3, xX4_groupOf_97, xX4_groupOf_100]
  · intro p g
    refine ⟨g, ?_⟩
    have c0 : n ≤ n := Nat.le_refl n
    rw [xX4_groupOf_27]
    simp (disch := omega) only [xX4_groupOf_29, xX4_groupOf_30, xX4_groupOf_33, xX4_groupOf_36, xX4_groupOf_37, mo_k0 hm, mo_f0_11 hm, mo_k7 hm, mo_n7 hm, ↓reduceIte, gd_t, hK_p, hN_p, hF_p, hI_p, hJ_p, hR_p, stI_p, stJ_p, stR_p, stA_p, va_rf_s, va_rf_n, clr_i, clr_l, clr_r, clr_n, clr_o, w8_0, w8_1i, w8_1r, w8_2ii, w8_2ri, w8_2ir, w8_2rr, w8_3, beq_self_eq_true, Bool.and_self, Bool.and_true, Bool.true_and, decide_true, Option.toList_some, Option.toList_none, List.cons_append, List.nil_append, Option.bind_some, if_true, if_false, Nat.reduceLeDiff, Nat.reduceLT, Nat.reduceBEq, Bool.or_false, Bool.false_or, Bool.or_true, Bool.true_or, nI_leI, nI_ltI, nI_eq, nI_clamp, inb_n, up_s, up_n, bx_uu, nI_1, ix6, nI_0n, pk_us, pk_un, ge_0n, hn, c0]
theorem gr_c {d m n c : Nat} {w : Int32} {I : Mem} {J : MemL} {R : MemR} (hm : isMo m) (hn : I m 1 = nI n) (hn6 : n ≤ 6) (hc : c < 6) : C (d + 3) MX4_groupOf [.ref m, .int (nI c), .int w] (hp I J R) = some (some (.int (bI (itr n (ruF (I (m + 10)) n) (nrF (I (m + 7)) w) n (fun k => ruF (I (m + 10)) n k && decide (k = c))))), hp I J R) := by
  have h : ∀ (k i : Nat) (p : Nat → Bool) (g : Option Value × Option Value), i + k = n → ∃ q : Unit, E (C (d + 2)) MX4_groupOf 15 [some (.ref m), some (.int (nI c)), some (.int w), some (.int (bI (ruF (I (m + 10)) n))), some (.int (bI p)), some (.int (nI i)), g.1, g.2] [] (hp I J R) = some (some (.int (bI (itf (fun _ p => rnd n (ruF (I (m + 10)) n) (nrF (I (m + 7)) w) p) k i p))), hp I J R) := by
    refine for_j (P := fun i (p : Nat → Bool) (g : Option Value × Option Value) => E (C (d + 2)) MX4_groupOf 15 [some (.ref m), some (.int (nI c)), some (.int w), some (.int (bI (ruF (I (m + 10)) n))), some (.int (bI p)), some (.int (nI i)), g.1, g.2] [] (hp I J R)) (F := fun p (_ : Unit) => some (some (.int (bI p)), hp I J R)) (n := n) ?_ ?_
    · intro i p g hi
      obtain ⟨q, hq⟩ := grC_r (d := d) (w := w) (J := J) (R := R) (l1 := some (.int (nI c))) (x5 := nI i) hm hn hn6 n 0 p g.2 (by omega)
      rw [nI_0] at hq
      have c0 : ¬ n ≤ i := by omega
      refine ⟨(some (.int (nI n)), q), ?_⟩
      rw [xX4_groupOf_15]
      simp (disch := omega) only [xX4_groupOf_17, xX4_groupOf_18, xX4_groupOf_21, xX4_groupOf_24, xX4_groupOf_25, mo_k0 hm, mo_f0_11 hm, mo_k7 hm, mo_n7 hm, ↓reduceIte, gd_t, hK_p, hN_p, hF_p, hI_p, hJ_p, hR_p, stI_p, stJ_p, stR_p, stA_p, va_rf_s, va_rf_n, clr_i, clr_l, clr_r, clr_n, clr_o, w8_0, w8_1i, w8_1r, w8_2ii, w8_2ri, w8_2ir, w8_2rr, w8_3, beq_self_eq_true, Bool.and_self, Bool.and_true, Bool.true_and, decide_true, Option.toList_some, Option.toList_none, List.cons_append, List.nil_append, Option.bind_some, if_true, if_false, Nat.reduceLeDiff, Nat.reduceLT, Nat.reduceBEq, Bool.or_false, Bool.false_or, Bool.or_true, Bool.true_or, nI_leI, nI_ltI, nI_eq, nI_clamp, inb_n, up_s, up_n, bx_uu, nI_1, ix6, nI_0n, pk_us, pk_un, ge_0n, hn, c0, hq, xX4_groupOf_103, xX4_groupOf_106]
      rfl
    · intro p g
      refine ⟨(), ?_⟩
      have c0 : n ≤ n := Nat.le_refl n
      rw [xX4_groupOf_15]
      simp (disch := omega) only [xX4_groupOf_17, xX4_groupOf_18, xX4_groupOf_21, xX4_groupOf_24, xX4_groupOf_25, mo_k0 hm, mo_f0_11 hm, mo_k7 hm, mo_n7 hm, ↓reduceIte, gd_t, hK_p, hN_p, hF_p, hI_p, hJ_p, hR_p, stI_p, stJ_p, stR_p, stA_p, va_rf_s, va_rf_n, clr_i, clr_l, clr_r, clr_n, clr_o, w8_0, w8_1i, w8_1r, w8_2ii, w8_2ri, w8_2ir, w8_2rr, w8_3, beq_self_eq_true, Bool.and_self, Bool.and_true, Bool.true_and, decide_true, Option.toList_some, Option.toList_none, List.cons_append, List.nil_append, Option.bind_some, if_true, if_false, Nat.reduceLeDiff, Nat.reduceLT, Nat.reduceBEq, Bool.or_false, Bool.false_or, Bool.or_true, Bool.true_or, nI_leI, nI_ltI, nI_eq, nI_clamp, inb_n, up_s, up_n, bx_uu, nI_1, ix6, nI_0n, pk_us, pk_un, ge_0n, hn, c0, xX4_groupOf_109, xX4_groupOf_111]
  obtain ⟨-, h2⟩ := h n 0 (fun k => ruF (I (m + 10)) n k && decide (k = c)) (none, none) (by omega)
  rw [itr_itf, nI_0] at h2
  rw [eX4_groupOf]
  simp (disch := omega) only [xX4_groupOf_0, xX4_groupOf_1, xX4_groupOf_4, xX4_groupOf_5, xX4_groupOf_6, xX4_groupOf_7, xX4_groupOf_8, xX4_groupOf_9, xX4_groupOf_10, xX4_groupOf_12, xX4_groupOf_13, mo_k0 hm, mo_f0_11 hm, mo_k7 hm, mo_n7 hm, mo_k0 hm, ↓reduceIte, gd_t, hK_p, hN_p, hF_p, hI_p, hJ_p, hR_p, stI_p, stJ_p, stR_p, stA_p, va_rf_s, va_rf_n, clr_i, clr_l, clr_r, clr_n, clr_o, w8_0, w8_1i, w8_1r, w8_2ii, w8_2ri, w8_2ir, w8_2rr, w8_3, beq_self_eq_true, Bool.and_self, Bool.and_true, Bool.true_and, decide_true, Option.toList_some, Option.toList_none, List.cons_append, List.nil_append, Option.bind_some, if_true, if_false, Nat.reduceLeDiff, Nat.reduceLT, Nat.reduceBEq, Bool.or_false, Bool.false_or, Bool.or_true, Bool.true_or, nI_leI, nI_ltI, nI_eq, nI_clamp, inb_n, up_s, up_n, bx_uu, nI_1, ix6, nI_0n, pk_us, pk_un, ge_0n, run_c hm hn hn6, bI_an]
  exact h2
-- the model's
theorem grM_a {d n a : Nat} {w : Int32} {I : Mem} {J : MemL} {R : MemR} {l1 l4 : Option Value} (hn : I 123 13 = nI n) (hn6 : n ≤ 6) (ha : a < n) (hph : phO n (I 153)) : ∀ (k b : Nat) (p : Nat → Bool) (g : Option Value), b + k = n → ∃ q : Option Value, E (C (d + 1)) MX12_groupOf 41 [some (.ref 123), l1, some (.int w), some (.int (bI p)), l4, some (.int (nI a)), some (.int (nI b)), g] [] (hp I J R) = E (C (d + 1)) MX12_groupOf 120 [some (.ref 123), l1, some (.int w), some (.int (bI (itf (fun b p => fun k => p k || (p a && (decide (k = b) && (ruF (I 156) n b && nrF (I 153) w a b)))) k b p))), l4, some (.int (nI a)), some (.int (nI n)), q] [] (hp I J R) := by
  refine for_j (P := fun b (p : Nat → Bool) (g : Option Value) => E (C (d + 1)) MX12_groupOf 41 [some (.ref 123), l1, some (.int w), some (.int (bI p)), l4, some (.int (nI a)), some (.int (nI b)), g] [] (hp I J R)) (F := fun p (q : Option Value) => E (C (d + 1)) MX12_groupOf 120 [some (.ref 123), l1, some (.int w), some (.int (bI p)), l4, some (.int (nI a)), some (.int (nI n)), q] [] (hp I J R)) (n := n) ?_ ?_
  · intro b p g hb
    have c0 : ¬ n ≤ b := by omega
    have n1 : ¬ (1 : Int32) = 0 := by decide
    have hap := apm_eq (hph a ha) (hph b hb)
    have hof : bi (isB (bI p) (nI a)) = if p a = true then 1 else 0 := by
      unfold bi isB
      simp only [bt_is (show a < 6 by omega)]
    rw [xX12_groupOf_41]
    by_cases pa : p a = true
    · rw [if_pos pa] at hof
      by_cases y : I 156 b = 1
      · by_cases z : apaF (I 153 a) (I 153 b) ≤ w
        · have z9 : ¬ w < apaF (I 153 a) (I 153 b) := Int32.not_lt.mpr z
          refine ⟨some (.int 1), ?_⟩
          have hr : bI p ||| (1 : Int32) <<< (nI b &&& 31) = bI (fun k => p k || (p a && (decide (k = b) && (ruF (I 156) n b && nrF (I 153) w a b)))) := by
            rw [bI_or (by omega)]
            refine bI_ext (fun k _ => ?_)
            simp [pa, ruF, nrF, hb, y, z]
          simp (disch := omega) only [xX12_groupOf_43, xX12_groupOf_44, xX12_groupOf_47, xX12_groupOf_50, xX12_groupOf_51, xX12_groupOf_53, xX12_groupOf_56, xX12_groupOf_59, xX12_groupOf_60, xX12_groupOf_63, xX12_groupOf_65, xX12_groupOf_66, xX12_groupOf_67, xX12_groupOf_70, xX12_groupOf_71, xX12_groupOf_74, xX12_groupOf_76, xX12_groupOf_77, xX12_groupOf_78, xX12_groupOf_81, xX12_groupOf_83, xX12_groupOf_84, xX12_groupOf_87, xX12_groupOf_88, xX12_groupOf_91, xX12_groupOf_92, xX12_groupOf_95, xX12_groupOf_96, xX12_groupOf_98, xX12_groupOf_99, xX12_groupOf_101, xX12_groupOf_104, xX12_groupOf_105, xX12_groupOf_107, xX12_groupOf_108, xX12_groupOf_111, xX12_groupOf_112, xX12_groupOf_113, xX12_groupOf_114, xX12_groupOf_117, kd_123, fi_123_57, kd_153, ln_153, fi_123_60, kd_156, ln_156, ↓reduceIte, gd_t, hK_p, hN_p, hF_p, hI_p, hJ_p, hR_p, stI_p, stJ_p, stR_p, stA_p, va_rf_s, va_rf_n, clr_i, clr_l, clr_r, clr_n, clr_o, w8_0, w8_1i, w8_1r, w8_2ii, w8_2ri, w8_2ir, w8_2rr, w8_3, beq_self_eq_true, Bool.and_self, Bool.and_true, Bool.true_and, decide_true, Option.toList_some, Option.toList_none, List.cons_append, List.nil_append, Option.bind_some, if_true, if_false, Nat.reduceLeDiff, Nat.reduceLT, Nat.reduceBEq, Bool.or_false, Bool.false_or, Bool.or_true, Bool.true_or, nI_leI, nI_ltI, nI_eq, nI_clamp, inb_n, up_s, up_n, bx_uu, nI_1, ix6, nI_0n, pk_us, pk_un, ge_0n, hn, c0, isO_spec, hof, n1, y, apm_spec, hap, z9, hr, not_true_eq_false]
        · have z9 : w < apaF (I 153 a) (I 153 b) := Int32.not_le.mp z
          refine ⟨some (.int 0), ?_⟩
          have hr : bI p ||| 0 = bI (fun k => p k || (p a && (decide (k = b) && (ruF (I 156) n b && nrF (I 153) w a b)))) := by
            rw [Int32.or_zero]
            refine bI_ext (fun k _ => ?_)
            simp [nrF, z]
          simp (disch := omega) only [xX12_groupOf_43, xX12_groupOf_44, xX12_groupOf_47, xX12_groupOf_50, xX12_groupOf_51, xX12_groupOf_53, xX12_groupOf_56, xX12_groupOf_59, xX12_groupOf_60, xX12_groupOf_63, xX12_groupOf_65, xX12_groupOf_66, xX12_groupOf_67, xX12_groupOf_70, xX12_groupOf_71, xX12_groupOf_74, xX12_groupOf_76, xX12_groupOf_77, xX12_groupOf_78, xX12_groupOf_81, xX12_groupOf_83, xX12_groupOf_84, xX12_groupOf_87, xX12_groupOf_88, xX12_groupOf_91, xX12_groupOf_92, xX12_groupOf_95, xX12_groupOf_96, xX12_groupOf_98, xX12_groupOf_99, xX12_groupOf_101, xX12_groupOf_104, xX12_groupOf_105, xX12_groupOf_107, xX12_groupOf_108, xX12_groupOf_111, xX12_groupOf_112, xX12_groupOf_113, xX12_groupOf_114, xX12_groupOf_117, kd_123, fi_123_57, kd_153, ln_153, fi_123_60, kd_156, ln_156, ↓reduceIte, gd_t, hK_p, hN_p, hF_p, hI_p, hJ_p, hR_p, stI_p, stJ_p, stR_p, stA_p, va_rf_s, va_rf_n, clr_i, clr_l, clr_r, clr_n, clr_o, w8_0, w8_1i, w8_1r, w8_2ii, w8_2ri, w8_2ir, w8_2rr, w8_3, beq_self_eq_true, Bool.and_self, Bool.and_true, Bool.true_and, decide_true, Option.toList_some, Option.toList_none, List.cons_append, List.nil_append, Option.bind_some, if_true, if_false, Nat.reduceLeDiff, Nat.reduceLT, Nat.reduceBEq, Bool.or_false, Bool.false_or, Bool.or_true, Bool.true_or, nI_leI, nI_ltI, nI_eq, nI_clamp, inb_n, up_s, up_n, bx_uu, nI_1, ix6, nI_0n, pk_us, pk_un, ge_0n, hn, c0, isO_spec, hof, n1, y, apm_spec, hap, z9, hr, not_true_eq_false]
      · refine ⟨some (.int 0), ?_⟩
        have hr : bI p ||| 0 = bI (fun k => p k || (p a && (decide (k = b) && (ruF (I 156) n b && nrF (I 153) w a b)))) := by
          rw [Int32.or_zero]
          refine bI_ext (fun k _ => ?_)
          simp [ruF, y]
        simp (disch := omega) only [xX12_groupOf_43, xX12_groupOf_44, xX12_groupOf_47, xX12_groupOf_50, xX12_groupOf_51, xX12_groupOf_53, xX12_groupOf_56, xX12_groupOf_59, xX12_groupOf_60, xX12_groupOf_63, xX12_groupOf_65, xX12_groupOf_66, xX12_groupOf_67, xX12_groupOf_70, xX12_groupOf_71, xX12_groupOf_74, xX12_groupOf_76, xX12_groupOf_77, xX12_groupOf_78, xX12_groupOf_81, xX12_groupOf_83, xX12_groupOf_84, xX12_groupOf_87, xX12_groupOf_88, xX12_groupOf_91, xX12_groupOf_92, xX12_groupOf_95, xX12_groupOf_96, xX12_groupOf_98, xX12_groupOf_99, xX12_groupOf_101, xX12_groupOf_104, xX12_groupOf_105, xX12_groupOf_107, xX12_groupOf_108, xX12_groupOf_111, xX12_groupOf_112, xX12_groupOf_113, xX12_groupOf_114, xX12_groupOf_117, kd_123, fi_123_57, kd_153, ln_153, fi_123_60, kd_156, ln_156, ↓reduceIte, gd_t, hK_p, hN_p, hF_p, hI_p, hJ_p, hR_p, stI_p, stJ_p, stR_p, stA_p, va_rf_s, va_rf_n, clr_i, clr_l, clr_r, clr_n, clr_o, w8_0, w8_1i, w8_1r, w8_2ii, w8_2ri, w8_2ir, w8_2rr, w8_3, beq_self_eq_true, Bool.and_self, Bool.and_true, Bool.true_and, decide_true, Option.toList_some, Option.toList_none, List.cons_append, List.nil_append, Option.bind_some, if_true, if_false, Nat.reduceLeDiff, Nat.reduceLT, Nat.reduceBEq, Bool.or_false, Bool.false_or, Bool.or_true, Bool.true_or, nI_leI, nI_ltI, nI_eq, nI_clamp, inb_n, up_s, up_n, bx_uu, nI_1, ix6, nI_0n, pk_us, pk_un, ge_0n, hn, c0, isO_spec, hof, n1, y, hr, not_false_eq_true]
    · rw [if_neg pa] at hof
      refine ⟨some (.int 0), ?_⟩
      have hr : bI p ||| 0 = bI (fun k => p k || (p a && (decide (k = b) && (ruF (I 156) n b && nrF (I 153) w a b)))) := by
        rw [Int32.or_zero]
        refine bI_ext (fun k _ => ?_)
        simp [pa]
      simp (disch := omega) only [xX12_groupOf_43, xX12_groupOf_44, xX12_groupOf_47, xX12_groupOf_50, xX12_groupOf_51, xX12_groupOf_53, xX12_groupOf_56, xX12_groupOf_59, xX12_groupOf_60, xX12_groupOf_63, xX12_groupOf_65, xX12_groupOf_66, xX12_groupOf_67, xX12_groupOf_70, xX12_groupOf_71, xX12_groupOf_74, xX12_groupOf_76, xX12_groupOf_77, xX12_groupOf_78, xX12_groupOf_81, xX12_groupOf_83, xX12_groupOf_84, xX12_groupOf_87, xX12_groupOf_88, xX12_groupOf_91, xX12_groupOf_92, xX12_groupOf_95, xX12_groupOf_96, xX12_groupOf_98, xX12_groupOf_99, xX12_groupOf_101, xX12_groupOf_104, xX12_groupOf_105, xX12_groupOf_107, xX12_groupOf_108, xX12_groupOf_111, xX12_groupOf_112, xX12_groupOf_113, xX12_groupOf_114, xX12_groupOf_117, kd_123, fi_123_57, kd_153, ln_153, fi_123_60, kd_156, ln_156, ↓reduceIte, gd_t, hK_p, hN_p, hF_p, hI_p, hJ_p, hR_p, stI_p, stJ_p, stR_p, stA_p, va_rf_s, va_rf_n, clr_i, clr_l, clr_r, clr_n, clr_o, w8_0, w8_1i, w8_1r, w8_2ii, w8_2ri, w8_2ir, w8_2rr, w8_3, beq_self_eq_true, Bool.and_self, Bool.and_true, Bool.true_and, decide_true, Option.toList_some, Option.toList_none, List.cons_append, List.nil_append, Option.bind_some, if_true, if_false, Nat.reduceLeDiff, Nat.reduceLT, Nat.reduceBEq, Bool.or_false, Bool.false_or, Bool.or_true, Bool.true_or, nI_leI, nI_ltI, nI_eq, nI_clamp, inb_n, up_s, up_n, bx_uu, nI_1, ix6, nI_0n, pk_us, pk_un, ge_0n, hn, c0, isO_spec, hof, hr]
  · intro p g
    refine ⟨g, ?_⟩
    have c0 : n ≤ n := Nat.le_refl n
    rw [xX12_groupOf_41]
    simp (disch := omega) only [xX12_groupOf_43, xX12_groupOf_44, xX12_groupOf_47, xX12_groupOf_50, xX12_groupOf_51, xX12_groupOf_53, xX12_groupOf_56, xX12_groupOf_59, xX12_groupOf_60, xX12_groupOf_63, xX12_groupOf_65, xX12_groupOf_66, xX12_groupOf_67, xX12_groupOf_70, xX12_groupOf_71, xX12_groupOf_74, xX12_groupOf_76, xX12_groupOf_77, xX12_groupOf_78, xX12_groupOf_81, xX12_groupOf_83, xX12_groupOf_84, xX12_groupOf_87, xX12_groupOf_88, xX12_groupOf_91, xX12_groupOf_92, xX12_groupOf_95, xX12_groupOf_96, xX12_groupOf_98, xX12_groupOf_99, xX12_groupOf_101, xX12_groupOf_104, xX12_groupOf_105, xX12_groupOf_107, xX12_groupOf_108, xX12_groupOf_111, xX12_groupOf_112, xX12_groupOf_113, xX12_groupOf_114, xX12_groupOf_117, kd_123, fi_123_57, kd_153, ln_153, fi_123_60, kd_156, ln_156, ↓reduceIte, gd_t, hK_p, hN_p, hF_p, hI_p, hJ_p, hR_p, stI_p, stJ_p, stR_p, stA_p, va_rf_s, va_rf_n, clr_i, clr_l, clr_r, clr_n, clr_o, w8_0, w8_1i, w8_1r, w8_2ii, w8_2ri, w8_2ir, w8_2rr, w8_3, beq_self_eq_true, Bool.and_self, Bool.and_true, Bool.true_and, decide_true, Option.toList_some, Option.toList_none, List.cons_append, List.nil_append, Option.bind_some, if_true, if_false, Nat.reduceLeDiff, Nat.reduceLT, Nat.reduceBEq, Bool.or_false, Bool.false_or, Bool.or_true, Bool.true_or, nI_leI, nI_ltI, nI_eq, nI_clamp, inb_n, up_s, up_n, bx_uu, nI_1, ix6, nI_0n, pk_us, pk_un, ge_0n, hn, c0]
theorem grM_one {n a : Nat} {run : Nat → Bool} {nr : Nat → Nat → Bool} {p : Nat → Bool} : itf (fun b p => fun k => p k || (p a && (decide (k = b) && (run b && nr a b)))) n 0 p = oneF n run nr a p := by
  have hq := itf_inv (f := fun b (p : Nat → Bool) => fun k => p k || (p a && (decide (k = b) && (run b && nr a b)))) (Q := fun b q => ∀ k, q k = (p k || (p a && (decide (k < b) && (run k && nr a k))))) (n := n) (by
    intro b q hb hv k
    dsimp only
    have hqa : q a = p a := by
      rw [hv a]
      cases p a <;> simp
    rw [hqa, hv k]
    by_cases e : k = b
    · subst e
      cases p a <;> simp
    · by_cases e2 : k < b
      · simp [e, e2, show k < b + 1 by omega]
      · simp [e, e2, show ¬ k < b + 1 by omega]) n 0 p (by omega) (fun k => by simp)
  funext k
  rw [hq k]
  rfl
theorem grM_r {d n : Nat} {w : Int32} {I : Mem} {J : MemL} {R : MemR} {l1 : Option Value} {x4 : Int32} (hn : I 123 13 = nI n) (hn6 : n ≤ 6) (hph : phO n (I 153)) : ∀ (k a : Nat) (p : Nat → Bool) (g : Option Value × Option Value), a + k = n → ∃ q : Option Value × Option Value, E (C (d + 1)) MX12_groupOf 29 [some (.ref 123), l1, some (.int w), some (.int (bI p)), some (.int x4), some (.int (nI a)), g.1, g.2] [] (hp I J R) = E (C (d + 1)) MX12_groupOf 126 [some (.ref 123), l1, some (.int w), some (.int (bI (itf (oneF n (ruF (I 156) n) (nrF (I 153) w)) k a p))), some (.int x4), some (.int (nI n)), q.1, q.2] [] (hp I J R) := by
  refine for_j (P := fun a (p : Nat → Bool) (g : Option Value × Option Value) => E (C (d + 1)) MX12_groupOf 29 [some (.ref 123), l1, some (.int w), some (.int (bI p)), some (.int x4), some (.int (nI a)), g.1, g.2] [] (hp I J R)) (F := fun p (q : Option Value × Option Value) => E (C (d + 1)) MX12_groupOf 126 [some (.ref 123), l1, some (.int w), some (.int (bI p)), some (.int x4), some (.int (nI n)), q.1, q.2] [] (hp I J R)) (n := n) ?_ ?_
  · intro a p g ha
    obtain ⟨q, hq⟩ := grM_a (d := d) (w := w) (I := I) (J := J) (R := R) (l1 := l1) (l4 := some (.int x4)) hn hn6 ha hph n 0 p g.2 (by omega)
    have c0 : ¬ n ≤ a := by omega
    rw [nI_0, grM_one] at hq
    refine ⟨(some (.int (nI n)), q), ?_⟩
    rw [xX12_groupOf_29]
    simp (disch := omega) only [xX12_groupOf_31, xX12_groupOf_32, xX12_groupOf_35, xX12_groupOf_38, xX12_groupOf_39, kd_123, fi_123_57, kd_153, ln_153, fi_123_60, kd_156, ln_156, ↓reduceIte, gd_t, hK_p, hN_p, hF_p, hI_p, hJ_p, hR_p, stI_p, stJ_p, stR_p, stA_p, va_rf_s, va_rf_n, clr_i, clr_l, clr_r, clr_n, clr_o, w8_0, w8_1i, w8_1r, w8_2ii, w8_2ri, w8_2ir, w8_2rr, w8_3, beq_self_eq_true, Bool.and_self, Bool.and_true, Bool.true_and, decide_true, Option.toList_some, Option.toList_none, List.cons_append, List.nil_append, Option.bind_some, if_true, if_false, Nat.reduceLeDiff, Nat.reduceLT, Nat.reduceBEq, Bool.or_false, Bool.false_or, Bool.or_true, Bool.true_or, nI_leI, nI_ltI, nI_eq, nI_clamp, inb_n, up_s, up_n, bx_uu, nI_1, ix6, nI_0n, pk_us, pk_un, ge_0n, hn, c0, hq, xX12_groupOf_120, xX12_groupOf_123]
  · intro p g
    refine ⟨g, ?_⟩
    have c0 : n ≤ n := Nat.le_refl n
    rw [xX12_groupOf_29]
    simp (disch := omega) only [xX12_groupOf_31, xX12_groupOf_32, xX12_groupOf_35, xX12_groupOf_38, xX12_groupOf_39, kd_123, fi_123_57, kd_153, ln_153, fi_123_60, kd_156, ln_156, ↓reduceIte, gd_t, hK_p, hN_p, hF_p, hI_p, hJ_p, hR_p, stI_p, stJ_p, stR_p, stA_p, va_rf_s, va_rf_n, clr_i, clr_l, clr_r, clr_n, clr_o, w8_0, w8_1i, w8_1r, w8_2ii, w8_2ri, w8_2ir, w8_2rr, w8_3, beq_self_eq_true, Bool.and_self, Bool.and_true, Bool.true_and, decide_true, Option.toList_some, Option.toList_none, List.cons_append, List.nil_append, Option.bind_some, if_true, if_false, Nat.reduceLeDiff, Nat.reduceLT, Nat.reduceBEq, Bool.or_false, Bool.false_or, Bool.or_true, Bool.true_or, nI_leI, nI_ltI, nI_eq, nI_clamp, inb_n, up_s, up_n, bx_uu, nI_1, ix6, nI_0n, pk_us, pk_un, ge_0n, hn, c0]
theorem gr_m {d n c : Nat} {w : Int32} {I : Mem} {J : MemL} {R : MemR} (hn : I 123 13 = nI n) (hn6 : n ≤ 6) (hc : c < n) (hph : phO n (I 153)) : C (d + 2) MX12_groupOf [.ref 123, .int (nI c), .int w] (hp I J R) = some (some (.int (if I 156 c = 1 then bI (grp n (ruF (I 156) n) (nrF (I 153) w) c) else 0)), hp I J R) := by
  by_cases z : I 156 c = 1
  · have h : ∀ (k i : Nat) (p : Nat → Bool) (g : Option Value × Option Value × Option Value), i + k = 6 → ∃ q : Unit, E (C (d + 1)) MX12_groupOf 19 [some (.ref 123), some (.int (nI c)), some (.int w), some (.int (bI p)), some (.int (nI i)), g.1, g.2.1, g.2.2] [] (hp I J R) = some (some (.int (bI (itf (fun _ p => rnd n (ruF (I 156) n) (nrF (I 153) w) p) k i p))), hp I J R) := by
      refine for_j (P := fun i (p : Nat → Bool) (g : Option Value × Option Value × Option Value) => E (C (d + 1)) MX12_groupOf 19 [some (.ref 123), some (.int (nI c)), some (.int w), some (.int (bI p)), some (.int (nI i)), g.1, g.2.1, g.2.2] [] (hp I J R)) (F := fun p (_ : Unit) => some (some (.int (bI p)), hp I J R)) (n := 6) ?_ ?_
      · intro i p g hi
        obtain ⟨q, hq⟩ := grM_r (d := d) (w := w) (I := I) (J := J) (R := R) (l1 := some (.int (nI c))) (x4 := nI i) hn hn6 hph n 0 p (g.2.1, g.2.2) (by omega)
        rw [nI_0] at hq
        have c0 : ¬ (6 : Int32) ≤ nI i := nI_ge (b := 6) hi (by omega)
        refine ⟨(some (.int (nI n)), q.1, q.2), ?_⟩
        rw [xX12_groupOf_19]
        simp (disch := omega) only [xX12_groupOf_21, xX12_groupOf_23, xX12_groupOf_26, xX12_groupOf_27, kd_123, fi_123_57, kd_153, ln_153, fi_123_60, kd_156, ln_156, ↓reduceIte, gd_t, hK_p, hN_p, hF_p, hI_p, hJ_p, hR_p, stI_p, stJ_p, stR_p, stA_p, va_rf_s, va_rf_n, clr_i, clr_l, clr_r, clr_n, clr_o, w8_0, w8_1i, w8_1r, w8_2ii, w8_2ri, w8_2ir, w8_2rr, w8_3, beq_self_eq_true, Bool.and_self, Bool.and_true, Bool.true_and, decide_true, Option.toList_some, Option.toList_none, List.cons_append, List.nil_append, Option.bind_some, if_true, if_false, Nat.reduceLeDiff, Nat.reduceLT, Nat.reduceBEq, Bool.or_false, Bool.false_or, Bool.or_true, Bool.true_or, nI_leI, nI_ltI, nI_eq, nI_clamp, inb_n, up_s, up_n, bx_uu, nI_1, ix6, nI_0n, pk_us, pk_un, ge_0n, hn, c0]
        rw [hq]
        simp (disch := omega) only [↓reduceIte, gd_t, hK_p, hN_p, hF_p, hI_p, hJ_p, hR_p, stI_p, stJ_p, stR_p, stA_p, va_rf_s, va_rf_n, clr_i, clr_l, clr_r, clr_n, clr_o, w8_0, w8_1i, w8_1r, w8_2ii, w8_2ri, w8_2ir, w8_2rr, w8_3, beq_self_eq_true, Bool.and_self, Bool.and_true, Bool.true_and, decide_true, Option.toList_some, Option.toList_none, List.cons_append, List.nil_append, Option.bind_some, if_true, if_false, Nat.reduceLeDiff, Nat.reduceLT, Nat.reduceBEq, Bool.or_false, Bool.false_or, Bool.or_true, Bool.true_or, nI_leI, nI_ltI, nI_eq, nI_clamp, inb_n, up_s, up_n, bx_uu, nI_1, ix6, nI_0n, pk_us, pk_un, ge_0n, xX12_groupOf_126, xX12_groupOf_129]
        rfl
      · intro p g
        refine ⟨(), ?_⟩
        have c0 : (6 : Int32) ≤ nI 6 := by decide
        rw [xX12_groupOf_19]
        simp (disch := omega) only [xX12_groupOf_21, xX12_groupOf_23, xX12_groupOf_26, xX12_groupOf_27, kd_123, fi_123_57, kd_153, ln_153, fi_123_60, kd_156, ln_156, ↓reduceIte, gd_t, hK_p, hN_p, hF_p, hI_p, hJ_p, hR_p, stI_p, stJ_p, stR_p, stA_p, va_rf_s, va_rf_n, clr_i, clr_l, clr_r, clr_n, clr_o, w8_0, w8_1i, w8_1r, w8_2ii, w8_2ri, w8_2ir, w8_2rr, w8_3, beq_self_eq_true, Bool.and_self, Bool.and_true, Bool.true_and, decide_true, Option.toList_some, Option.toList_none, List.cons_append, List.nil_append, Option.bind_some, if_true, if_false, Nat.reduceLeDiff, Nat.reduceLT, Nat.reduceBEq, Bool.or_false, Bool.false_or, Bool.or_true, Bool.true_or, nI_leI, nI_ltI, nI_eq, nI_clamp, inb_n, up_s, up_n, bx_uu, nI_1, ix6, nI_0n, pk_us, pk_un, ge_0n, hn, c0, xX12_groupOf_132, xX12_groupOf_133]
    obtain ⟨-, h2⟩ := h 6 0 (fun k => decide (k = c)) (none, none, none) (by omega)
    have hg : itr n (ruF (I 156) n) (nrF (I 153) w) 6 (fun k => decide (k = c)) = grp n (ruF (I 156) n) (nrF (I 153) w) c := itr_6 hn6 hc (by simp)
    rw [itr_itf, nI_0, hg] at h2
    have h1 : (1 : Int32) <<< (nI c &&& 31) = bI (fun k => decide (k = c)) := by
      have := bI_or (p := fun _ => false) (i := c) (by omega)
      rw [bI_0, Int32.zero_or] at this
      rw [this]
      exact bI_ext (fun k _ => by simp)
    rw [eX12_groupOf, if_pos z]
    simp (disch := omega) only [xX12_groupOf_0, xX12_groupOf_1, xX12_groupOf_4, xX12_groupOf_5, xX12_groupOf_6, xX12_groupOf_7, xX12_groupOf_10, xX12_groupOf_11, xX12_groupOf_12, xX12_groupOf_13, xX12_groupOf_14, xX12_groupOf_15, xX12_groupOf_16, xX12_groupOf_17, kd_123, fi_123_57, kd_153, ln_153, fi_123_60, kd_156, ln_156, ↓reduceIte, gd_t, hK_p, hN_p, hF_p, hI_p, hJ_p, hR_p, stI_p, stJ_p, stR_p, stA_p, va_rf_s, va_rf_n, clr_i, clr_l, clr_r, clr_n, clr_o, w8_0, w8_1i, w8_1r, w8_2ii, w8_2ri, w8_2ir, w8_2rr, w8_3, beq_self_eq_true, Bool.and_self, Bool.and_true, Bool.true_and, decide_true, Option.toList_some, Option.toList_none, List.cons_append, List.nil_append, Option.bind_some, if_true, if_false, Nat.reduceLeDiff, Nat.reduceLT, Nat.reduceBEq, Bool.or_false, Bool.false_or, Bool.or_true, Bool.true_or, nI_leI, nI_ltI, nI_eq, nI_clamp, inb_n, up_s, up_n, bx_uu, nI_1, ix6, nI_0n, pk_us, pk_un, ge_0n, z, h1]
    exact h2
  · rw [eX12_groupOf, if_neg z]
    simp (disch := omega) only [xX12_groupOf_0, xX12_groupOf_1, xX12_groupOf_4, xX12_groupOf_5, xX12_groupOf_6, xX12_groupOf_7, xX12_groupOf_10, xX12_groupOf_11, xX12_groupOf_12, xX12_groupOf_13, xX12_groupOf_14, xX12_groupOf_15, xX12_groupOf_16, xX12_groupOf_17, kd_123, fi_123_57, kd_153, ln_153, fi_123_60, kd_156, ln_156, ↓reduceIte, gd_t, hK_p, hN_p, hF_p, hI_p, hJ_p, hR_p, stI_p, stJ_p, stR_p, stA_p, va_rf_s, va_rf_n, clr_i, clr_l, clr_r, clr_n, clr_o, w8_0, w8_1i, w8_1r, w8_2ii, w8_2ri, w8_2ir, w8_2rr, w8_3, beq_self_eq_true, Bool.and_self, Bool.and_true, Bool.true_and, decide_true, Option.toList_some, Option.toList_none, List.cons_append, List.nil_append, Option.bind_some, if_true, if_false, Nat.reduceLeDiff, Nat.reduceLT, Nat.reduceBEq, Bool.or_false, Bool.false_or, Bool.or_true, Bool.true_or, nI_leI, nI_ltI, nI_eq, nI_clamp, inb_n, up_s, up_n, bx_uu, nI_1, ix6, nI_0n, pk_us, pk_un, ge_0n, z]
theorem itr_run {n c : Nat} {run : Nat → Bool} {nr : Nat → Nat → Bool} (hc : c < n) : itr n run nr n (fun k => run k && decide (k = c)) = if run c = true then grp n run nr c else fun _ => false := by
  by_cases z : run c = true
  · rw [if_pos z]
    unfold grp
    congr 1
    funext k
    by_cases e : k = c
    · subst e
      simp [z]
    · simp [e]
  · rw [if_neg z]
    have he : (fun k => run k && decide (k = c)) = fun _ => false := by
      funext k
      by_cases e : k = c
      · subst e
        simp [z]
      · simp [e]
    rw [he]
    have hcl : clo n run nr (fun _ => false) := fun a k _ _ h _ _ => absurd h (by simp)
    have : ∀ j, itr n run nr j (fun _ => false) = fun _ => false := by
      intro j
      induction j with
      | zero => rfl
      | succ j ih =>
        show rnd n run nr (itr n run nr j _) = _
        rw [ih, rnd_clo hcl]
    exact this n
section EQ
variable {I : Mem} {R : MemR} {t t' n nb nm fL lL fG lG st : Nat}
theorem cAll.ph (h : cAll I R t t' n nb nm fL lL fG lG st) : phO n (I 153) := fun c hc => by
  have := h.now.2.2.2.2.2.2.2.2.2.2.1 c hc
  rw [← this.1]
  exact this.2.1
theorem ru_eq (h : cAll I R t t' n nb nm fL lL fG lG st) : ruF (I 70) n = ruF (I 156) n := by
  funext k
  unfold ruF
  by_cases hk : k < n
  · rw [(h.now.2.2.2.2.2.2.2.2.2.2.1 k hk).2.2.2.2]
  · simp [hk]
theorem nr_eq (h : cAll I R t t' n nb nm fL lL fG lG st) {w : Int32} {a b : Nat} (ha : a < n) (hb : b < n) : nrF (I 67) w a b = nrF (I 153) w a b := by
  unfold nrF
  rw [(h.now.2.2.2.2.2.2.2.2.2.2.1 a ha).1, (h.now.2.2.2.2.2.2.2.2.2.2.1 b hb).1]
end EQ
theorem one_cong {n : Nat} {run : Nat → Bool} {nr nr' : Nat → Nat → Bool} (h : ∀ a b, a < n → b < n → nr a b = nr' a b) {a : Nat} (ha : a < n) {p : Nat → Bool} : oneF n run nr a p = oneF n run nr' a p := by
  funext k
  unfold oneF
  by_cases hk : k < n
  · rw [h a k ha hk]
  · simp [hk]
theorem rnd_cong {n : Nat} {run : Nat → Bool} {nr nr' : Nat → Nat → Bool} (h : ∀ a b, a < n → b < n → nr a b = nr' a b) {p : Nat → Bool} : rnd n run nr p = rnd n run nr' p := itf_cong2 (fun i s hi => one_cong h hi)
theorem itr_cong {n : Nat} {run : Nat → Bool} {nr nr' : Nat → Nat → Bool} (h : ∀ a b, a < n → b < n → nr a b = nr' a b) {p : Nat → Bool} : ∀ j, itr n run nr j p = itr n run nr' j p
  | 0 => rfl
  | j + 1 => by
    show rnd n run nr _ = rnd n run nr' _
    rw [itr_cong h j, rnd_cong h]
theorem group_p {I : Mem} {J : MemL} {R : MemR} {t t' n nb nm fL lL fG lG st : Nat} (h : cAll I R t t' n nb nm fL lL fG lG st) {x w : Int32} : askP MX11_group MX12_group [.int x, .int w] I J R := by
  have hn6 := h.n6
  have n1 : ¬ (1 : Int32) = 0 := by decide
  rcases ic_or (x := x) h.n6 with ⟨c, hc, rfl, e⟩ | e
  · rcases apR_or (x := w) with ⟨w', hw', rfl, ew⟩ | ew
    · refine askP.mk0 (v := bI (itr n (ruF (I 70) n) (nrF (I 67) (nI w')) n (fun k => ruF (I 70) n k && decide (k = c)))) (w := if I 156 c = 1 then bI (grp n (ruF (I 156) n) (nrF (I 153) (nI w')) c) else 0) ?_ ?_ ?_
      · have hg := gr_c (d := 7) (c := c) (w := nI w') (J := J) (R := R) (m := 60) (Or.inl rfl) h.now.2.1 hn6 (by omega)
        rw [eX11_group]
        simp (disch := omega) only [xX11_group_0, xX11_group_1, xX11_group_2, xX11_group_5, xX11_group_8, xX11_group_9, xX11_group_12, xX11_group_15, xX11_group_16, xX11_group_19, xX11_group_20, xX11_group_21, xX11_group_24, xX11_group_27, xX11_group_28, kd_0, fi_0_5, kd_60, kd_0, kd_60, ↓reduceIte, gd_t, hK_p, hN_p, hF_p, hI_p, hJ_p, hR_p, stI_p, stJ_p, stR_p, stA_p, va_rf_s, va_rf_n, clr_i, clr_l, clr_r, clr_n, clr_o, w8_0, w8_1i, w8_1r, w8_2ii, w8_2ri, w8_2ir, w8_2rr, w8_3, beq_self_eq_true, Bool.and_self, Bool.and_true, Bool.true_and, decide_true, Option.toList_some, Option.toList_none, List.cons_append, List.nil_append, Option.bind_some, if_true, if_false, Nat.reduceLeDiff, Nat.reduceLT, Nat.reduceBEq, Bool.or_false, Bool.false_or, Bool.or_true, Bool.true_or, nI_leI, nI_ltI, nI_eq, nI_clamp, inb_n, up_s, up_n, bx_uu, nI_1, ix6, nI_0n, pk_us, pk_un, ge_0n, icl_c h.te h.r3, isA_c, h.nc, e, ew, n1, hg]
      · have hg := gr_m (d := 8) (n := n) (c := c) (w := nI w') (I := va_up I 123 (upd (I 123) 2 0)) (J := J) (R := R) (by rw [up_s, pk_un (by decide)]; exact h.nd) hn6 hc (by rw [up_n (by decide)]; exact h.ph)
        rw [up_n (by decide), up_n (by decide)] at hg
        rw [eX12_group]
        simp (disch := omega) only [xX12_group_0, xX12_group_1, xX12_group_2, xX12_group_5, xX12_group_6, xX12_group_7, xX12_group_10, xX12_group_13, xX12_group_14, xX12_group_17, xX12_group_20, xX12_group_21, xX12_group_22, xX12_group_23, xX12_group_26, xX12_group_29, xX12_group_30, kd_123, kd_123, ↓reduceIte, gd_t, hK_p, hN_p, hF_p, hI_p, hJ_p, hR_p, stI_p, stJ_p, stR_p, stA_p, va_rf_s, va_rf_n, clr_i, clr_l, clr_r, clr_n, clr_o, w8_0, w8_1i, w8_1r, w8_2ii, w8_2ri, w8_2ir, w8_2rr, w8_3, beq_self_eq_true, Bool.and_self, Bool.and_true, Bool.true_and, decide_true, Option.toList_some, Option.toList_none, List.cons_append, List.nil_append, Option.bind_some, if_true, if_false, Nat.reduceLeDiff, Nat.reduceLT, Nat.reduceBEq, Bool.or_false, Bool.false_or, Bool.or_true, Bool.true_or, nI_leI, nI_ltI, nI_eq, nI_clamp, inb_n, up_s, up_n, bx_uu, nI_1, ix6, nI_0n, pk_us, pk_un, ge_0n, icl_m, isN_m, h.nd, e, ew, n1, hg]
      · rw [itr_cong (fun a b ha hb => nr_eq h ha hb), ru_eq h, itr_run hc]
        by_cases z : I 156 c = 1
        · rw [if_pos z, if_pos (by simp [ruF, hc, z])]
        · rw [if_neg z, if_neg (by simp [ruF, z]), bI_0]
    · refine askP.mk0 (v := -1) (w := -1) ?_ ?_ rfl
      · rw [eX11_group]
        simp (disch := omega) only [xX11_group_0, xX11_group_1, xX11_group_2, xX11_group_5, xX11_group_8, xX11_group_9, xX11_group_12, xX11_group_15, xX11_group_16, xX11_group_19, xX11_group_20, xX11_group_21, xX11_group_24, xX11_group_27, xX11_group_28, kd_0, fi_0_5, kd_60, kd_0, ↓reduceIte, gd_t, hK_p, hN_p, hF_p, hI_p, hJ_p, hR_p, stI_p, stJ_p, stR_p, stA_p, va_rf_s, va_rf_n, clr_i, clr_l, clr_r, clr_n, clr_o, w8_0, w8_1i, w8_1r, w8_2ii, w8_2ri, w8_2ir, w8_2rr, w8_3, beq_self_eq_true, Bool.and_self, Bool.and_true, Bool.true_and, decide_true, Option.toList_some, Option.toList_none, List.cons_append, List.nil_append, Option.bind_some, if_true, if_false, Nat.reduceLeDiff, Nat.reduceLT, Nat.reduceBEq, Bool.or_false, Bool.false_or, Bool.or_true, Bool.true_or, nI_leI, nI_ltI, nI_eq, nI_clamp, inb_n, up_s, up_n, bx_uu, nI_1, ix6, nI_0n, pk_us, pk_un, ge_0n, icl_c h.te h.r3, isA_c, h.nc, e, ew, n1]
      · rw [eX12_group]
        simp (disch := omega) only [xX12_group_0, xX12_group_1, xX12_group_2, xX12_group_5, xX12_group_6, xX12_group_7, xX12_group_10, xX12_group_13, xX12_group_14, xX12_group_17, xX12_group_20, xX12_group_21, xX12_group_22, xX12_group_23, xX12_group_26, xX12_group_29, xX12_group_30, kd_123, kd_123, ↓reduceIte, gd_t, hK_p, hN_p, hF_p, hI_p, hJ_p, hR_p, stI_p, stJ_p, stR_p, stA_p, va_rf_s, va_rf_n, clr_i, clr_l, clr_r, clr_n, clr_o, w8_0, w8_1i, w8_1r, w8_2ii, w8_2ri, w8_2ir, w8_2rr, w8_3, beq_self_eq_true, Bool.and_self, Bool.and_true, Bool.true_and, decide_true, Option.toList_some, Option.toList_none, List.cons_append, List.nil_append, Option.bind_some, if_true, if_false, Nat.reduceLeDiff, Nat.reduceLT, Nat.reduceBEq, Bool.or_false, Bool.false_or, Bool.or_true, Bool.true_or, nI_leI, nI_ltI, nI_eq, nI_clamp, inb_n, up_s, up_n, bx_uu, nI_1, ix6, nI_0n, pk_us, pk_un, ge_0n, icl_m, isN_m, h.nd, e, ew, n1]
  · refine askP.mk0 (v := -1) (w := -1) ?_ ?_ rfl
    · rw [eX11_group]
      simp (disch := omega) only [xX11_group_0, xX11_group_1, xX11_group_2, xX11_group_5, xX11_group_8, xX11_group_9, xX11_group_12, xX11_group_15, xX11_group_16, xX11_group_19, xX11_group_20, xX11_group_21, xX11_group_24, xX11_group_27, xX11_group_28, kd_0, fi_0_5, kd_60, kd_0, ↓reduceIte, gd_t, hK_p, hN_p, hF_p, hI_p, hJ_p, hR_p, stI_p, stJ_p, stR_p, stA_p, va_rf_s, va_rf_n, clr_i, clr_l, clr_r, clr_n, clr_o, w8_0, w8_1i, w8_1r, w8_2ii, w8_2ri, w8_2ir, w8_2rr, w8_3, beq_self_eq_true, Bool.and_self, Bool.and_true, Bool.true_and, decide_true, Option.toList_some, Option.toList_none, List.cons_append, List.nil_append, Option.bind_some, if_true, if_false, Nat.reduceLeDiff, Nat.reduceLT, Nat.reduceBEq, Bool.or_false, Bool.false_or, Bool.or_true, Bool.true_or, nI_leI, nI_ltI, nI_eq, nI_clamp, inb_n, up_s, up_n, bx_uu, nI_1, ix6, nI_0n, pk_us, pk_un, ge_0n, icl_c h.te h.r3, h.nc, e]
    · rw [eX12_group]
      simp (disch := omega) only [xX12_group_0, xX12_group_1, xX12_group_2, xX12_group_5, xX12_group_6, xX12_group_7, xX12_group_10, xX12_group_13, xX12_group_14, xX12_group_17, xX12_group_20, xX12_group_21, xX12_group_22, xX12_group_23, xX12_group_26, xX12_group_29, xX12_group_30, kd_123, kd_123, ↓reduceIte, gd_t, hK_p, hN_p, hF_p, hI_p, hJ_p, hR_p, stI_p, stJ_p, stR_p, stA_p, va_rf_s, va_rf_n, clr_i, clr_l, clr_r, clr_n, clr_o, w8_0, w8_1i, w8_1r, w8_2ii, w8_2ri, w8_2ir, w8_2rr, w8_3, beq_self_eq_true, Bool.and_self, Bool.and_true, Bool.true_and, decide_true, Option.toList_some, Option.toList_none, List.cons_append, List.nil_append, Option.bind_some, if_true, if_false, Nat.reduceLeDiff, Nat.reduceLT, Nat.reduceBEq, Bool.or_false, Bool.false_or, Bool.or_true, Bool.true_or, nI_leI, nI_ltI, nI_eq, nI_clamp, inb_n, up_s, up_n, bx_uu, nI_1, ix6, nI_0n, pk_us, pk_un, ge_0n, icl_m, h.nd, e]
theorem groups_p {I : Mem} {J : MemL} {R : MemR} {t t' n nb nm fL lL fG lG st : Nat} (h : cAll I R t t' n nb nm fL lL fG lG st) {w : Int32} : askP MX11_groups MX12_groups [.int w] I J R := by
  have hn6 := h.n6
  have n1 : ¬ (1 : Int32) = 0 := by decide
  rcases apR_or (x := w) with ⟨w', hw', rfl, ew⟩ | ew
  · have hc := for_v (P := fun i (s : (Nat → Bool) × Int32) => E (C 10) MX11_groups 22 [some (.ref 0), some (.int (nI w')), some (.int s.2), some (.int (bI s.1)), some (.int (nI i))] [] (hp I J R)) (f := lefS n (ruF (I 70) n) (nrF (I 67) (nI w'))) (fin := fun s => some (some (.int s.2), hp I J R)) (Inv := fun _ s => ∀ k, s.1 k = true → ruF (I 70) n k = true) (n := 6) (by
      intro i s hi hv
      have c0 : ¬ (6 : Int32) ≤ nI i := nI_ge (b := 6) hi (by omega)
      rw [xX11_groups_22]
      by_cases z : s.1 i = true
      · have z2 : bI s.1 >>> (nI i &&& 31) &&& 1 = 1 := by rw [bt_is hi]; exact z
        have hr := hv i z
        have hin : i < n := by
          unfold ruF at hr
          simp at hr
          exact hr.1
        have hg := gr_c (d := 7) (c := i) (w := nI w') (J := J) (R := R) (m := 60) (Or.inl rfl) h.now.2.1 hn6 (by omega)
        rw [itr_run hin, show ruF (I (60 + 10)) n i = true from hr, if_pos rfl] at hg
        unfold lefS
        rw [if_pos z]
        simp (disch := omega) only [xX11_groups_24, xX11_groups_26, xX11_groups_29, xX11_groups_30, xX11_groups_32, xX11_groups_33, xX11_groups_34, xX11_groups_35, xX11_groups_36, xX11_groups_39, xX11_groups_40, xX11_groups_41, xX11_groups_44, xX11_groups_46, xX11_groups_47, xX11_groups_50, xX11_groups_51, xX11_groups_52, xX11_groups_53, xX11_groups_54, xX11_groups_57, xX11_groups_60, kd_0, fi_0_5, kd_60, kd_60, ↓reduceIte, gd_t, hK_p, hN_p, hF_p, hI_p, hJ_p, hR_p, stI_p, stJ_p, stR_p, stA_p, va_rf_s, va_rf_n, clr_i, clr_l, clr_r, clr_n, clr_o, w8_0, w8_1i, w8_1r, w8_2ii, w8_2ri, w8_2ir, w8_2rr, w8_3, beq_self_eq_true, Bool.and_self, Bool.and_true, Bool.true_and, decide_true, Option.toList_some, Option.toList_none, List.cons_append, List.nil_append, Option.bind_some, if_true, if_false, Nat.reduceLeDiff, Nat.reduceLT, Nat.reduceBEq, Bool.or_false, Bool.false_or, Bool.or_true, Bool.true_or, nI_leI, nI_ltI, nI_eq, nI_clamp, inb_n, up_s, up_n, bx_uu, nI_1, ix6, nI_0n, pk_us, pk_un, ge_0n, c0, z2, hg, bI_df, not_true_eq_false]
      · have z2 : ¬ bI s.1 >>> (nI i &&& 31) &&& 1 = 1 := by rw [bt_is hi]; exact z
        unfold lefS
        rw [if_neg z]
        simp (disch := omega) only [xX11_groups_24, xX11_groups_26, xX11_groups_29, xX11_groups_30, xX11_groups_32, xX11_groups_33, xX11_groups_34, xX11_groups_35, xX11_groups_36, xX11_groups_39, xX11_groups_40, xX11_groups_41, xX11_groups_44, xX11_groups_46, xX11_groups_47, xX11_groups_50, xX11_groups_51, xX11_groups_52, xX11_groups_53, xX11_groups_54, xX11_groups_57, xX11_groups_60, kd_0, fi_0_5, kd_60, kd_60, ↓reduceIte, gd_t, hK_p, hN_p, hF_p, hI_p, hJ_p, hR_p, stI_p, stJ_p, stR_p, stA_p, va_rf_s, va_rf_n, clr_i, clr_l, clr_r, clr_n, clr_o, w8_0, w8_1i, w8_1r, w8_2ii, w8_2ri, w8_2ir, w8_2rr, w8_3, beq_self_eq_true, Bool.and_self, Bool.and_true, Bool.true_and, decide_true, Option.toList_some, Option.toList_none, List.cons_append, List.nil_append, Option.bind_some, if_true, if_false, Nat.reduceLeDiff, Nat.reduceLT, Nat.reduceBEq, Bool.or_false, Bool.false_or, Bool.or_true, Bool.true_or, nI_leI, nI_ltI, nI_eq, nI_clamp, inb_n, up_s, up_n, bx_uu, nI_1, ix6, nI_0n, pk_us, pk_un, ge_0n, c0, z2, not_false_eq_true]) (by
      intro i s hi hv k
      unfold lefS
      by_cases z : s.1 i = true
      · rw [if_pos z]
        dsimp only
        intro q
        rw [Bool.and_eq_true] at q
        exact hv k q.1
      · rw [if_neg z]
        exact hv k) (by
      intro s hv
      have c0 : (6 : Int32) ≤ nI 6 := by decide
      rw [xX11_groups_22]
      simp (disch := omega) only [xX11_groups_24, xX11_groups_26, xX11_groups_29, xX11_groups_30, xX11_groups_32, xX11_groups_33, xX11_groups_34, xX11_groups_35, xX11_groups_36, xX11_groups_39, xX11_groups_40, xX11_groups_41, xX11_groups_44, xX11_groups_46, xX11_groups_47, xX11_groups_50, xX11_groups_51, xX11_groups_52, xX11_groups_53, xX11_groups_54, xX11_groups_57, xX11_groups_60, xX11_groups_63, xX11_groups_64, kd_0, fi_0_5, kd_60, ↓reduceIte, gd_t, hK_p, hN_p, hF_p, hI_p, hJ_p, hR_p, stI_p, stJ_p, stR_p, stA_p, va_rf_s, va_rf_n, clr_i, clr_l, clr_r, clr_n, clr_o, w8_0, w8_1i, w8_1r, w8_2ii, w8_2ri, w8_2ir, w8_2rr, w8_3, beq_self_eq_true, Bool.and_self, Bool.and_true, Bool.true_and, decide_true, Option.toList_some, Option.toList_none, List.cons_append, List.nil_append, Option.bind_some, if_true, if_false, Nat.reduceLeDiff, Nat.reduceLT, Nat.reduceBEq, Bool.or_false, Bool.false_or, Bool.or_true, Bool.true_or, nI_leI, nI_ltI, nI_eq, nI_clamp, inb_n, up_s, up_n, bx_uu, nI_1, ix6, nI_0n, pk_us, pk_un, ge_0n, c0]) 6 0 (ruF (I 70) n, 0) (by omega) (fun _ q => q)
    have hm := for_j (P := fun i (s : Int32) (g : Option Value) => E (C 10) MX12_groups 18 [some (.ref 123), some (.int (nI w')), some (.int s), some (.int (nI i)), g] [] (hp (va_up I 123 (upd (I 123) 2 0)) J R)) (F := fun s (_ : Unit) => some (some (.int s), hp (va_up I 123 (upd (I 123) 2 0)) J R)) (f := firS n (ruF (I 156) n) (nrF (I 153) (nI w'))) (n := n) (by
      intro i s g hi
      have c0 : ¬ n ≤ i := by omega
      have hg := gr_m (d := 8) (n := n) (c := i) (w := nI w') (I := va_up I 123 (upd (I 123) 2 0)) (J := J) (R := R) (by rw [up_s, pk_un (by decide)]; exact h.nd) hn6 hi (by rw [up_n (by decide)]; exact h.ph)
      rw [up_n (by decide), up_n (by decide)] at hg
      refine ⟨some (.int (if I 156 i = 1 then bI (grp n (ruF (I 156) n) (nrF (I 153) (nI w')) i) else 0)), ?_⟩
      unfold firS
      rw [xX12_groups_18]
      by_cases z : I 156 i = 1
      · have hr : ruF (I 156) n i = true := by simp [ruF, hi, z]
        have hne : ¬ bI (grp n (ruF (I 156) n) (nrF (I 153) (nI w')) i) = 0 := bI_ne (k := i) (by omega) grp_self
        rw [if_pos z] at hg ⊢
        by_cases y : ∀ k, k < i → grp n (ruF (I 156) n) (nrF (I 153) (nI w')) i k = false
        · have y2 := (bI_lo (p := grp n (ruF (I 156) n) (nrF (I 153) (nI w')) i) (i := i) (by omega)).mpr y
          rw [if_pos ⟨hr, y⟩]
          simp (disch := omega) only [xX12_groups_19, xX12_groups_20, xX12_groups_23, xX12_groups_26, xX12_groups_27, xX12_groups_28, xX12_groups_29, xX12_groups_32, xX12_groups_34, xX12_groups_35, xX12_groups_37, xX12_groups_40, xX12_groups_42, xX12_groups_43, xX12_groups_44, xX12_groups_45, xX12_groups_46, xX12_groups_47, xX12_groups_48, xX12_groups_51, xX12_groups_52, xX12_groups_55, xX12_groups_56, xX12_groups_57, xX12_groups_58, xX12_groups_61, kd_123, kd_123, ↓reduceIte, gd_t, hK_p, hN_p, hF_p, hI_p, hJ_p, hR_p, stI_p, stJ_p, stR_p, stA_p, va_rf_s, va_rf_n, clr_i, clr_l, clr_r, clr_n, clr_o, w8_0, w8_1i, w8_1r, w8_2ii, w8_2ri, w8_2ir, w8_2rr, w8_3, beq_self_eq_true, Bool.and_self, Bool.and_true, Bool.true_and, decide_true, Option.toList_some, Option.toList_none, List.cons_append, List.nil_append, Option.bind_some, if_true, if_false, Nat.reduceLeDiff, Nat.reduceLT, Nat.reduceBEq, Bool.or_false, Bool.false_or, Bool.or_true, Bool.true_or, nI_leI, nI_ltI, nI_eq, nI_clamp, inb_n, up_s, up_n, bx_uu, nI_1, ix6, nI_0n, pk_us, pk_un, ge_0n, h.nd, c0, hg, hne, y2, not_true_eq_false]
        · have y2 : ¬ bI (grp n (ruF (I 156) n) (nrF (I 153) (nI w')) i) &&& ((1 : Int32) <<< (nI i &&& 31) - 1) = 0 := fun q => y ((bI_lo (by omega)).mp q)
          rw [if_neg (fun q => y q.2)]
          simp (disch := omega) only [xX12_groups_19, xX12_groups_20, xX12_groups_23, xX12_groups_26, xX12_groups_27, xX12_groups_28, xX12_groups_29, xX12_groups_32, xX12_groups_34, xX12_groups_35, xX12_groups_37, xX12_groups_40, xX12_groups_42, xX12_groups_43, xX12_groups_44, xX12_groups_45, xX12_groups_46, xX12_groups_47, xX12_groups_48, xX12_groups_51, xX12_groups_52, xX12_groups_55, xX12_groups_56, xX12_groups_57, xX12_groups_58, xX12_groups_61, kd_123, kd_123, ↓reduceIte, gd_t, hK_p, hN_p, hF_p, hI_p, hJ_p, hR_p, stI_p, stJ_p, stR_p, stA_p, va_rf_s, va_rf_n, clr_i, clr_l, clr_r, clr_n, clr_o, w8_0, w8_1i, w8_1r, w8_2ii, w8_2ri, w8_2ir, w8_2rr, w8_3, beq_self_eq_true, Bool.and_self, Bool.and_true, Bool.true_and, decide_true, Option.toList_some, Option.toList_none, List.cons_append, List.nil_append, Option.bind_some, if_true, if_false, Nat.reduceLeDiff, Nat.reduceLT, Nat.reduceBEq, Bool.or_false, Bool.false_or, Bool.or_true, Bool.true_or, nI_leI, nI_ltI, nI_eq, nI_clamp, inb_n, up_s, up_n, bx_uu, nI_1, ix6, nI_0n, pk_us, pk_un, ge_0n, h.nd, c0, hg, hne, y2, Int32.add_zero, not_false_eq_true]
      · have hr : ¬ (ruF (I 156) n i = true ∧ ∀ k, k < i → grp n (ruF (I 156) n) (nrF (I 153) (nI w')) i k = false) := fun q => by
          have := q.1
          simp [ruF, z] at this
        rw [if_neg z] at hg ⊢
        rw [if_neg hr]
        simp (disch := omega) only [xX12_groups_19, xX12_groups_20, xX12_groups_23, xX12_groups_26, xX12_groups_27, xX12_groups_28, xX12_groups_29, xX12_groups_32, xX12_groups_34, xX12_groups_35, xX12_groups_37, xX12_groups_40, xX12_groups_42, xX12_groups_43, xX12_groups_44, xX12_groups_45, xX12_groups_46, xX12_groups_47, xX12_groups_48, xX12_groups_51, xX12_groups_52, xX12_groups_55, xX12_groups_56, xX12_groups_57, xX12_groups_58, xX12_groups_61, kd_123, kd_123, ↓reduceIte, gd_t, hK_p, hN_p, hF_p, hI_p, hJ_p, hR_p, stI_p, stJ_p, stR_p, stA_p, va_rf_s, va_rf_n, clr_i, clr_l, clr_r, clr_n, clr_o, w8_0, w8_1i, w8_1r, w8_2ii, w8_2ri, w8_2ir, w8_2rr, w8_3, beq_self_eq_true, Bool.and_self, Bool.and_true, Bool.true_and, decide_true, Option.toList_some, Option.toList_none, List.cons_append, List.nil_append, Option.bind_some, if_true, if_false, Nat.reduceLeDiff, Nat.reduceLT, Nat.reduceBEq, Bool.or_false, Bool.false_or, Bool.or_true, Bool.true_or, nI_leI, nI_ltI, nI_eq, nI_clamp, inb_n, up_s, up_n, bx_uu, nI_1, ix6, nI_0n, pk_us, pk_un, ge_0n, h.nd, c0, hg, Int32.add_zero]) (by
      intro s g
      refine ⟨(), ?_⟩
      have c0 : n ≤ n := Nat.le_refl n
      rw [xX12_groups_18]
      simp (disch := omega) only [xX12_groups_19, xX12_groups_20, xX12_groups_23, xX12_groups_26, xX12_groups_27, xX12_groups_28, xX12_groups_29, xX12_groups_32, xX12_groups_34, xX12_groups_35, xX12_groups_37, xX12_groups_40, xX12_groups_42, xX12_groups_43, xX12_groups_44, xX12_groups_45, xX12_groups_46, xX12_groups_47, xX12_groups_48, xX12_groups_51, xX12_groups_52, xX12_groups_55, xX12_groups_56, xX12_groups_57, xX12_groups_58, xX12_groups_61, xX12_groups_64, xX12_groups_65, kd_123, ↓reduceIte, gd_t, hK_p, hN_p, hF_p, hI_p, hJ_p, hR_p, stI_p, stJ_p, stR_p, stA_p, va_rf_s, va_rf_n, clr_i, clr_l, clr_r, clr_n, clr_o, w8_0, w8_1i, w8_1r, w8_2ii, w8_2ri, w8_2ir, w8_2rr, w8_3, beq_self_eq_true, Bool.and_self, Bool.and_true, Bool.true_and, decide_true, Option.toList_some, Option.toList_none, List.cons_append, List.nil_append, Option.bind_some, if_true, if_false, Nat.reduceLeDiff, Nat.reduceLT, Nat.reduceBEq, Bool.or_false, Bool.false_or, Bool.or_true, Bool.true_or, nI_leI, nI_ltI, nI_eq, nI_clamp, inb_n, up_s, up_n, bx_uu, nI_1, ix6, nI_0n, pk_us, pk_un, ge_0n, h.nd, c0]) n 0 0 none (by omega)
    obtain ⟨-, hm⟩ := hm
    rw [nI_0] at hm hc
    have hr := run_c (d := 9) (m := 60) (I := I) (J := J) (R := R) (Or.inl rfl) h.now.2.1 hn6
    refine askP.mk0 (v := (itf (lefS n (ruF (I 70) n) (nrF (I 67) (nI w'))) 6 0 (ruF (I 70) n, 0)).2) (w := itf (firS n (ruF (I 156) n) (nrF (I 153) (nI w'))) n 0 0) ?_ ?_ ?_
    · rw [eX11_groups]
      simp (disch := omega) only [xX11_groups_0, xX11_groups_1, xX11_groups_4, xX11_groups_7, xX11_groups_8, xX11_groups_9, xX11_groups_10, xX11_groups_11, xX11_groups_12, xX11_groups_15, xX11_groups_18, xX11_groups_19, xX11_groups_20, kd_0, fi_0_5, kd_60, kd_60, ↓reduceIte, gd_t, hK_p, hN_p, hF_p, hI_p, hJ_p, hR_p, stI_p, stJ_p, stR_p, stA_p, va_rf_s, va_rf_n, clr_i, clr_l, clr_r, clr_n, clr_o, w8_0, w8_1i, w8_1r, w8_2ii, w8_2ri, w8_2ir, w8_2rr, w8_3, beq_self_eq_true, Bool.and_self, Bool.and_true, Bool.true_and, decide_true, Option.toList_some, Option.toList_none, List.cons_append, List.nil_append, Option.bind_some, if_true, if_false, Nat.reduceLeDiff, Nat.reduceLT, Nat.reduceBEq, Bool.or_false, Bool.false_or, Bool.or_true, Bool.true_or, nI_leI, nI_ltI, nI_eq, nI_clamp, inb_n, up_s, up_n, bx_uu, nI_1, ix6, nI_0n, pk_us, pk_un, ge_0n, isA_c, ew, n1, hr, not_false_eq_true]
      exact hc
    · rw [eX12_groups]
      simp (disch := omega) only [xX12_groups_0, xX12_groups_1, xX12_groups_2, xX12_groups_5, xX12_groups_6, xX12_groups_9, xX12_groups_12, xX12_groups_13, xX12_groups_14, xX12_groups_15, xX12_groups_16, xX12_groups_17, kd_123, ↓reduceIte, gd_t, hK_p, hN_p, hF_p, hI_p, hJ_p, hR_p, stI_p, stJ_p, stR_p, stA_p, va_rf_s, va_rf_n, clr_i, clr_l, clr_r, clr_n, clr_o, w8_0, w8_1i, w8_1r, w8_2ii, w8_2ri, w8_2ir, w8_2rr, w8_3, beq_self_eq_true, Bool.and_self, Bool.and_true, Bool.true_and, decide_true, Option.toList_some, Option.toList_none, List.cons_append, List.nil_append, Option.bind_some, if_true, if_false, Nat.reduceLeDiff, Nat.reduceLT, Nat.reduceBEq, Bool.or_false, Bool.false_or, Bool.or_true, Bool.true_or, nI_leI, nI_ltI, nI_eq, nI_clamp, inb_n, up_s, up_n, bx_uu, nI_1, ix6, nI_0n, pk_us, pk_un, ge_0n, isN_m, ew, n1, not_false_eq_true]
      exact hm
    · have hl := lef_fir (n := n) (run := ruF (I 156) n) (nr := nrF (I 67) (nI w')) (fun a b => by unfold nrF; rw [apa_sy]) hn6
      have e1 : (fun k => decide (k < n) && ruF (I 156) n k) = ruF (I 156) n := by
        funext k
        unfold ruF
        by_cases hk : k < n <;> simp [hk]
      rw [e1] at hl
      rw [ru_eq h, hl]
      refine itf_cong2 (fun i s hi => ?_)
      unfold firS grp
      rw [itr_cong (fun a b ha hb => nr_eq h ha hb)]
  · refine askP.mk0 (v := -1) (w := -1) ?_ ?_ rfl
    · rw [eX11_groups]
      simp (disch := omega) only [xX11_groups_0, xX11_groups_1, xX11_groups_4, xX11_groups_7, xX11_groups_8, xX11_groups_9, xX11_groups_10, xX11_groups_11, xX11_groups_12, xX11_groups_15, xX11_groups_18, xX11_groups_19, xX11_groups_20, kd_0, fi_0_5, kd_60, ↓reduceIte, gd_t, hK_p, hN_p, hF_p, hI_p, hJ_p, hR_p, stI_p, stJ_p, stR_p, stA_p, va_rf_s, va_rf_n, clr_i, clr_l, clr_r, clr_n, clr_o, w8_0, w8_1i, w8_1r, w8_2ii, w8_2ri, w8_2ir, w8_2rr, w8_3, beq_self_eq_true, Bool.and_self, Bool.and_true, Bool.true_and, decide_true, Option.toList_some, Option.toList_none, List.cons_append, List.nil_append, Option.bind_some, if_true, if_false, Nat.reduceLeDiff, Nat.reduceLT, Nat.reduceBEq, Bool.or_false, Bool.false_or, Bool.or_true, Bool.true_or, nI_leI, nI_ltI, nI_eq, nI_clamp, inb_n, up_s, up_n, bx_uu, nI_1, ix6, nI_0n, pk_us, pk_un, ge_0n, isA_c, ew, not_true_eq_false]
    · rw [eX12_groups]
      simp (disch := omega) only [xX12_groups_0, xX12_groups_1, xX12_groups_2, xX12_groups_5, xX12_groups_6, xX12_groups_9, xX12_groups_12, xX12_groups_13, xX12_groups_14, xX12_groups_15, xX12_groups_16, xX12_groups_17, kd_123, ↓reduceIte, gd_t, hK_p, hN_p, hF_p, hI_p, hJ_p, hR_p, stI_p, stJ_p, stR_p, stA_p, va_rf_s, va_rf_n, clr_i, clr_l, clr_r, clr_n, clr_o, w8_0, w8_1i, w8_1r, w8_2ii, w8_2ri, w8_2ir, w8_2rr, w8_3, beq_self_eq_true, Bool.and_self, Bool.and_true, Bool.true_and, decide_true, Option.toList_some, Option.toList_none, List.cons_append, List.nil_append, Option.bind_some, if_true, if_false, Nat.reduceLeDiff, Nat.reduceLT, Nat.reduceBEq, Bool.or_false, Bool.false_or, Bool.or_true, Bool.true_or, nI_leI, nI_ltI, nI_eq, nI_clamp, inb_n, up_s, up_n, bx_uu, nI_1, ix6, nI_0n, pk_us, pk_un, ge_0n, isN_m, ew, not_true_eq_false]

-- MOTION, 2: rows copied, the reaches measured, the pulls weighed
theorem for_j {σ ι κ : Type} {P : Nat → σ → ι → Option Rs} {F : σ → κ → Option Rs} {f : Nat → σ → σ} {n : Nat} (hs : ∀ i s g, i < n → ∃ g', P i s g = P (i + 1) (f i s) g') (he : ∀ s g, ∃ q, P n s g = F s q) : ∀ k i s g, i + k = n → ∃ q, P i s g = F (itf f k i s) q
  | 0, i, s, g, h => by
    obtain rfl : i = n := by omega
    exact he s g
  | k + 1, i, s, g, h => by
    obtain ⟨g', e⟩ := hs i s g (by omega)
    rw [e]
    exact for_j hs he k (i + 1) (f i s) g' (by omega)
theorem up_self {α : Type} (f : Nat → α) (k : Nat) : va_up f k (f k) = f := by
  funext a
  by_cases ha : a = k
  · subst ha
    rw [up_s]
  · rw [up_n ha]
def cpF (f g : Nat → Int32) (n : Nat) : Nat → Int32 := fun k => if k < n then f k else g k
theorem cpy_0 {f g : Nat → Int32} {n : Nat} : va_cpy f g 0 0 n = cpF f g n := by
  funext k
  unfold cpF
  by_cases h : k < n
  · rw [if_pos h, pk_cpy_in (by omega) (by omega)]
    congr 1
    omega
  · rw [if_neg h, pk_cpy_out (by omega)]
theorem copy_spec {d a b n : Nat} {I : Mem} {J : MemL} {R : MemR} (ka : kd0 a = 14) (kb : kd0 b = 14) (na : ln0 a = n) (nb : ln0 b = n) (hn : n < 2 ^ 31) : C (d + 1) MX4_copy [.ref a, .ref b] (hp I J R) = some (none, hp (va_up I b (cpF (I a) (I b) n)) J R) := by
  have h1 : ¬ nI n < 0 := nI_pos hn
  have h2 : (nI n).toNatClampNeg = n := nI_clamp hn
  have h3 : nI n ≤ nI n := nI_le (Nat.le_refl n) hn
  have h4 : ¬ (0 : Int32) < 0 := by decide
  rw [eX4_copy]
  simp only [xX4_copy_0, xX4_copy_1, xX4_copy_2, xX4_copy_3, xX4_copy_4, xX4_copy_5, xX4_copy_6, xX4_copy_7, xX4_copy_8, xX4_copy_11, xX4_copy_12, xX4_copy_13, xX4_copy_16, xX4_copy_17, xX4_copy_18, xX4_copy_21, ↓reduceIte, gd_t, hK_p, hN_p, hF_p, hI_p, hJ_p, hR_p, stI_p, stJ_p, stR_p, stA_p, va_rf_s, va_rf_n, clr_i, clr_l, clr_r, clr_n, clr_o, w8_0, w8_1i, w8_1r, w8_2ii, w8_2ri, w8_2ir, w8_2rr, w8_3, beq_self_eq_true, Bool.and_self, Bool.and_true, Bool.true_and, decide_true, Option.toList_some, Option.toList_none, List.cons_append, List.nil_append, Option.bind_some, if_true, if_false, Nat.reduceLeDiff, Nat.reduceLT, Nat.reduceBEq, Bool.or_false, Bool.false_or, Bool.or_true, Bool.true_or, ka, kb, na, nb, h1, h2, h3, h4, sb_cl0, Nat.zero_add, Nat.le_refl, decide_false, Bool.not_false, cpy_0]
/-- a table of 6 to a row, written row by row -/
def mesF (n : Nat) (B : Nat → Nat → Int32) (r : Nat → Int32) : Nat → Int32 := itf (fun i r => itf (fun j r => upd r (i * 6 + j) (B i j)) n 0 r) n 0 r
def bonF (weight give stiff place beam : Nat → Int32) (wall : Int32) (i j : Nat) : Int32 := if i = j then 0 else weight j * reaF give stiff place beam wall i j
theorem mes_spec {d m t n : Nat} {I : Mem} {J : MemL} {R : MemR} (hm : isMo m) (ht : isTe t) (hR : R m 0 = some t) (hn : I m 1 = nI n) (hn6 : n ≤ 6) :
    C (d + 3) MX4_measure [.ref m] (hp I J R) = some (none, hp (va_up I (m + 11) (mesF n (bonF (I (m + 4)) (I (t + 3)) (I (m + 1)) (I (m + 3)) (I (m + 2)) (I m 3)) (I (m + 11)))) J R) := by
  have hm2 := mo_lo hm
  have ht2 := te_hi ht
  have hin : ∀ (i : Nat) (r : Nat → Int32), i < n → E (C (d + 2)) MX4_measure 12 [some (.ref m), some (.int (nI i)), some (.int (nI 0))] [] (hp (va_up I (m + 11) r) J R) = E (C (d + 2)) MX4_measure 59 [some (.ref m), some (.int (nI i)), some (.int (nI n))] [] (hp (va_up I (m + 11) (itf (fun j r => upd r (i * 6 + j) (bonF (I (m + 4)) (I (t + 3)) (I (m + 1)) (I (m + 3)) (I (m + 2)) (I m 3) i j)) n 0 r)) J R) := by
    intro i r hi
    refine for_0 (P := fun j r => E (C (d + 2)) MX4_measure 12 [some (.ref m), some (.int (nI i)), some (.int (nI j))] [] (hp (va_up I (m + 11) r) J R)) (fin := fun r => E (C (d + 2)) MX4_measure 59 [some (.ref m), some (.int (nI i)), some (.int (nI n))] [] (hp (va_up I (m + 11) r) J R)) ?_ ?_
    · intro j r hj
      rw [xX4_measure_12]
      by_cases hij : i = j
      · subst hij
        simp (disch := omega) only [xX4_measure_0, xX4_measure_1, xX4_measure_3, xX4_measure_4, xX4_measure_7, xX4_measure_10, xX4_measure_11, xX4_measure_13, xX4_measure_14, xX4_measure_17, xX4_measure_20, xX4_measure_21, xX4_measure_24, xX4_measure_25, xX4_measure_27, xX4_measure_28, xX4_measure_29, xX4_measure_30, xX4_measure_31, xX4_measure_32, xX4_measure_35, xX4_measure_36, xX4_measure_39, xX4_measure_40, xX4_measure_43, xX4_measure_44, xX4_measure_45, xX4_measure_46, xX4_measure_47, xX4_measure_48, xX4_measure_51, xX4_measure_52, xX4_measure_53, xX4_measure_56, xX4_measure_59, xX4_measure_62, xX4_measure_65, mo_k0 hm, mo_f0_8 hm, mo_k4 hm, mo_n4 hm, mo_f0_15 hm, mo_k11 hm, mo_n11 hm, ↓reduceIte, gd_t, hK_p, hN_p, hF_p, hI_p, hJ_p, hR_p, stI_p, stJ_p, stR_p, stA_p, va_rf_s, va_rf_n, clr_i, clr_l, clr_r, clr_n, clr_o, w8_0, w8_1i, w8_1r, w8_2ii, w8_2ri, w8_2ir, w8_2rr, w8_3, beq_self_eq_true, Bool.and_self, Bool.and_true, Bool.true_and, decide_true, Option.toList_some, Option.toList_none, List.cons_append, List.nil_append, Option.bind_some, if_true, if_false, Nat.reduceLeDiff, Nat.reduceLT, Nat.reduceBEq, Bool.or_false, Bool.false_or, Bool.or_true, Bool.true_or, nI_leI, nI_ltI, nI_eq, nI_clamp, inb_n, up_s, up_n, bx_uu, if_pos, if_neg, nI_1, ix6, nI_0n, pk_us, pk_un, ge_0n, hn, not_true_eq_false, bonF]
      · simp (disch := omega) only [xX4_measure_0, xX4_measure_1, xX4_measure_3, xX4_measure_4, xX4_measure_7, xX4_measure_10, xX4_measure_11, xX4_measure_13, xX4_measure_14, xX4_measure_17, xX4_measure_20, xX4_measure_21, xX4_measure_24, xX4_measure_25, xX4_measure_27, xX4_measure_28, xX4_measure_29, xX4_measure_30, xX4_measure_31, xX4_measure_32, xX4_measure_35, xX4_measure_36, xX4_measure_39, xX4_measure_40, xX4_measure_43, xX4_measure_44, xX4_measure_45, xX4_measure_46, xX4_measure_47, xX4_measure_48, xX4_measure_51, xX4_measure_52, xX4_measure_53, xX4_measure_56, xX4_measure_59, xX4_measure_62, xX4_measure_65, mo_k0 hm, mo_f0_8 hm, mo_k4 hm, mo_n4 hm, mo_f0_15 hm, mo_k11 hm, mo_n11 hm, ↓reduceIte, gd_t, hK_p, hN_p, hF_p, hI_p, hJ_p, hR_p, stI_p, stJ_p, stR_p, stA_p, va_rf_s, va_rf_n, clr_i, clr_l, clr_r, clr_n, clr_o, w8_0, w8_1i, w8_1r, w8_2ii, w8_2ri, w8_2ir, w8_2rr, w8_3, beq_self_eq_true, Bool.and_self, Bool.and_true, Bool.true_and, decide_true, Option.toList_some, Option.toList_none, List.cons_append, List.nil_append, Option.bind_some, if_true, if_false, Nat.reduceLeDiff, Nat.reduceLT, Nat.reduceBEq, Bool.or_false, Bool.false_or, Bool.or_true, Bool.true_or, nI_leI, nI_ltI, nI_eq, nI_clamp, inb_n, up_s, up_n, bx_uu, if_pos, if_neg, nI_1, ix6, nI_0n, pk_us, pk_un, ge_0n, hn, rea_spec hm ht hR, bonF, hij, not_false_eq_true]
    · intro r
      rw [xX4_measure_12]
      simp (disch := omega) only [xX4_measure_0, xX4_measure_1, xX4_measure_3, xX4_measure_4, xX4_measure_7, xX4_measure_10, xX4_measure_11, xX4_measure_13, xX4_measure_14, xX4_measure_17, xX4_measure_20, xX4_measure_21, xX4_measure_24, xX4_measure_25, xX4_measure_27, xX4_measure_28, xX4_measure_29, xX4_measure_30, xX4_measure_31, xX4_measure_32, xX4_measure_35, xX4_measure_36, xX4_measure_39, xX4_measure_40, xX4_measure_43, xX4_measure_44, xX4_measure_45, xX4_measure_46, xX4_measure_47, xX4_measure_48, xX4_measure_51, xX4_measure_52, xX4_measure_53, xX4_measure_56, xX4_measure_62, xX4_measure_65, mo_k0 hm, mo_f0_8 hm, mo_k4 hm, mo_n4 hm, mo_f0_15 hm, mo_k11 hm, mo_n11 hm, ↓reduceIte, gd_t, hK_p, hN_p, hF_p, hI_p, hJ_p, hR_p, stI_p, stJ_p, stR_p, stA_p, va_rf_s, va_rf_n, clr_i, clr_l, clr_r, clr_n, clr_o, w8_0, w8_1i, w8_1r, w8_2ii, w8_2ri, w8_2ir, w8_2rr, w8_3, beq_self_eq_true, Bool.and_self, Bool.and_true, Bool.true_and, decide_true, Option.toList_some, Option.toList_none, List.cons_append, List.nil_append, Option.bind_some, if_true, if_false, Nat.reduceLeDiff, Nat.reduceLT, Nat.reduceBEq, Bool.or_false, Bool.false_or, Bool.or_true, Bool.true_or, nI_leI, nI_ltI, nI_eq, nI_clamp, inb_n, up_s, up_n, bx_uu, if_pos, if_neg, nI_1, ix6, nI_0n, pk_us, pk_un, ge_0n, hn]
  have hgo : ∀ (k i : Nat) (r : Nat → Int32) (g : Option Value), i + k = n → ∃ q : Option Value, E (C (d + 2)) MX4_measure 2 [some (.ref m), some (.int (nI i)), g] [] (hp (va_up I (m + 11) r) J R) =
      E (C (d + 2)) MX4_measure 65 [some (.ref m), some (.int (nI n)), q] [] (hp (va_up I (m + 11) (itf (fun i r => itf (fun j r => upd r (i * 6 + j) (bonF (I (m + 4)) (I (t + 3)) (I (m + 1)) (I (m + 3)) (I (m + 2)) (I m 3) i j)) n 0 r) k i r)) J R) := by
    refine for_j (P := fun i r (g : Option Value) => E (C (d + 2)) MX4_measure 2 [some (.ref m), some (.int (nI i)), g] [] (hp (va_up I (m + 11) r) J R)) (F := fun r (q : Option Value) => E (C (d + 2)) MX4_measure 65 [some (.ref m), some (.int (nI n)), q] [] (hp (va_up I (m + 11) r) J R)) (n := n) ?_ ?_
    · intro i r g hi
      refine ⟨some (.int (nI n)), ?_⟩
      rw [xX4_measure_2]
      simp (disch := omega) only [xX4_measure_0, xX4_measure_1, xX4_measure_3, xX4_measure_4, xX4_measure_7, xX4_measure_10, xX4_measure_11, xX4_measure_13, xX4_measure_14, xX4_measure_17, xX4_measure_20, xX4_measure_21, xX4_measure_24, xX4_measure_25, xX4_measure_27, xX4_measure_28, xX4_measure_29, xX4_measure_30, xX4_measure_31, xX4_measure_32, xX4_measure_35, xX4_measure_36, xX4_measure_39, xX4_measure_40, xX4_measure_43, xX4_measure_44, xX4_measure_45, xX4_measure_46, xX4_measure_47, xX4_measure_48, xX4_measure_51, xX4_measure_52, xX4_measure_53, xX4_measure_56, xX4_measure_59, xX4_measure_62, xX4_measure_65, mo_k0 hm, mo_f0_8 hm, mo_k4 hm, mo_n4 hm, mo_f0_15 hm, mo_k11 hm, mo_n11 hm, ↓reduceIte, gd_t, hK_p, hN_p, hF_p, hI_p, hJ_p, hR_p, stI_p, stJ_p, stR_p, stA_p, va_rf_s, va_rf_n, clr_i, clr_l, clr_r, clr_n, clr_o, w8_0, w8_1i, w8_1r, w8_2ii, w8_2ri, w8_2ir, w8_2rr, w8_3, beq_self_eq_true, Bool.and_self, Bool.and_true, Bool.true_and, decide_true, Option.toList_some, Option.toList_none, List.cons_append, List.nil_append, Option.bind_some, if_true, if_false, Nat.reduceLeDiff, Nat.reduceLT, Nat.reduceBEq, Bool.or_false, Bool.false_or, Bool.or_true, Bool.true_or, nI_leI, nI_ltI, nI_eq, nI_clamp, inb_n, up_s, up_n, bx_uu, if_pos, if_neg, nI_1, ix6, nI_0n, pk_us, pk_un, ge_0n, hn]
      rw [← nI_0, hin i r hi]
      simp (disch := omega) only [xX4_measure_0, xX4_measure_1, xX4_measure_3, xX4_measure_4, xX4_measure_7, xX4_measure_10, xX4_measure_11, xX4_measure_13, xX4_measure_14, xX4_measure_17, xX4_measure_20, xX4_measure_21, xX4_measure_24, xX4_measure_25, xX4_measure_27, xX4_measure_28, xX4_measure_29, xX4_measure_30, xX4_measure_31, xX4_measure_32, xX4_measure_35, xX4_measure_36, xX4_measure_39, xX4_measure_40, xX4_measure_43, xX4_measure_44, xX4_measure_45, xX4_measure_46, xX4_measure_47, xX4_measure_48, xX4_measure_51, xX4_measure_52, xX4_measure_53, xX4_measure_56, xX4_measure_59, xX4_measure_62, xX4_measure_65, mo_k0 hm, mo_f0_8 hm, mo_k4 hm, mo_n4 hm, mo_f0_15 hm, mo_k11 hm, mo_n11 hm, ↓reduceIte, gd_t, hK_p, hN_p, hF_p, hI_p, hJ_p, hR_p, stI_p, stJ_p, stR_p, stA_p, va_rf_s, va_rf_n, clr_i, clr_l, clr_r, clr_n, clr_o, w8_0, w8_1i, w8_1r, w8_2ii, w8_2ri, w8_2ir, w8_2rr, w8_3, beq_self_eq_true, Bool.and_self, Bool.and_true, Bool.true_and, decide_true, Option.toList_some, Option.toList_none, List.cons_append, List.nil_append, Option.bind_some, if_true, if_false, Nat.reduceLeDiff, Nat.reduceLT, Nat.reduceBEq, Bool.or_false, Bool.false_or, Bool.or_true, Bool.true_or, nI_leI, nI_ltI, nI_eq, nI_clamp, inb_n, up_s, up_n, bx_uu, if_pos, if_neg, nI_1, ix6, nI_0n, pk_us, pk_un, ge_0n]
    · intro r g
      refine ⟨g, ?_⟩
      rw [xX4_measure_2]
      simp (disch := omega) only [xX4_measure_0, xX4_measure_1, xX4_measure_3, xX4_measure_4, xX4_measure_7, xX4_measure_10, xX4_measure_11, xX4_measure_13, xX4_measure_14, xX4_measure_17, xX4_measure_20, xX4_measure_21, xX4_measure_24, xX4_measure_25, xX4_measure_27, xX4_measure_28, xX4_measure_29, xX4_measure_30, xX4_measure_31, xX4_measure_32, xX4_measure_35, xX4_measure_36, xX4_measure_39, xX4_measure_40, xX4_measure_43, xX4_measure_44, xX4_measure_45, xX4_measure_46, xX4_measure_47, xX4_measure_48, xX4_measure_51, xX4_measure_52, xX4_measure_53, xX4_measure_56, xX4_measure_59, xX4_measure_62, mo_k0 hm, mo_f0_8 hm, mo_k4 hm, mo_n4 hm, mo_f0_15 hm, mo_k11 hm, mo_n11 hm, ↓reduceIte, gd_t, hK_p, hN_p, hF_p, hI_p, hJ_p, hR_p, stI_p, stJ_p, stR_p, stA_p, va_rf_s, va_rf_n, clr_i, clr_l, clr_r, clr_n, clr_o, w8_0, w8_1i, w8_1r, w8_2ii, w8_2ri, w8_2ir, w8_2rr, w8_3, beq_self_eq_true, Bool.and_self, Bool.and_true, Bool.true_and, decide_true, Option.toList_some, Option.toList_none, List.cons_append, List.nil_append, Option.bind_some, if_true, if_false, Nat.reduceLeDiff, Nat.reduceLT, Nat.reduceBEq, Bool.or_false, Bool.false_or, Bool.or_true, Bool.true_or, nI_leI, nI_ltI, nI_eq, nI_clamp, inb_n, up_s, up_n, bx_uu, if_pos, if_neg, nI_1, ix6, nI_0n, pk_us, pk_un, ge_0n, hn]
  obtain ⟨q, hq⟩ := hgo n 0 (I (m + 11)) none (by omega)
  rw [up_self] at hq
  rw [eX4_measure]
  simp only [xX4_measure_0, xX4_measure_1, clr_r]
  rw [← nI_0, hq]
  simp only [xX4_measure_65]
  rfl

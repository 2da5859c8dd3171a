-- MOTION, 7: take, go, leaveAlone
theorem for_ji {σ ι κ : Type} {P : Nat → σ → ι → Option Rs} {F : σ → κ → Option Rs} {f : Nat → σ → σ} {Inv : Nat → σ → Prop} {n : Nat} (hs : ∀ i s g, i < n → Inv i s → ∃ g', P i s g = P (i + 1) (f i s) g') (hk : ∀ i s, i < n → Inv i s → Inv (i + 1) (f i s)) (he : ∀ s g, Inv n s → ∃ q, P n s g = F s q) : ∀ k i s g, i + k = n → Inv i s → ∃ q, P i s g = F (itf f k i s) q
  | 0, i, s, g, h, hv => by
    obtain rfl : i = n := by omega
    exact he s g hv
  | k + 1, i, s, g, h, hv => by
    obtain ⟨g', e⟩ := hs i s g (by omega) hv
    rw [e]
    exact for_ji hs hk he k (i + 1) (f i s) g' (by omega) (hk i s (by omega) hv)
theorem advM_o {I : Mem} {m t n lenL lenG a : Nat} (h0 : a ≠ m) (h7 : a ≠ m + 7) (h8 : a ≠ m + 8) (h9 : a ≠ m + 9) (h10 : a ≠ m + 10) (h12 : a ≠ m + 12) : advM I m t n lenL lenG a = I a := by
  unfold advM
  rw [moM_o h0 h7 h8 h9 h10, up_n h12]
theorem advM_1 {I : Mem} {m t n lenL lenG : Nat} : advM I m t n lenL lenG m 1 = I m 1 := by
  unfold advM
  rw [moM_0, pk_un (by decide), pk_un (by decide)]
theorem advM_ok {I : Mem} {m t n lenL lenG : Nat} (hm : isMo m) (ht : isTe t) (hw : okL I t lenL lenG) : okL (advM I m t n lenL lenG) t lenL lenG := by
  have hm2 := mo_lo hm
  have ht2 := te_hi ht
  unfold okL at hw ⊢
  simp (disch := omega) only [advM_o]
  exact hw
/-- k steps -/
def goM (I : Mem) (m t n lenL lenG k : Nat) : Mem := itf (fun _ I => advM I m t n lenL lenG) k 0 I
theorem go_spec {d m t n lenL lenG k : Nat} {I : Mem} {J : MemL} {R : MemR} (hm : isMo m) (ht : isTe t) (hR : R m 0 = some t) (hn : I m 1 = nI n) (hn6 : n ≤ 6) (hw : okL I t lenL lenG) (hk : k < 2 ^ 31) :
    ∃ J', C (d + 5) MX4_go [.ref m, .int (nI k)] (hp I J R) = some (none, hp (goM I m t n lenL lenG k) J' R) := by
  obtain ⟨J', e⟩ := for_ji (P := fun i I (J : MemL) => E (C (d + 4)) MX4_go 2 [some (.ref m), some (.int (nI k)), some (.int (nI i))] [] (hp I J R)) (F := fun I (J : MemL) => E (C (d + 4)) MX4_go 17 [some (.ref m), some (.int (nI k)), some (.int (nI k))] [] (hp I J R)) (f := fun _ I => advM I m t n lenL lenG) (Inv := fun _ I => I m 1 = nI n ∧ okL I t lenL lenG) (n := k) (by
    intro i I J hi hv
    obtain ⟨J', e⟩ := adv_spec (d := d) (J := J) (R := R) hm ht hR hv.1 hn6 hv.2
    refine ⟨J', ?_⟩
    have c0 : ¬ k ≤ i := by omega
    rw [xX4_go_2]
    simp (disch := omega) only [xX4_go_3, xX4_go_4, xX4_go_7, xX4_go_8, xX4_go_11, xX4_go_14, mo_k0 hm, ↓reduceIte, gd_t, hK_p, hN_p, hF_p, hI_p, hJ_p, hR_p, stI_p, stJ_p, stR_p, stA_p, va_rf_s, va_rf_n, clr_i, clr_l, clr_r, clr_n, clr_o, w8_0, w8_1i, w8_1r, w8_2ii, w8_2ri, w8_2ir, w8_2rr, w8_3, beq_self_eq_true, Bool.and_self, Bool.and_true, Bool.true_and, decide_true, Option.toList_some, Option.toList_none, List.cons_append, List.nil_append, Option.bind_some, if_true, if_false, Nat.reduceLeDiff, Nat.reduceLT, Nat.reduceBEq, Bool.or_false, Bool.false_or, Bool.or_true, Bool.true_or, nI_leI, nI_ltI, nI_eq, nI_clamp, inb_n, up_s, up_n, bx_uu, nI_1, ix6, nI_0n, pk_us, pk_un, ge_0n, c0, e]) (fun i I _ hv => ⟨advM_1.trans hv.1, advM_ok hm ht hv.2⟩) (by
    intro I J hv
    refine ⟨J, ?_⟩
    have c0 : k ≤ k := Nat.le_refl k
    rw [xX4_go_2]
    simp (disch := omega) only [xX4_go_3, xX4_go_4, xX4_go_7, xX4_go_8, xX4_go_11, xX4_go_14, ↓reduceIte, gd_t, hK_p, hN_p, hF_p, hI_p, hJ_p, hR_p, stI_p, stJ_p, stR_p, stA_p, va_rf_s, va_rf_n, clr_i, clr_l, clr_r, clr_n, clr_o, w8_0, w8_1i, w8_1r, w8_2ii, w8_2ri, w8_2ir, w8_2rr, w8_3, beq_self_eq_true, Bool.and_self, Bool.and_true, Bool.true_and, decide_true, Option.toList_some, Option.toList_none, List.cons_append, List.nil_append, Option.bind_some, if_true, if_false, Nat.reduceLeDiff, Nat.reduceLT, Nat.reduceBEq, Bool.or_false, Bool.false_or, Bool.or_true, Bool.true_or, nI_leI, nI_ltI, nI_eq, nI_clamp, inb_n, up_s, up_n, bx_uu, nI_1, ix6, nI_0n, pk_us, pk_un, ge_0n, c0]) k 0 I J (by omega) ⟨hn, hw⟩
  refine ⟨J', ?_⟩
  rw [eX4_go]
  rw [nI_0] at e
  simp only [xX4_go_0, xX4_go_1, clr_i]
  rw [e]
  simp only [xX4_go_17]
  rfl
def aloF (n c : Nat) (st : Nat → Int32) : Nat → Int32 := itf (fun i r => if i = c then r else upd r i (-1)) n 0 st
theorem alo_spec {d m n c : Nat} {I : Mem} {J : MemL} {R : MemR} (hm : isMo m) (hn : I m 1 = nI n) (hn6 : n ≤ 6) (hc : c < 6) : C (d + 1) MX4_leaveAlone [.ref m, .int (nI c)] (hp I J R) = some (none, hp (va_up I (m + 6) (aloF n c (I (m + 6)))) J R) := by
  have hm2 := mo_lo hm
  have h := for_0 (P := fun i r => E (C d) MX4_leaveAlone 2 [some (.ref m), some (.int (nI c)), some (.int (nI i))] [] (hp (va_up I (m + 6) r) J R)) (f := fun i r => if i = c then r else upd r i (-1)) (fin := fun r => E (C d) MX4_leaveAlone 28 [some (.ref m), some (.int (nI c)), some (.int (nI n))] [] (hp (va_up I (m + 6) r) J R)) (n := n) (s := I (m + 6)) (by
    intro i r hi
    have c0 : ¬ n ≤ i := by omega
    rw [xX4_leaveAlone_2]
    by_cases z : i = c
    · subst z
      simp (disch := omega) only [xX4_leaveAlone_3, xX4_leaveAlone_4, xX4_leaveAlone_7, xX4_leaveAlone_10, xX4_leaveAlone_11, xX4_leaveAlone_12, xX4_leaveAlone_15, xX4_leaveAlone_16, xX4_leaveAlone_19, xX4_leaveAlone_20, xX4_leaveAlone_21, xX4_leaveAlone_22, xX4_leaveAlone_25, mo_k0 hm, mo_f0_10 hm, mo_k6 hm, mo_n6 hm, ↓reduceIte, gd_t, hK_p, hN_p, hF_p, hI_p, hJ_p, hR_p, stI_p, stJ_p, stR_p, stA_p, va_rf_s, va_rf_n, clr_i, clr_l, clr_r, clr_n, clr_o, w8_0, w8_1i, w8_1r, w8_2ii, w8_2ri, w8_2ir, w8_2rr, w8_3, beq_self_eq_true, Bool.and_self, Bool.and_true, Bool.true_and, decide_true, Option.toList_some, Option.toList_none, List.cons_append, List.nil_append, Option.bind_some, if_true, if_false, Nat.reduceLeDiff, Nat.reduceLT, Nat.reduceBEq, Bool.or_false, Bool.false_or, Bool.or_true, Bool.true_or, nI_leI, nI_ltI, nI_eq, nI_clamp, inb_n, up_s, up_n, bx_uu, nI_1, ix6, nI_0n, pk_us, pk_un, ge_0n, hn, c0]
    · simp (disch := omega) only [xX4_leaveAlone_3, xX4_leaveAlone_4, xX4_leaveAlone_7, xX4_leaveAlone_10, xX4_leaveAlone_11, xX4_leaveAlone_12, xX4_leaveAlone_15, xX4_leaveAlone_16, xX4_leaveAlone_19, xX4_leaveAlone_20, xX4_leaveAlone_21, xX4_leaveAlone_22, xX4_leaveAlone_25, mo_k0 hm, mo_f0_10 hm, mo_k6 hm, mo_n6 hm, ↓reduceIte, gd_t, hK_p, hN_p, hF_p, hI_p, hJ_p, hR_p, stI_p, stJ_p, stR_p, stA_p, va_rf_s, va_rf_n, clr_i, clr_l, clr_r, clr_n, clr_o, w8_0, w8_1i, w8_1r, w8_2ii, w8_2ri, w8_2ir, w8_2rr, w8_3, beq_self_eq_true, Bool.and_self, Bool.and_true, Bool.true_and, decide_true, Option.toList_some, Option.toList_none, List.cons_append, List.nil_append, Option.bind_some, if_true, if_false, Nat.reduceLeDiff, Nat.reduceLT, Nat.reduceBEq, Bool.or_false, Bool.false_or, Bool.or_true, Bool.true_or, nI_leI, nI_ltI, nI_eq, nI_clamp, inb_n, up_s, up_n, bx_uu, nI_1, ix6, nI_0n, pk_us, pk_un, ge_0n, hn, c0, z]) (by
    intro r
    have c0 : n ≤ n := Nat.le_refl n
    rw [xX4_leaveAlone_2]
    simp (disch := omega) only [xX4_leaveAlone_3, xX4_leaveAlone_4, xX4_leaveAlone_7, xX4_leaveAlone_10, xX4_leaveAlone_11, xX4_leaveAlone_12, xX4_leaveAlone_15, xX4_leaveAlone_16, xX4_leaveAlone_19, xX4_leaveAlone_20, xX4_leaveAlone_21, xX4_leaveAlone_22, xX4_leaveAlone_25, mo_k0 hm, mo_f0_10 hm, mo_k6 hm, mo_n6 hm, ↓reduceIte, gd_t, hK_p, hN_p, hF_p, hI_p, hJ_p, hR_p, stI_p, stJ_p, stR_p, stA_p, va_rf_s, va_rf_n, clr_i, clr_l, clr_r, clr_n, clr_o, w8_0, w8_1i, w8_1r, w8_2ii, w8_2ri, w8_2ir, w8_2rr, w8_3, beq_self_eq_true, Bool.and_self, Bool.and_true, Bool.true_and, decide_true, Option.toList_some, Option.toList_none, List.cons_append, List.nil_append, Option.bind_some, if_true, if_false, Nat.reduceLeDiff, Nat.reduceLT, Nat.reduceBEq, Bool.or_false, Bool.false_or, Bool.or_true, Bool.true_or, nI_leI, nI_ltI, nI_eq, nI_clamp, inb_n, up_s, up_n, bx_uu, nI_1, ix6, nI_0n, pk_us, pk_un, ge_0n, hn, c0])
  rw [up_self, nI_0] at h
  rw [eX4_leaveAlone]
  simp only [xX4_leaveAlone_0, xX4_leaveAlone_1, clr_i]
  rw [h]
  simp only [xX4_leaveAlone_28]
  rfl
/-- the memory behind take: m as f -/
def takM (I : Mem) (m f t n : Nat) : Mem := va_up (va_up (va_up (va_up (va_up (begM I m t (f + 2) (f + 3) n) m (upd (begM I m t (f + 2) (f + 3) n m) 2 (I f 2))) (m + 7) (cpF (I (f + 7)) (begM I m t (f + 2) (f + 3) n (m + 7)) 6)) (m + 8) (cpF (I (f + 8)) (begM I m t (f + 2) (f + 3) n (m + 8)) 6)) (m + 9) (cpF (I (f + 9)) (begM I m t (f + 2) (f + 3) n (m + 9)) 6)) (m + 10) (cpF (I (f + 10)) (begM I m t (f + 2) (f + 3) n (m + 10)) 6)
theorem begM_o {I : Mem} {m t b p n a : Nat} (h : a < m ∨ m + 12 ≤ a) : begM I m t b p n a = I a := by
  unfold begM begA
  simp (disch := omega) only [up_n]
theorem tak_spec {d m f t n : Nat} {I : Mem} {J : MemL} {R : MemR} (hm : isMo m) (hf : isMo f) (hne : m ≠ f) (ht : isTe t) (hR : R f 0 = some t) (hn : I (t + 5) 1 = nI n) (hn6 : n ≤ 6) :
    C (d + 5) MX4_take [.ref m, .ref f] (hp I J R) = some (none, hp (takM I m f t n) J (va_up R m (va_up (R m) 0 (some t)))) := by
  have hm2 := mo_lo hm
  have ht2 := te_hi ht
  have hmf : f + 14 ≤ m ∨ m + 14 ≤ f := by
    rcases hm with rfl | rfl | rfl <;> rcases hf with rfl | rfl | rfl <;> omega
  have hb := beg_spec (d := d) (I := I) (J := J) (R := R) (n := n) hm ht (mo_k2 hf) (mo_n2 hf) (mo_k3 hf) (mo_n3 hf) (show f + 2 < m ∨ m + 14 ≤ f + 2 by omega) (show f + 3 < m ∨ m + 14 ≤ f + 3 by omega) hn hn6
  rw [eX4_take]
  simp (disch := omega) only [xX4_take_0, xX4_take_1, xX4_take_2, xX4_take_5, xX4_take_6, xX4_take_9, xX4_take_10, xX4_take_13, xX4_take_16, xX4_take_17, xX4_take_18, xX4_take_21, xX4_take_24, xX4_take_25, xX4_take_28, xX4_take_29, xX4_take_32, xX4_take_35, xX4_take_36, xX4_take_39, xX4_take_40, xX4_take_43, xX4_take_46, xX4_take_47, xX4_take_50, xX4_take_51, xX4_take_54, xX4_take_57, xX4_take_58, xX4_take_61, xX4_take_62, xX4_take_65, xX4_take_68, mo_k0 hm, mo_f0_6 hm, mo_k2 hm, mo_n2 hm, mo_f0_7 hm, mo_k3 hm, mo_n3 hm, mo_f0_11 hm, mo_k7 hm, mo_n7 hm, mo_f0_12 hm, mo_k8 hm, mo_n8 hm, mo_f0_13 hm, mo_k9 hm, mo_n9 hm, mo_f0_14 hm, mo_k10 hm, mo_n10 hm, mo_k0 hf, mo_f0_6 hf, mo_k2 hf, mo_n2 hf, mo_f0_7 hf, mo_k3 hf, mo_n3 hf, mo_f0_11 hf, mo_k7 hf, mo_n7 hf, mo_f0_12 hf, mo_k8 hf, mo_n8 hf, mo_f0_13 hf, mo_k9 hf, mo_n9 hf, mo_f0_14 hf, mo_k10 hf, mo_n10 hf, ↓reduceIte, gd_t, hK_p, hN_p, hF_p, hI_p, hJ_p, hR_p, stI_p, stJ_p, stR_p, stA_p, va_rf_s, va_rf_n, clr_i, clr_l, clr_r, clr_n, clr_o, w8_0, w8_1i, w8_1r, w8_2ii, w8_2ri, w8_2ir, w8_2rr, w8_3, beq_self_eq_true, Bool.and_self, Bool.and_true, Bool.true_and, decide_true, Option.toList_some, Option.toList_none, List.cons_append, List.nil_append, Option.bind_some, if_true, if_false, Nat.reduceLeDiff, Nat.reduceLT, Nat.reduceBEq, Bool.or_false, Bool.false_or, Bool.or_true, Bool.true_or, nI_leI, nI_ltI, nI_eq, nI_clamp, inb_n, up_s, up_n, bx_uu, nI_1, ix6, nI_0n, pk_us, pk_un, ge_0n, hR, hb, begM_o, copy_spec (mo_k7 hf) (mo_k7 hm) (mo_n7 hf) (mo_n7 hm) (show 6 < 2 ^ 31 by omega), copy_spec (mo_k8 hf) (mo_k8 hm) (mo_n8 hf) (mo_n8 hm) (show 6 < 2 ^ 31 by omega), copy_spec (mo_k9 hf) (mo_k9 hm) (mo_n9 hf) (mo_n9 hm) (show 6 < 2 ^ 31 by omega), copy_spec (mo_k10 hf) (mo_k10 hm) (mo_n10 hf) (mo_n10 hm) (show 6 < 2 ^ 31 by omega), takM]

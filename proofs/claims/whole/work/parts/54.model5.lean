-- MODEL, 5: runs laid and gone
theorem itf2 {α β : Type} {f : Nat → α → α} {g : Nat → β → β} : ∀ (k i : Nat) (s : α × β), itf (fun i (s : α × β) => (f i s.1, g i s.2)) k i s = (itf f k i s.1, itf g k i s.2)
  | 0, _, _ => rfl
  | k + 1, i, s => by
    unfold itf
    exact itf2 k (i + 1) (f i s.1, g i s.2)
theorem itf4 {α β γ δ : Type} {f : Nat → α → α} {g : Nat → β → β} {h : Nat → γ → γ} {u : Nat → δ → δ} : ∀ (k i : Nat) (s : α × β × γ × δ), itf (fun i (s : α × β × γ × δ) => (f i s.1, g i s.2.1, h i s.2.2.1, u i s.2.2.2)) k i s = (itf f k i s.1, itf g k i s.2.1, itf h k i s.2.2.1, itf u k i s.2.2.2)
  | 0, _, _ => rfl
  | k + 1, i, s => by
    unfold itf
    exact itf4 k (i + 1) (f i s.1, g i s.2.1, h i s.2.2.1, u i s.2.2.2)
theorem itf_cp {v : Nat → Int32} {n : Nat} {r : Nat → Int32} : itf (fun i r => upd r i (v i)) n 0 r = cpF v r n := itf_fill r n
theorem itf_ze {n : Nat} {r : Nat → Int32} : itf (fun i r => upd r i 0) n 0 r = zerF r n := itf_fill (v := fun _ => 0) r n
def plaO (o : Nat → Int32) : Nat → Int32 := upd (upd (upd (upd (upd o 61 (o 16)) 62 1) 63 1) 64 (-1)) 65 63
def plaM (I : Mem) : Mem := va_up (va_up (va_up I 123 (plaO (I 123))) 157 (cpF (I 133) (I 157) 6)) 158 (cpF (I 137) (I 158) 6)
theorem pla_spec {d : Nat} {I : Mem} {J : MemL} {R : MemR} : C (d + 1) MX12_plainRun [.ref 123] (hp I J R) = some (none, hp (plaM I) J R) := by
  have h := for_0 (P := fun i (s : (Nat → Int32) × (Nat → Int32)) => E (C d) MX12_plainRun 31 [some (.ref 123), some (.int (nI i))] [] (hp (va_up (va_up (va_up I 123 (plaO (I 123))) 157 s.1) 158 s.2) J R)) (f := fun i s => (upd s.1 i (I 133 i), upd s.2 i (I 137 i))) (fin := fun s => E (C d) MX12_plainRun 67 [some (.ref 123), some (.int (nI 6))] [] (hp (va_up (va_up (va_up I 123 (plaO (I 123))) 157 s.1) 158 s.2) J R)) (n := 6) (s := (I 157, I 158)) (by
    intro i s hi
    have c0 : ¬ (6 : Int32) ≤ nI i := nI_ge (b := 6) hi (by omega)
    rw [xX12_plainRun_31]
    simp (disch := omega) only [xX12_plainRun_32, xX12_plainRun_34, xX12_plainRun_37, xX12_plainRun_38, xX12_plainRun_41, xX12_plainRun_42, xX12_plainRun_43, xX12_plainRun_46, xX12_plainRun_47, xX12_plainRun_48, xX12_plainRun_49, xX12_plainRun_50, xX12_plainRun_53, xX12_plainRun_54, xX12_plainRun_55, xX12_plainRun_58, xX12_plainRun_59, xX12_plainRun_60, xX12_plainRun_61, xX12_plainRun_64, kd_123, fi_123_30, kd_133, ln_133, fi_123_34, kd_137, ln_137, fi_123_66, kd_157, ln_157, fi_123_67, kd_158, ln_158, ↓reduceIte, gd_t, hK_p, hN_p, hF_p, hI_p, hJ_p, hR_p, stI_p, stJ_p, stR_p, stA_p, va_rf_s, va_rf_n, clr_i, clr_l, clr_r, clr_n, clr_o, w8_0, w8_1i, w8_1r, w8_2ii, w8_2ri, w8_2ir, w8_2rr, w8_3, beq_self_eq_true, Bool.and_self, Bool.and_true, Bool.true_and, decide_true, Option.toList_some, Option.toList_none, List.cons_append, List.nil_append, Option.bind_some, if_true, if_false, Nat.reduceLeDiff, Nat.reduceLT, Nat.reduceBEq, Bool.or_false, Bool.false_or, Bool.or_true, Bool.true_or, nI_leI, nI_ltI, nI_eq, nI_clamp, inb_n, up_s, up_n, bx_uu, nI_1, ix6, nI_0n, pk_us, pk_un, ge_0n, c0, up_31]) (by
    intro s
    have c0 : (6 : Int32) ≤ nI 6 := by decide
    rw [xX12_plainRun_31]
    simp (disch := omega) only [xX12_plainRun_32, xX12_plainRun_34, xX12_plainRun_37, xX12_plainRun_38, xX12_plainRun_41, xX12_plainRun_42, xX12_plainRun_43, xX12_plainRun_46, xX12_plainRun_47, xX12_plainRun_48, xX12_plainRun_49, xX12_plainRun_50, xX12_plainRun_53, xX12_plainRun_54, xX12_plainRun_55, xX12_plainRun_58, xX12_plainRun_59, xX12_plainRun_60, xX12_plainRun_61, xX12_plainRun_64, kd_123, fi_123_30, kd_133, ln_133, fi_123_34, kd_137, ln_137, fi_123_66, kd_157, ln_157, fi_123_67, kd_158, ln_158, ↓reduceIte, gd_t, hK_p, hN_p, hF_p, hI_p, hJ_p, hR_p, stI_p, stJ_p, stR_p, stA_p, va_rf_s, va_rf_n, clr_i, clr_l, clr_r, clr_n, clr_o, w8_0, w8_1i, w8_1r, w8_2ii, w8_2ri, w8_2ir, w8_2rr, w8_3, beq_self_eq_true, Bool.and_self, Bool.and_true, Bool.true_and, decide_true, Option.toList_some, Option.toList_none, List.cons_append, List.nil_append, Option.bind_some, if_true, if_false, Nat.reduceLeDiff, Nat.reduceLT, Nat.reduceBEq, Bool.or_false, Bool.false_or, Bool.or_true, Bool.true_or, nI_leI, nI_ltI, nI_eq, nI_clamp, inb_n, up_s, up_n, bx_uu, nI_1, ix6, nI_0n, pk_us, pk_un, ge_0n, c0])
  rw [itf2 (f := fun i r => upd r i (I 133 i)) (g := fun i r => upd r i (I 137 i)), itf_cp, itf_cp] at h
  have hs : va_up (va_up (va_up I 123 (plaO (I 123))) 157 (I 157)) 158 (I 158) = va_up I 123 (plaO (I 123)) := by
    funext a
    by_cases h1 : a = 158
    · subst h1
      rw [up_s, up_n (by decide)]
    · rw [up_n h1]
      by_cases h2 : a = 157
      · subst h2
        rw [up_s, up_n (by decide)]
      · rw [up_n h2]
  dsimp only at h
  rw [hs, nI_0] at h
  unfold plaO at h
  rw [eX12_plainRun]
  simp (disch := omega) only [xX12_plainRun_0, xX12_plainRun_1, xX12_plainRun_2, xX12_plainRun_5, xX12_plainRun_8, xX12_plainRun_9, xX12_plainRun_10, xX12_plainRun_13, xX12_plainRun_14, xX12_plainRun_15, xX12_plainRun_18, xX12_plainRun_19, xX12_plainRun_20, xX12_plainRun_23, xX12_plainRun_24, xX12_plainRun_26, xX12_plainRun_29, xX12_plainRun_30, kd_123, fi_123_30, kd_133, ln_133, fi_123_34, kd_137, ln_137, fi_123_66, kd_157, ln_157, fi_123_67, kd_158, ln_158, ↓reduceIte, gd_t, hK_p, hN_p, hF_p, hI_p, hJ_p, hR_p, stI_p, stJ_p, stR_p, stA_p, va_rf_s, va_rf_n, clr_i, clr_l, clr_r, clr_n, clr_o, w8_0, w8_1i, w8_1r, w8_2ii, w8_2ri, w8_2ir, w8_2rr, w8_3, beq_self_eq_true, Bool.and_self, Bool.and_true, Bool.true_and, decide_true, Option.toList_some, Option.toList_none, List.cons_append, List.nil_append, Option.bind_some, if_true, if_false, Nat.reduceLeDiff, Nat.reduceLT, Nat.reduceBEq, Bool.or_false, Bool.false_or, Bool.or_true, Bool.true_or, nI_leI, nI_ltI, nI_eq, nI_clamp, inb_n, up_s, up_n, bx_uu, nI_1, ix6, nI_0n, pk_us, pk_un, ge_0n, z11]
  rw [h]
  simp only [xX12_plainRun_67]
  rfl
def bgnM (I : Mem) (at1 n : Nat) : Mem := mdM I (I 123) (pt at1 (I 153) (cpF (I 134) (shR at1 (I 153)) n)) (pt at1 (I 154) (cpF (I 136) (shR at1 (I 154)) n)) (pt at1 (I 155) (zerF (shR at1 (I 155)) n)) (pt at1 (I 156) (zerF (shR at1 (I 156)) n))
theorem mdM_self {I : Mem} : mdM I (I 123) (I 153) (I 154) (I 155) (I 156) = I := by
  funext a
  unfold mdM
  repeat' split
  all_goals first | rfl | (subst_vars; rfl)
theorem bgn_spec {d at1 n : Nat} {I : Mem} {J : MemL} {R : MemR} (ha : at1 ≤ 6) (hn : I 123 13 = nI n) (hn6 : n ≤ 6) : C (d + 1) MX12_begins [.ref 123, .int (nI at1)] (hp I J R) = some (none, hp (bgnM I at1 n) J R) := by
  have h := for_0 (P := fun i (s : (Nat → Int32) × (Nat → Int32) × (Nat → Int32) × (Nat → Int32)) => E (C d) MX12_begins 2 [some (.ref 123), some (.int (nI at1)), some (.int (nI i))] [] (hp (mdM I (I 123) (pt at1 (I 153) s.1) (pt at1 (I 154) s.2.1) (pt at1 (I 155) s.2.2.1) (pt at1 (I 156) s.2.2.2)) J R)) (f := fun i s => (upd s.1 i (I 134 i), upd s.2.1 i (I 136 i), upd s.2.2.1 i 0, upd s.2.2.2 i 0)) (fin := fun s => E (C d) MX12_begins 62 [some (.ref 123), some (.int (nI at1)), some (.int (nI n))] [] (hp (mdM I (I 123) (pt at1 (I 153) s.1) (pt at1 (I 154) s.2.1) (pt at1 (I 155) s.2.2.1) (pt at1 (I 156) s.2.2.2)) J R)) (n := n) (s := (shR at1 (I 153), shR at1 (I 154), shR at1 (I 155), shR at1 (I 156))) (by
    intro i s hi
    have c0 : ¬ n ≤ i := by omega
    rw [xX12_begins_2]
    simp (disch := omega) only [xX12_begins_3, xX12_begins_4, xX12_begins_7, xX12_begins_10, xX12_begins_11, xX12_begins_14, xX12_begins_15, xX12_begins_16, xX12_begins_17, xX12_begins_18, xX12_begins_21, xX12_begins_22, xX12_begins_23, xX12_begins_24, xX12_begins_25, xX12_begins_28, xX12_begins_29, xX12_begins_30, xX12_begins_31, xX12_begins_32, xX12_begins_35, xX12_begins_36, xX12_begins_37, xX12_begins_38, xX12_begins_39, xX12_begins_42, xX12_begins_43, xX12_begins_44, xX12_begins_45, xX12_begins_46, xX12_begins_47, xX12_begins_48, xX12_begins_51, xX12_begins_52, xX12_begins_53, xX12_begins_54, xX12_begins_55, xX12_begins_56, xX12_begins_59, kd_123, fi_123_31, kd_134, ln_134, fi_123_33, kd_136, ln_136, fi_123_57, kd_153, ln_153, fi_123_58, kd_154, ln_154, fi_123_59, kd_155, ln_155, fi_123_60, kd_156, ln_156, ↓reduceIte, gd_t, hK_p, hN_p, hF_p, hI_p, hJ_p, hR_p, stI_p, stJ_p, stR_p, stA_p, va_rf_s, va_rf_n, clr_i, clr_l, clr_r, clr_n, clr_o, w8_0, w8_1i, w8_1r, w8_2ii, w8_2ri, w8_2ir, w8_2rr, w8_3, beq_self_eq_true, Bool.and_self, Bool.and_true, Bool.true_and, decide_true, Option.toList_some, Option.toList_none, List.cons_append, List.nil_append, Option.bind_some, if_true, if_false, Nat.reduceLeDiff, Nat.reduceLT, Nat.reduceBEq, Bool.or_false, Bool.false_or, Bool.or_true, Bool.true_or, nI_leI, nI_ltI, nI_eq, nI_clamp, inb_n, up_s, up_n, bx_uu, nI_1, ix6, nI_0n, pk_us, pk_un, ge_0n, mdM_0, mdM_1, mdM_2, mdM_3, mdM_4, mdM_o, mdM_w1, mdM_w2, mdM_w3, mdM_w4, pt_up, nI_add, hn, c0]) (by
    intro s
    have c0 : n ≤ n := Nat.le_refl n
    rw [xX12_begins_2]
    simp (disch := omega) only [xX12_begins_3, xX12_begins_4, xX12_begins_7, xX12_begins_10, xX12_begins_11, xX12_begins_14, xX12_begins_15, xX12_begins_16, xX12_begins_17, xX12_begins_18, xX12_begins_21, xX12_begins_22, xX12_begins_23, xX12_begins_24, xX12_begins_25, xX12_begins_28, xX12_begins_29, xX12_begins_30, xX12_begins_31, xX12_begins_32, xX12_begins_35, xX12_begins_36, xX12_begins_37, xX12_begins_38, xX12_begins_39, xX12_begins_42, xX12_begins_43, xX12_begins_44, xX12_begins_45, xX12_begins_46, xX12_begins_47, xX12_begins_48, xX12_begins_51, xX12_begins_52, xX12_begins_53, xX12_begins_54, xX12_begins_55, xX12_begins_56, xX12_begins_59, kd_123, fi_123_31, kd_134, ln_134, fi_123_33, kd_136, ln_136, fi_123_57, kd_153, ln_153, fi_123_58, kd_154, ln_154, fi_123_59, kd_155, ln_155, fi_123_60, kd_156, ln_156, ↓reduceIte, gd_t, hK_p, hN_p, hF_p, hI_p, hJ_p, hR_p, stI_p, stJ_p, stR_p, stA_p, va_rf_s, va_rf_n, clr_i, clr_l, clr_r, clr_n, clr_o, w8_0, w8_1i, w8_1r, w8_2ii, w8_2ri, w8_2ir, w8_2rr, w8_3, beq_self_eq_true, Bool.and_self, Bool.and_true, Bool.true_and, decide_true, Option.toList_some, Option.toList_none, List.cons_append, List.nil_append, Option.bind_some, if_true, if_false, Nat.reduceLeDiff, Nat.reduceLT, Nat.reduceBEq, Bool.or_false, Bool.false_or, Bool.or_true, Bool.true_or, nI_leI, nI_ltI, nI_eq, nI_clamp, inb_n, up_s, up_n, bx_uu, nI_1, ix6, nI_0n, pk_us, pk_un, ge_0n, mdM_0, hn, c0])
  rw [itf4 (f := fun i r => upd r i (I 134 i)) (g := fun i r => upd r i (I 136 i)) (h := fun i r => upd r i 0) (u := fun i r => upd r i 0), itf_cp, itf_cp, itf_ze, itf_ze] at h
  dsimp only at h
  rw [pt_sh, pt_sh, pt_sh, pt_sh, mdM_self, nI_0] at h
  rw [eX12_begins]
  simp only [xX12_begins_0, xX12_begins_1, clr_i]
  rw [h]
  simp only [xX12_begins_62]
  rfl
/-- all hung as they are now, for a run -/
def hunM (I : Mem) (n : Nat) : Mem := va_up (va_up I 151 (pt 6 (I 151) (cpF (I 151) (shR 6 (I 151)) n))) 152 (pt 6 (I 152) (cpF (I 152) (shR 6 (I 152)) n))
theorem pt_lo {at1 c : Nat} {r f : Nat → Int32} (h : c < at1) : pt at1 r f c = r c := by
  unfold pt
  rw [if_neg (by omega)]
theorem brn_spec {d n : Nat} {I : Mem} {J : MemL} {R : MemR} (hn : I 123 13 = nI n) (hn6 : n ≤ 6) : C (d + 2) MX12_beginsRun [.ref 123] (hp I J R) = some (none, hp (bgnM (hunM I n) 6 n) J R) := by
  have h := for_0 (P := fun i (s : (Nat → Int32) × (Nat → Int32)) => E (C (d + 1)) MX12_beginsRun 2 [some (.ref 123), some (.int (nI i))] [] (hp (va_up (va_up I 151 (pt 6 (I 151) s.1)) 152 (pt 6 (I 152) s.2)) J R)) (f := fun i s => (upd s.1 i (I 151 i), upd s.2 i (I 152 i))) (fin := fun s => E (C (d + 1)) MX12_beginsRun 46 [some (.ref 123), some (.int (nI n))] [] (hp (va_up (va_up I 151 (pt 6 (I 151) s.1)) 152 (pt 6 (I 152) s.2)) J R)) (n := n) (s := (shR 6 (I 151), shR 6 (I 152))) (by
    intro i s hi
    have c0 : ¬ n ≤ i := by omega
    have e6 : (6 : Int32) + nI i = nI (6 + i) := by rw [show (6 : Int32) = nI 6 from rfl, nI_add]
    rw [xX12_beginsRun_2]
    simp (disch := omega) only [xX12_beginsRun_3, xX12_beginsRun_4, xX12_beginsRun_7, xX12_beginsRun_10, xX12_beginsRun_11, xX12_beginsRun_14, xX12_beginsRun_16, xX12_beginsRun_17, xX12_beginsRun_18, xX12_beginsRun_19, xX12_beginsRun_22, xX12_beginsRun_23, xX12_beginsRun_24, xX12_beginsRun_25, xX12_beginsRun_26, xX12_beginsRun_29, xX12_beginsRun_31, xX12_beginsRun_32, xX12_beginsRun_33, xX12_beginsRun_34, xX12_beginsRun_37, xX12_beginsRun_38, xX12_beginsRun_39, xX12_beginsRun_40, xX12_beginsRun_43, kd_123, fi_123_55, kd_151, ln_151, fi_123_56, kd_152, ln_152, ↓reduceIte, gd_t, hK_p, hN_p, hF_p, hI_p, hJ_p, hR_p, stI_p, stJ_p, stR_p, stA_p, va_rf_s, va_rf_n, clr_i, clr_l, clr_r, clr_n, clr_o, w8_0, w8_1i, w8_1r, w8_2ii, w8_2ri, w8_2ir, w8_2rr, w8_3, beq_self_eq_true, Bool.and_self, Bool.and_true, Bool.true_and, decide_true, Option.toList_some, Option.toList_none, List.cons_append, List.nil_append, Option.bind_some, if_true, if_false, Nat.reduceLeDiff, Nat.reduceLT, Nat.reduceBEq, Bool.or_false, Bool.false_or, Bool.or_true, Bool.true_or, nI_leI, nI_ltI, nI_eq, nI_clamp, inb_n, up_s, up_n, bx_uu, nI_1, ix6, nI_0n, pk_us, pk_un, ge_0n, up_31, pt_up, pt_lo, e6, hn, c0]) (by
    intro s
    have c0 : n ≤ n := Nat.le_refl n
    rw [xX12_beginsRun_2]
    simp (disch := omega) only [xX12_beginsRun_3, xX12_beginsRun_4, xX12_beginsRun_7, xX12_beginsRun_10, xX12_beginsRun_11, xX12_beginsRun_14, xX12_beginsRun_16, xX12_beginsRun_17, xX12_beginsRun_18, xX12_beginsRun_19, xX12_beginsRun_22, xX12_beginsRun_23, xX12_beginsRun_24, xX12_beginsRun_25, xX12_beginsRun_26, xX12_beginsRun_29, xX12_beginsRun_31, xX12_beginsRun_32, xX12_beginsRun_33, xX12_beginsRun_34, xX12_beginsRun_37, xX12_beginsRun_38, xX12_beginsRun_39, xX12_beginsRun_40, xX12_beginsRun_43, kd_123, fi_123_55, kd_151, ln_151, fi_123_56, kd_152, ln_152, ↓reduceIte, gd_t, hK_p, hN_p, hF_p, hI_p, hJ_p, hR_p, stI_p, stJ_p, stR_p, stA_p, va_rf_s, va_rf_n, clr_i, clr_l, clr_r, clr_n, clr_o, w8_0, w8_1i, w8_1r, w8_2ii, w8_2ri, w8_2ir, w8_2rr, w8_3, beq_self_eq_true, Bool.and_self, Bool.and_true, Bool.true_and, decide_true, Option.toList_some, Option.toList_none, List.cons_append, List.nil_append, Option.bind_some, if_true, if_false, Nat.reduceLeDiff, Nat.reduceLT, Nat.reduceBEq, Bool.or_false, Bool.false_or, Bool.or_true, Bool.true_or, nI_leI, nI_ltI, nI_eq, nI_clamp, inb_n, up_s, up_n, bx_uu, nI_1, ix6, nI_0n, pk_us, pk_un, ge_0n, hn, c0])
  rw [itf2 (f := fun i r => upd r i (I 151 i)) (g := fun i r => upd r i (I 152 i)), itf_cp, itf_cp] at h
  dsimp only at h
  rw [pt_sh, pt_sh, up_self, up_self, nI_0] at h
  have hb := bgn_spec (d := d) (at1 := 6) (I := hunM I n) (J := J) (R := R) (by omega) (by unfold hunM; simp (disch := omega) only [up_n]; exact hn) hn6
  rw [eX12_beginsRun]
  simp only [xX12_beginsRun_0, xX12_beginsRun_1, clr_r]
  rw [h]
  have e6 : nI 6 = 6 := rfl
  rw [e6] at hb
  have hu : va_up (va_up I 151 (pt 6 (I 151) (cpF (I 151) (shR 6 (I 151)) n))) 152 (pt 6 (I 152) (cpF (I 152) (shR 6 (I 152)) n)) = hunM I n := rfl
  simp (disch := omega) only [xX12_beginsRun_46, xX12_beginsRun_47, xX12_beginsRun_49, xX12_beginsRun_52, kd_123, fi_123_55, kd_151, ln_151, fi_123_56, kd_152, ln_152, ↓reduceIte, gd_t, hK_p, hN_p, hF_p, hI_p, hJ_p, hR_p, stI_p, stJ_p, stR_p, stA_p, va_rf_s, va_rf_n, clr_i, clr_l, clr_r, clr_n, clr_o, w8_0, w8_1i, w8_1r, w8_2ii, w8_2ri, w8_2ir, w8_2rr, w8_3, beq_self_eq_true, Bool.and_self, Bool.and_true, Bool.true_and, decide_true, Option.toList_some, Option.toList_none, List.cons_append, List.nil_append, Option.bind_some, if_true, if_false, Nat.reduceLeDiff, Nat.reduceLT, Nat.reduceBEq, Bool.or_false, Bool.false_or, Bool.or_true, Bool.true_or, hu, hb]

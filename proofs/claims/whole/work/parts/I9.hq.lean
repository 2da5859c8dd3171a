-- THE HEAP BEFORE the law's long[1] is made
def kdq (a : Nat) : Nat := if a = 171 then 99 else kd0 a
def Gq : Hs := (true, 171, 64802, kdq, ln0, fi0)
def hq (I : Mem) (J : MemL) (R : MemR) : Hp := (Gq, I, J, R)
theorem hK_q {I : Mem} {J : MemL} {R : MemR} {a : Nat} (h : ¬ a = 171) : hK (hq I J R) a = kd0 a := if_neg h
theorem hN_q {I : Mem} {J : MemL} {R : MemR} : hN (hq I J R) = ln0 := rfl
theorem hF_q {I : Mem} {J : MemL} {R : MemR} : hF (hq I J R) = fi0 := rfl
theorem hI_q {I : Mem} {J : MemL} {R : MemR} : hI (hq I J R) = I := rfl
theorem hJ_q {I : Mem} {J : MemL} {R : MemR} : hJ (hq I J R) = J := rfl
theorem hR_q {I : Mem} {J : MemL} {R : MemR} : hR (hq I J R) = R := rfl
theorem stI_q {I : Mem} {J : MemL} {R : MemR} {a k : Nat} {v : Int32} : stI (hq I J R) a k v = hq (va_up I a (upd (I a) k v)) J R := rfl
theorem stA_q {I : Mem} {J : MemL} {R : MemR} {a : Nat} {f : Nat → Int32} : stA (hq I J R) a f = hq (va_up I a f) J R := rfl
theorem stJ_q {I : Mem} {J : MemL} {R : MemR} {a k : Nat} {v : Int64} : stJ (hq I J R) a k v = hq I (va_up J a (vp_updL (J a) k v)) R := rfl
theorem stR_q {I : Mem} {J : MemL} {R : MemR} {a k : Nat} {v : Option Nat} : stR (hq I J R) a k v = hq I J (va_up R a (va_up (R a) k v)) := rfl
section HQ
theorem pla_spec_q {d : Nat} {I : Mem} {J : MemL} {R : MemR} : C (d + 1) MX12_plainRun [.ref 123] (hq I J R) = some (none, hq (plaM I) J R) := by
  have h := for_0 (P := fun i (s : (Nat → Int32) × (Nat → Int32)) => E (C d) MX12_plainRun 31 [some (.ref 123), some (.int (nI i))] [] (hq (va_up (va_up (va_up I 123 (plaO (I 123))) 157 s.1) 158 s.2) J R)) (f := fun i s => (upd s.1 i (I 133 i), upd s.2 i (I 137 i))) (fin := fun s => E (C d) MX12_plainRun 67 [some (.ref 123), some (.int (nI 6))] [] (hq (va_up (va_up (va_up I 123 (plaO (I 123))) 157 s.1) 158 s.2) J R)) (n := 6) (s := (I 157, I 158)) (by
    intro i s hi
    have c0 : ¬ (6 : Int32) ≤ nI i := nI_ge (b := 6) hi (by omega)
    rw [xX12_plainRun_31]
    simp (disch := omega) only [xX12_plainRun_32, xX12_plainRun_34, xX12_plainRun_37, xX12_plainRun_38, xX12_plainRun_41, xX12_plainRun_42, xX12_plainRun_43, xX12_plainRun_46, xX12_plainRun_47, xX12_plainRun_48, xX12_plainRun_49, xX12_plainRun_50, xX12_plainRun_53, xX12_plainRun_54, xX12_plainRun_55, xX12_plainRun_58, xX12_plainRun_59, xX12_plainRun_60, xX12_plainRun_61, xX12_plainRun_64, kd_123, fi_123_30, kd_133, ln_133, fi_123_34, kd_137, ln_137, fi_123_66, kd_157, ln_157, fi_123_67, kd_158, ln_158, ↓reduceIte, gd_t, hK_q, hN_q, hF_q, hI_q, hJ_q, hR_q, stI_q, stJ_q, stR_q, stA_q, va_rf_s, va_rf_n, clr_i, clr_l, clr_r, clr_n, clr_o, w8_0, w8_1i, w8_1r, w8_2ii, w8_2ri, w8_2ir, w8_2rr, w8_3, beq_self_eq_true, Bool.and_self, Bool.and_true, Bool.true_and, decide_true, Option.toList_some, Option.toList_none, List.cons_append, List.nil_append, Option.bind_some, if_true, if_false, Nat.reduceLeDiff, Nat.reduceLT, Nat.reduceBEq, Bool.or_false, Bool.false_or, Bool.or_true, Bool.true_or, nI_leI, nI_ltI, nI_eq, nI_clamp, inb_n, up_s, up_n, bx_uu, nI_1, ix6, nI_0n, pk_us, pk_un, ge_0n, c0, up_31]) (by
    intro s
    have c0 : (6 : Int32) ≤ nI 6 := by decide
    rw [xX12_plainRun_31]
    simp (disch := omega) only [xX12_plainRun_32, xX12_plainRun_34, xX12_plainRun_37, xX12_plainRun_38, xX12_plainRun_41, xX12_plainRun_42, xX12_plainRun_43, xX12_plainRun_46, xX12_plainRun_47, xX12_plainRun_48, xX12_plainRun_49, xX12_plainRun_50, xX12_plainRun_53, xX12_plainRun_54, xX12_plainRun_55, xX12_plainRun_58, xX12_plainRun_59, xX12_plainRun_60, xX12_plainRun_61, xX12_plainRun_64, kd_123, fi_123_30, kd_133, ln_133, fi_123_34, kd_137, ln_137, fi_123_66, kd_157, ln_157, fi_123_67, kd_158, ln_158, ↓reduceIte, gd_t, hK_q, hN_q, hF_q, hI_q, hJ_q, hR_q, stI_q, stJ_q, stR_q, stA_q, va_rf_s, va_rf_n, clr_i, clr_l, clr_r, clr_n, clr_o, w8_0, w8_1i, w8_1r, w8_2ii, w8_2ri, w8_2ir, w8_2rr, w8_3, beq_self_eq_true, Bool.and_self, Bool.and_true, Bool.true_and, decide_true, Option.toList_some, Option.toList_none, List.cons_append, List.nil_append, Option.bind_some, if_true, if_false, Nat.reduceLeDiff, Nat.reduceLT, Nat.reduceBEq, Bool.or_false, Bool.false_or, Bool.or_true, Bool.true_or, nI_leI, nI_ltI, nI_eq, nI_clamp, inb_n, up_s, up_n, bx_uu, nI_1, ix6, nI_0n, pk_us, pk_un, ge_0n, c0])
  rw [itf2 (f := fun i r => upd r i (I 133 i)) (g := fun i r => upd r i (I 137 i)), itf_cp, itf_cp] at h
  have hs : va_up (va_up (va_up I 123 (plaO (I 123))) 157 (I 157)) 158 (I 158) = va_up I 123 (plaO (I 123)) := by
    funext a
    by_cases h1 : a = 158
    · subst h1
      rw [up_s, up_n (by decide)]
    · rw [up_n h1]
      by_cases h2 : a = 157
      · subst h2
        rw [up_s, up_n (by decide)]
      · rw [up_n h2]
  dsimp only at h
  rw [hs, nI_0] at h
  unfold plaO at h
  rw [eX12_plainRun]
  simp (disch := omega) only [xX12_plainRun_0, xX12_plainRun_1, xX12_plainRun_2, xX12_plainRun_5, xX12_plainRun_8, xX12_plainRun_9, xX12_plainRun_10, xX12_plainRun_13, xX12_plainRun_14, xX12_plainRun_15, xX12_plainRun_18, xX12_plainRun_19, xX12_plainRun_20, xX12_plainRun_23, xX12_plainRun_24, xX12_plainRun_26, xX12_plainRun_29, xX12_plainRun_30, kd_123, fi_123_30, kd_133, ln_133, fi_123_34, kd_137, ln_137, fi_123_66, kd_157, ln_157, fi_123_67, kd_158, ln_158, ↓reduceIte, gd_t, hK_q, hN_q, hF_q, hI_q, hJ_q, hR_q, stI_q, stJ_q, stR_q, stA_q, va_rf_s, va_rf_n, clr_i, clr_l, clr_r, clr_n, clr_o, w8_0, w8_1i, w8_1r, w8_2ii, w8_2ri, w8_2ir, w8_2rr, w8_3, beq_self_eq_true, Bool.and_self, Bool.and_true, Bool.true_and, decide_true, Option.toList_some, Option.toList_none, List.cons_append, List.nil_append, Option.bind_some, if_true, if_false, Nat.reduceLeDiff, Nat.reduceLT, Nat.reduceBEq, Bool.or_false, Bool.false_or, Bool.or_true, Bool.true_or, nI_leI, nI_ltI, nI_eq, nI_clamp, inb_n, up_s, up_n, bx_uu, nI_1, ix6, nI_0n, pk_us, pk_un, ge_0n, z11]
  rw [h]
  simp only [xX12_plainRun_67]
  rfl
end HQ
section HQ
theorem bgn_spec_q {d at1 n : Nat} {I : Mem} {J : MemL} {R : MemR} (ha : at1 ≤ 6) (hn : I 123 13 = nI n) (hn6 : n ≤ 6) : C (d + 1) MX12_begins [.ref 123, .int (nI at1)] (hq I J R) = some (none, hq (bgnM I at1 n) J R) := by
  have h := for_0 (P := fun i (s : (Nat → Int32) × (Nat → Int32) × (Nat → Int32) × (Nat → Int32)) => E (C d) MX12_begins 2 [some (.ref 123), some (.int (nI at1)), some (.int (nI i))] [] (hq (mdM I (I 123) (pt at1 (I 153) s.1) (pt at1 (I 154) s.2.1) (pt at1 (I 155) s.2.2.1) (pt at1 (I 156) s.2.2.2)) J R)) (f := fun i s => (upd s.1 i (I 134 i), upd s.2.1 i (I 136 i), upd s.2.2.1 i 0, upd s.2.2.2 i 0)) (fin := fun s => E (C d) MX12_begins 62 [some (.ref 123), some (.int (nI at1)), some (.int (nI n))] [] (hq (mdM I (I 123) (pt at1 (I 153) s.1) (pt at1 (I 154) s.2.1) (pt at1 (I 155) s.2.2.1) (pt at1 (I 156) s.2.2.2)) J R)) (n := n) (s := (shR at1 (I 153), shR at1 (I 154), shR at1 (I 155), shR at1 (I 156))) (by
    intro i s hi
    have c0 : ¬ n ≤ i := by omega
    rw [xX12_begins_2]
    simp (disch := omega) only [xX12_begins_3, xX12_begins_4, xX12_begins_7, xX12_begins_10, xX12_begins_11, xX12_begins_14, xX12_begins_15, xX12_begins_16, xX12_begins_17, xX12_begins_18, xX12_begins_21, xX12_begins_22, xX12_begins_23, xX12_begins_24, xX12_begins_25, xX12_begins_28, xX12_begins_29, xX12_begins_30, xX12_begins_31, xX12_begins_32, xX12_begins_35, xX12_begins_36, xX12_begins_37, xX12_begins_38, xX12_begins_39, xX12_begins_42, xX12_begins_43, xX12_begins_44, xX12_begins_45, xX12_begins_46, xX12_begins_47, xX12_begins_48, xX12_begins_51, xX12_begins_52, xX12_begins_53, xX12_begins_54, xX12_begins_55, xX12_begins_56, xX12_begins_59, kd_123, fi_123_31, kd_134, ln_134, fi_123_33, kd_136, ln_136, fi_123_57, kd_153, ln_153, fi_123_58, kd_154, ln_154, fi_123_59, kd_155, ln_155, fi_123_60, kd_156, ln_156, ↓reduceIte, gd_t, hK_q, hN_q, hF_q, hI_q, hJ_q, hR_q, stI_q, stJ_q, stR_q, stA_q, va_rf_s, va_rf_n, clr_i, clr_l, clr_r, clr_n, clr_o, w8_0, w8_1i, w8_1r, w8_2ii, w8_2ri, w8_2ir, w8_2rr, w8_3, beq_self_eq_true, Bool.and_self, Bool.and_true, Bool.true_and, decide_true, Option.toList_some, Option.toList_none, List.cons_append, List.nil_append, Option.bind_some, if_true, if_false, Nat.reduceLeDiff, Nat.reduceLT, Nat.reduceBEq, Bool.or_false, Bool.false_or, Bool.or_true, Bool.true_or, nI_leI, nI_ltI, nI_eq, nI_clamp, inb_n, up_s, up_n, bx_uu, nI_1, ix6, nI_0n, pk_us, pk_un, ge_0n, mdM_0, mdM_1, mdM_2, mdM_3, mdM_4, mdM_o, mdM_w1, mdM_w2, mdM_w3, mdM_w4, pt_up, nI_add, hn, c0]) (by
    intro s
    have c0 : n ≤ n := Nat.le_refl n
    rw [xX12_begins_2]
    simp (disch := omega) only [xX12_begins_3, xX12_begins_4, xX12_begins_7, xX12_begins_10, xX12_begins_11, xX12_begins_14, xX12_begins_15, xX12_begins_16, xX12_begins_17, xX12_begins_18, xX12_begins_21, xX12_begins_22, xX12_begins_23, xX12_begins_24, xX12_begins_25, xX12_begins_28, xX12_begins_29, xX12_begins_30, xX12_begins_31, xX12_begins_32, xX12_begins_35, xX12_begins_36, xX12_begins_37, xX12_begins_38, xX12_begins_39, xX12_begins_42, xX12_begins_43, xX12_begins_44, xX12_begins_45, xX12_begins_46, xX12_begins_47, xX12_begins_48, xX12_begins_51, xX12_begins_52, xX12_begins_53, xX12_begins_54, xX12_begins_55, xX12_begins_56, xX12_begins_59, kd_123, fi_123_31, kd_134, ln_134, fi_123_33, kd_136, ln_136, fi_123_57, kd_153, ln_153, fi_123_58, kd_154, ln_154, fi_123_59, kd_155, ln_155, fi_123_60, kd_156, ln_156, ↓reduceIte, gd_t, hK_q, hN_q, hF_q, hI_q, hJ_q, hR_q, stI_q, stJ_q, stR_q, stA_q, va_rf_s, va_rf_n, clr_i, clr_l, clr_r, clr_n, clr_o, w8_0, w8_1i, w8_1r, w8_2ii, w8_2ri, w8_2ir, w8_2rr, w8_3, beq_self_eq_true, Bool.and_self, Bool.and_true, Bool.true_and, decide_true, Option.toList_some, Option.toList_none, List.cons_append, List.nil_append, Option.bind_some, if_true, if_false, Nat.reduceLeDiff, Nat.reduceLT, Nat.reduceBEq, Bool.or_false, Bool.false_or, Bool.or_true, Bool.true_or, nI_leI, nI_ltI, nI_eq, nI_clamp, inb_n, up_s, up_n, bx_uu, nI_1, ix6, nI_0n, pk_us, pk_un, ge_0n, mdM_0, hn, c0])
  rw [itf4 (f := fun i r => upd r i (I 134 i)) (g := fun i r => upd r i (I 136 i)) (h := fun i r => upd r i 0) (u := fun i r => upd r i 0), itf_cp, itf_cp, itf_ze, itf_ze] at h
  dsimp only at h
  rw [pt_sh, pt_sh, pt_sh, pt_sh, mdM_self, nI_0] at h
  rw [eX12_begins]
  simp only [xX12_begins_0, xX12_begins_1, clr_i]
  rw [h]
  simp only [xX12_begins_62]
  rfl
end HQ
section HQ
variable {X Y : Mem} {J J2 : MemL} {R R2 : MemR} {L p s : Nat} {u : Nat → Nat}
theorem pln_m_q {d : Nat} : C (d + 1) MX12_plain [.ref 123] (hq Y J2 R2) = some (none, hq (plnM Y) J2 R2) := by
  have e13 : ((17 : Nat) = 13) = False := eq_false (by decide)
  have e00 : (0 : Int32) &&& 1 = 0 := by decide
  have q2 : (2 : Int32) = nI 2 := rfl
  have q3 : (3 : Int32) = nI 3 := rfl
  rw [eX12_plain]
  unfold plnM
  simp (disch := omega) only [xX12_plain_0, xX12_plain_1, xX12_plain_2, xX12_plain_5, xX12_plain_6, xX12_plain_7, xX12_plain_10, xX12_plain_11, xX12_plain_12, xX12_plain_15, xX12_plain_16, xX12_plain_17, xX12_plain_20, xX12_plain_21, xX12_plain_22, xX12_plain_25, xX12_plain_26, xX12_plain_27, xX12_plain_30, xX12_plain_31, xX12_plain_32, xX12_plain_35, xX12_plain_36, xX12_plain_39, xX12_plain_40, xX12_plain_41, xX12_plain_42, xX12_plain_43, xX12_plain_46, xX12_plain_47, xX12_plain_48, xX12_plain_49, kd_123, fi_123_38, kd_141, ln_141, kd_123, kd_141, ln_141, ↓reduceIte, gd_t, hK_q, hN_q, hF_q, hI_q, hJ_q, hR_q, stI_q, stJ_q, stR_q, stA_q, va_rf_s, va_rf_n, clr_i, clr_l, clr_r, clr_n, clr_o, w8_0, w8_1i, w8_1r, w8_2ii, w8_2ri, w8_2ir, w8_2rr, w8_3, beq_self_eq_true, Bool.and_self, Bool.and_true, Bool.true_and, decide_true, Option.toList_some, Option.toList_none, List.cons_append, List.nil_append, Option.bind_some, if_true, if_false, Nat.reduceLeDiff, Nat.reduceLT, Nat.reduceBEq, Bool.or_false, Bool.false_or, Bool.or_true, Bool.true_or, up_s, up_n, bx_uu, e13, e00, q2, q3, inb_n, nI_clamp]
end HQ
section HQ
variable {Y : Mem} {J2 : MemL} {R2 : MemR}
theorem cps_m_q {d a n : Nat} (ka : kd0 a = 14) (na : ln0 a = n + n) (hn : n < 2 ^ 20) : C (d + 1) MX12_copies [.ref a, .int (nI n)] (hq Y J2 R2) = some (none, hq (va_up Y a (cpsF (Y a) n)) J2 R2) := by
  have na1 : ¬ a = 171 := fun q => by rw [q] at ka; exact absurd ka (by decide)
  have h1 := for_loop (P := fun i (r : Nat → Int32) => E (C d) MX12_copies 2 [some (.ref a), some (.int (nI n)), some (.int (nI i))] [] (hq (va_up Y a r) J2 R2)) (f := fun i r => upd r i (r (n + i))) (fin := fun r => some (none, hq (va_up Y a r) J2 R2)) (n := n) (by
    intro i r hi
    have c0 : ¬ nI n ≤ nI i := fun q => absurd ((nI_leI (by omega) (by omega)).mp q) (by omega)
    rw [xX12_copies_2]
    simp (disch := omega) only [xX12_copies_3, xX12_copies_4, xX12_copies_7, xX12_copies_8, xX12_copies_9, xX12_copies_10, xX12_copies_11, xX12_copies_12, xX12_copies_13, xX12_copies_14, xX12_copies_15, xX12_copies_18, ka, na, ↓reduceIte, gd_t, hK_q, hN_q, hF_q, hI_q, hJ_q, hR_q, stI_q, stJ_q, stR_q, stA_q, va_rf_s, va_rf_n, clr_i, clr_l, clr_r, clr_n, clr_o, w8_0, w8_1i, w8_1r, w8_2ii, w8_2ri, w8_2ir, w8_2rr, w8_3, beq_self_eq_true, Bool.and_self, Bool.and_true, Bool.true_and, decide_true, Option.toList_some, Option.toList_none, List.cons_append, List.nil_append, Option.bind_some, if_true, if_false, Nat.reduceLeDiff, Nat.reduceLT, Nat.reduceBEq, Bool.or_false, Bool.false_or, Bool.or_true, Bool.true_or, nI_add, nI_1, inb_n, nI_clamp, c0, up_s, bx_uu]) (by
    intro r
    have c0 : nI n ≤ nI n := Int32.le_refl _
    rw [xX12_copies_2]
    simp (disch := omega) only [xX12_copies_3, xX12_copies_4, xX12_copies_7, xX12_copies_8, xX12_copies_9, xX12_copies_10, xX12_copies_11, xX12_copies_12, xX12_copies_13, xX12_copies_14, xX12_copies_15, xX12_copies_18, xX12_copies_21, ↓reduceIte, gd_t, hK_q, hN_q, hF_q, hI_q, hJ_q, hR_q, stI_q, stJ_q, stR_q, stA_q, va_rf_s, va_rf_n, clr_i, clr_l, clr_r, clr_n, clr_o, w8_0, w8_1i, w8_1r, w8_2ii, w8_2ri, w8_2ir, w8_2rr, w8_3, beq_self_eq_true, Bool.and_self, Bool.and_true, Bool.true_and, decide_true, Option.toList_some, Option.toList_none, List.cons_append, List.nil_append, Option.bind_some, if_true, if_false, Nat.reduceLeDiff, Nat.reduceLT, Nat.reduceBEq, Bool.or_false, Bool.false_or, Bool.or_true, Bool.true_or, c0]) n 0 (Y a) (by omega)
  rw [up_self] at h1
  have q1 := itf_inv (f := fun i (r : Nat → Int32) => upd r i (r (n + i))) (n := n) (Q := fun i r => ∀ j, r j = if j < i then Y a (n + j) else Y a j) (by
    intro i r hi hq j
    by_cases w : j = i
    · rw [w, pk_us, if_pos (by omega), hq (n + i), if_neg (by omega)]
    · rw [pk_un w, hq j]
      by_cases z : j < i
      · rw [if_pos z, if_pos (by omega)]
      · rw [if_neg z, if_neg (by omega)]) n 0 (Y a) (by omega) (fun j => by rw [if_neg (by omega)])
  have q2 : itf (fun i (r : Nat → Int32) => upd r i (r (n + i))) n 0 (Y a) = cpsF (Y a) n := funext q1
  rw [q2] at h1
  rw [eX12_copies, ← h1]
  simp only [xX12_copies_0, xX12_copies_1, ↓reduceIte, gd_t, hK_q, hN_q, hF_q, hI_q, hJ_q, hR_q, stI_q, stJ_q, stR_q, stA_q, va_rf_s, va_rf_n, clr_i, clr_l, clr_r, clr_n, clr_o, w8_0, w8_1i, w8_1r, w8_2ii, w8_2ri, w8_2ir, w8_2rr, w8_3, beq_self_eq_true, Bool.and_self, Bool.and_true, Bool.true_and, decide_true, Option.toList_some, Option.toList_none, List.cons_append, List.nil_append, Option.bind_some, if_true, if_false, Nat.reduceLeDiff, Nat.reduceLT, Nat.reduceBEq, Bool.or_false, Bool.false_or, Bool.or_true, Bool.true_or]
  rfl
end HQ
section HQ
variable {Y : Mem} {J2 : MemL} {R2 : MemR}
theorem cpz_m_q {d a n : Nat} {x : Int32} (h : 126 ≤ a) (hf : hfM a = n) (ka : kd0 a = 14) (na : ln0 a = n + n) (hn : n < 2 ^ 20) (hx : nI n = x) : C (d + 1) MX12_copies [.ref a, .int x] (hq (zc Y a) J2 R2) = some (none, hq (zc Y (a + 1)) J2 R2) := by
  subst hf
  subst hx
  rw [cps_m_q ka na hn, zc_o (Or.inr (Nat.le_refl a)), zc_s h]
end HQ
section HQ
variable {Y : Mem} {J2 : MemL} {R2 : MemR}
theorem law_cp_q {d : Nat} (hb : ∀ k, k = 2 ∨ k = 3 → Y 141 k = 0 ∨ Y 141 k = 1) : E (C d) MX12_keepText 173 [some (.ref 123), some (.int 0)] [] (hq (zc Y 141) J2 R2) = E (C d) MX12_keepText 198 [some (.ref 123), some (.int 2)] [] (hq (zc Y 142) J2 R2) := by
  have e13 : ((17 : Nat) = 13) = False := eq_false (by decide)
  have ha : ∀ x : Int32, x = 0 ∨ x = 1 → x &&& 1 = x := fun x hx => by rcases hx with rfl | rfl <;> decide
  have c0 : ¬ (2 : Int32) ≤ 0 := by decide
  have c1 : ¬ (2 : Int32) ≤ 1 := by decide
  have c2 : (2 : Int32) ≤ 2 := by decide
  have i0 : inb (0 : Int32) 4 = true := by decide
  have i1 : inb (1 : Int32) 4 = true := by decide
  have i2 : inb (2 : Int32) 4 = true := by decide
  have i3 : inb (3 : Int32) 4 = true := by decide
  have t0 : (0 : Int32).toNatClampNeg = 0 := by decide
  have t1 : (1 : Int32).toNatClampNeg = 1 := by decide
  have t2 : (2 : Int32).toNatClampNeg = 2 := by decide
  have t3 : (3 : Int32).toNatClampNeg = 3 := by decide
  have s1 : (0 : Int32) + 1 = 1 := by decide
  have s2 : (1 : Int32) + 1 = 2 := by decide
  have s3 : (2 : Int32) + 0 = 2 := by decide
  have s4 : (2 : Int32) + 1 = 3 := by decide
  have z141 : zc Y 141 141 = Y 141 := zc_o (by omega)
  have hz : va_up (zc Y 141) 141 (upd (upd (Y 141) 0 (Y 141 2)) 1 (Y 141 3)) = zc Y 142 := by
    rw [← zc_s (a := 141) (by omega)]
    congr 1
    funext k
    show _ = cpsF (Y 141) 2 k
    unfold cpsF
    by_cases w1 : k = 1
    · subst w1; rw [pk_us, if_pos (by omega)]
    · rw [pk_un w1]
      by_cases w0 : k = 0
      · subst w0; rw [pk_us, if_pos (by omega)]
      · rw [pk_un w0, if_neg (by omega)]
  have hs : ∀ {i j : Int32} {Z : Mem}, ¬ 2 ≤ i → inb i 4 = true → inb (2 + i) 4 = true → (Z 141 (2 + i).toNatClampNeg = 0 ∨ Z 141 (2 + i).toNatClampNeg = 1) → i + 1 = j → E (C d) MX12_keepText 173 [some (.ref 123), some (.int i)] [] (hq Z J2 R2) = E (C d) MX12_keepText 173 [some (.ref 123), some (.int j)] [] (hq (va_up Z 141 (upd (Z 141) i.toNatClampNeg (Z 141 (2 + i).toNatClampNeg))) J2 R2) := by
    intro i j Z h1 h2 h3 h4 h5
    rw [xX12_keepText_173 (h := hq Z J2 R2)]
    simp (disch := omega) only [xX12_keepText_174, xX12_keepText_175, xX12_keepText_178, xX12_keepText_179, xX12_keepText_182, xX12_keepText_183, xX12_keepText_184, xX12_keepText_187, xX12_keepText_188, xX12_keepText_189, xX12_keepText_190, xX12_keepText_191, xX12_keepText_192, xX12_keepText_195, kd_123, fi_123_23, kd_126, ln_126, fi_123_24, kd_127, ln_127, fi_123_25, kd_128, ln_128, fi_123_26, kd_129, ln_129, fi_123_27, kd_130, ln_130, fi_123_28, kd_131, ln_131, fi_123_29, kd_132, ln_132, fi_123_30, kd_133, ln_133, fi_123_31, kd_134, ln_134, fi_123_32, kd_135, ln_135, fi_123_33, kd_136, ln_136, fi_123_34, kd_137, ln_137, fi_123_35, kd_138, ln_138, fi_123_36, kd_139, ln_139, fi_123_37, kd_140, ln_140, fi_123_38, kd_141, ln_141, fi_123_39, kd_142, ln_142, fi_123_40, kd_143, ln_143, fi_123_41, kd_144, ln_144, fi_123_42, kd_145, ln_145, fi_123_43, kd_146, ln_146, fi_123_55, kd_151, ln_151, fi_123_56, kd_152, ln_152, kd_123, kd_141, ln_141, ↓reduceIte, gd_t, hK_q, hN_q, hF_q, hI_q, hJ_q, hR_q, stI_q, stJ_q, stR_q, stA_q, va_rf_s, va_rf_n, clr_i, clr_l, clr_r, clr_n, clr_o, w8_0, w8_1i, w8_1r, w8_2ii, w8_2ri, w8_2ir, w8_2rr, w8_3, beq_self_eq_true, Bool.and_self, Bool.and_true, Bool.true_and, decide_true, Option.toList_some, Option.toList_none, List.cons_append, List.nil_append, Option.bind_some, if_true, if_false, Nat.reduceLeDiff, Nat.reduceLT, Nat.reduceBEq, Bool.or_false, Bool.false_or, Bool.or_true, Bool.true_or, h1, h2, h3, ha _ h4, h5, e13]
  have a1 := hs (i := 0) (j := 1) (Z := zc Y 141) c0 i0 (by rw [s3]; exact i2) (by rw [s3, t2, z141]; exact hb 2 (by omega)) s1
  rw [s3, t0, t2, z141] at a1
  have a2 := hs (i := 1) (j := 2) (Z := va_up (zc Y 141) 141 (upd (Y 141) 0 (Y 141 2))) c1 i1 (by rw [s4]; exact i3) (by rw [s4, t3, up_s, pk_un (by decide)]; exact hb 3 (by omega)) s2
  rw [s4, t1, t3, up_s, bx_uu, pk_un (by decide), hz] at a2
  rw [a1, a2, xX12_keepText_173 (h := hq (zc Y 142) J2 R2)]
  simp (disch := omega) only [xX12_keepText_174, xX12_keepText_175, kd_123, fi_123_23, kd_126, ln_126, fi_123_24, kd_127, ln_127, fi_123_25, kd_128, ln_128, fi_123_26, kd_129, ln_129, fi_123_27, kd_130, ln_130, fi_123_28, kd_131, ln_131, fi_123_29, kd_132, ln_132, fi_123_30, kd_133, ln_133, fi_123_31, kd_134, ln_134, fi_123_32, kd_135, ln_135, fi_123_33, kd_136, ln_136, fi_123_34, kd_137, ln_137, fi_123_35, kd_138, ln_138, fi_123_36, kd_139, ln_139, fi_123_37, kd_140, ln_140, fi_123_38, kd_141, ln_141, fi_123_39, kd_142, ln_142, fi_123_40, kd_143, ln_143, fi_123_41, kd_144, ln_144, fi_123_42, kd_145, ln_145, fi_123_43, kd_146, ln_146, fi_123_55, kd_151, ln_151, fi_123_56, kd_152, ln_152, ↓reduceIte, gd_t, hK_q, hN_q, hF_q, hI_q, hJ_q, hR_q, stI_q, stJ_q, stR_q, stA_q, va_rf_s, va_rf_n, clr_i, clr_l, clr_r, clr_n, clr_o, w8_0, w8_1i, w8_1r, w8_2ii, w8_2ri, w8_2ir, w8_2rr, w8_3, beq_self_eq_true, Bool.and_self, Bool.and_true, Bool.true_and, decide_true, Option.toList_some, Option.toList_none, List.cons_append, List.nil_append, Option.bind_some, if_true, if_false, Nat.reduceLeDiff, Nat.reduceLT, Nat.reduceBEq, Bool.or_false, Bool.false_or, Bool.or_true, Bool.true_or, c2]
end HQ
section HQ
variable {Y : Mem} {J2 : MemL} {R2 : MemR}
/-- beams and places as told -/
theorem bea_cp_q {d : Nat} {Z : Mem} : ∃ Z', E (C d) MX12_keepText 243 [some (.ref 123), some (.int 0)] [] (hq Z J2 R2) = E (C d) MX12_keepText 279 [some (.ref 123), some (.int 6)] [] (hq Z' J2 R2) ∧ (∀ k, k < 6 → Z' 151 k = Z 130 k ∧ Z' 152 k = Z 131 k) ∧ ∀ c, c ≠ 151 → c ≠ 152 → Z' c = Z c := by
  have h1 := for_loop (P := fun i (W : Mem) => E (C d) MX12_keepText 243 [some (.ref 123), some (.int (nI i))] [] (hq W J2 R2)) (f := fun i W => va_up (va_up W 151 (upd (W 151) i (W 130 i))) 152 (upd (W 152) i (W 131 i))) (fin := fun W => E (C d) MX12_keepText 279 [some (.ref 123), some (.int 6)] [] (hq W J2 R2)) (n := 6) (by
    intro i W hi
    have c0 : ¬ 6 ≤ nI i := fun q => absurd ((nI_leI (a := 6) (b := i) (by omega) (by omega)).mp q) (by omega)
    rw [xX12_keepText_243]
    simp (disch := omega) only [xX12_keepText_244, xX12_keepText_246, xX12_keepText_249, xX12_keepText_250, xX12_keepText_253, xX12_keepText_254, xX12_keepText_255, xX12_keepText_258, xX12_keepText_259, xX12_keepText_260, xX12_keepText_261, xX12_keepText_262, xX12_keepText_265, xX12_keepText_266, xX12_keepText_267, xX12_keepText_270, xX12_keepText_271, xX12_keepText_272, xX12_keepText_273, xX12_keepText_276, kd_123, fi_123_23, kd_126, ln_126, fi_123_24, kd_127, ln_127, fi_123_25, kd_128, ln_128, fi_123_26, kd_129, ln_129, fi_123_27, kd_130, ln_130, fi_123_28, kd_131, ln_131, fi_123_29, kd_132, ln_132, fi_123_30, kd_133, ln_133, fi_123_31, kd_134, ln_134, fi_123_32, kd_135, ln_135, fi_123_33, kd_136, ln_136, fi_123_34, kd_137, ln_137, fi_123_35, kd_138, ln_138, fi_123_36, kd_139, ln_139, fi_123_37, kd_140, ln_140, fi_123_38, kd_141, ln_141, fi_123_39, kd_142, ln_142, fi_123_40, kd_143, ln_143, fi_123_41, kd_144, ln_144, fi_123_42, kd_145, ln_145, fi_123_43, kd_146, ln_146, fi_123_55, kd_151, ln_151, fi_123_56, kd_152, ln_152, kd_123, kd_151, ln_151, kd_152, ln_152, kd_130, ln_130, kd_131, ln_131, ↓reduceIte, gd_t, hK_q, hN_q, hF_q, hI_q, hJ_q, hR_q, stI_q, stJ_q, stR_q, stA_q, va_rf_s, va_rf_n, clr_i, clr_l, clr_r, clr_n, clr_o, w8_0, w8_1i, w8_1r, w8_2ii, w8_2ri, w8_2ir, w8_2rr, w8_3, beq_self_eq_true, Bool.and_self, Bool.and_true, Bool.true_and, decide_true, Option.toList_some, Option.toList_none, List.cons_append, List.nil_append, Option.bind_some, if_true, if_false, Nat.reduceLeDiff, Nat.reduceLT, Nat.reduceBEq, Bool.or_false, Bool.false_or, Bool.or_true, Bool.true_or, nI_1, inb_n, nI_clamp, c0, up_n]) (by
    intro W
    have c0 : (6 : Int32) ≤ nI 6 := by decide
    rw [xX12_keepText_243]
    simp (disch := omega) only [xX12_keepText_244, xX12_keepText_246, kd_123, fi_123_23, kd_126, ln_126, fi_123_24, kd_127, ln_127, fi_123_25, kd_128, ln_128, fi_123_26, kd_129, ln_129, fi_123_27, kd_130, ln_130, fi_123_28, kd_131, ln_131, fi_123_29, kd_132, ln_132, fi_123_30, kd_133, ln_133, fi_123_31, kd_134, ln_134, fi_123_32, kd_135, ln_135, fi_123_33, kd_136, ln_136, fi_123_34, kd_137, ln_137, fi_123_35, kd_138, ln_138, fi_123_36, kd_139, ln_139, fi_123_37, kd_140, ln_140, fi_123_38, kd_141, ln_141, fi_123_39, kd_142, ln_142, fi_123_40, kd_143, ln_143, fi_123_41, kd_144, ln_144, fi_123_42, kd_145, ln_145, fi_123_43, kd_146, ln_146, fi_123_55, kd_151, ln_151, fi_123_56, kd_152, ln_152, ↓reduceIte, gd_t, hK_q, hN_q, hF_q, hI_q, hJ_q, hR_q, stI_q, stJ_q, stR_q, stA_q, va_rf_s, va_rf_n, clr_i, clr_l, clr_r, clr_n, clr_o, w8_0, w8_1i, w8_1r, w8_2ii, w8_2ri, w8_2ir, w8_2rr, w8_3, beq_self_eq_true, Bool.and_self, Bool.and_true, Bool.true_and, decide_true, Option.toList_some, Option.toList_none, List.cons_append, List.nil_append, Option.bind_some, if_true, if_false, Nat.reduceLeDiff, Nat.reduceLT, Nat.reduceBEq, Bool.or_false, Bool.false_or, Bool.or_true, Bool.true_or, c0]
    rfl) 6 0 Z (by omega)
  have q1 := itf_inv (f := fun i (W : Mem) => va_up (va_up W 151 (upd (W 151) i (W 130 i))) 152 (upd (W 152) i (W 131 i))) (n := 6) (Q := fun i W => (∀ c, c ≠ 151 → c ≠ 152 → W c = Z c) ∧ ∀ j, j < i → W 151 j = Z 130 j ∧ W 152 j = Z 131 j) (by
    intro i W hi hq
    refine ⟨fun c h1 h2 => by rw [up_n h2, up_n h1]; exact hq.1 c h1 h2, fun j hj => ?_⟩
    rw [up_n (by decide), up_s, up_s]
    by_cases w : j = i
    · subst w
      rw [pk_us, pk_us, hq.1 130 (by decide) (by decide), hq.1 131 (by decide) (by decide)]
      exact ⟨rfl, rfl⟩
    · rw [pk_un w, pk_un w]
      exact hq.2 j (by omega)) 6 0 Z (by omega) ⟨fun _ _ _ => rfl, fun j hj => absurd hj (by omega)⟩
  exact ⟨_, h1, q1.2, q1.1⟩
end HQ
section HQ
variable {Y : Mem} {J2 : MemL} {R2 : MemR}
theorem kpt_126_q {d : Nat} : E (C (d + 1)) MX12_keepText 40 [some (.ref 123), none] [] (hq (zc Y 126) J2 R2) = E (C (d + 1)) MX12_keepText 48 [some (.ref 123), none] [] (hq (zc Y 127) J2 R2) := by
  have c : C (d + 1) MX12_copies [.ref 126, .int 3] (hq (zc Y 126) J2 R2) = some (none, hq (zc Y 127) J2 R2) := cpz_m_q (n := 3) (by omega) rfl kd_126 ln_126 (by omega) rfl
  simp (disch := omega) only [xX12_keepText_40, xX12_keepText_41, xX12_keepText_44, xX12_keepText_45, kd_123, fi_123_23, kd_126, ln_126, fi_123_24, kd_127, ln_127, fi_123_25, kd_128, ln_128, fi_123_26, kd_129, ln_129, fi_123_27, kd_130, ln_130, fi_123_28, kd_131, ln_131, fi_123_29, kd_132, ln_132, fi_123_30, kd_133, ln_133, fi_123_31, kd_134, ln_134, fi_123_32, kd_135, ln_135, fi_123_33, kd_136, ln_136, fi_123_34, kd_137, ln_137, fi_123_35, kd_138, ln_138, fi_123_36, kd_139, ln_139, fi_123_37, kd_140, ln_140, fi_123_38, kd_141, ln_141, fi_123_39, kd_142, ln_142, fi_123_40, kd_143, ln_143, fi_123_41, kd_144, ln_144, fi_123_42, kd_145, ln_145, fi_123_43, kd_146, ln_146, fi_123_55, kd_151, ln_151, fi_123_56, kd_152, ln_152, kd_123, kd_126, ↓reduceIte, gd_t, hK_q, hN_q, hF_q, hI_q, hJ_q, hR_q, stI_q, stJ_q, stR_q, stA_q, va_rf_s, va_rf_n, clr_i, clr_l, clr_r, clr_n, clr_o, w8_0, w8_1i, w8_1r, w8_2ii, w8_2ri, w8_2ir, w8_2rr, w8_3, beq_self_eq_true, Bool.and_self, Bool.and_true, Bool.true_and, decide_true, Option.toList_some, Option.toList_none, List.cons_append, List.nil_append, Option.bind_some, if_true, if_false, Nat.reduceLeDiff, Nat.reduceLT, Nat.reduceBEq, Bool.or_false, Bool.false_or, Bool.or_true, Bool.true_or, c]
end HQ
section HQ
variable {Y : Mem} {J2 : MemL} {R2 : MemR}
theorem kpt_127_q {d : Nat} : E (C (d + 1)) MX12_keepText 48 [some (.ref 123), none] [] (hq (zc Y 127) J2 R2) = E (C (d + 1)) MX12_keepText 56 [some (.ref 123), none] [] (hq (zc Y 128) J2 R2) := by
  have c : C (d + 1) MX12_copies [.ref 127, .int 3] (hq (zc Y 127) J2 R2) = some (none, hq (zc Y 128) J2 R2) := cpz_m_q (n := 3) (by omega) rfl kd_127 ln_127 (by omega) rfl
  simp (disch := omega) only [xX12_keepText_48, xX12_keepText_49, xX12_keepText_52, xX12_keepText_53, kd_123, fi_123_23, kd_126, ln_126, fi_123_24, kd_127, ln_127, fi_123_25, kd_128, ln_128, fi_123_26, kd_129, ln_129, fi_123_27, kd_130, ln_130, fi_123_28, kd_131, ln_131, fi_123_29, kd_132, ln_132, fi_123_30, kd_133, ln_133, fi_123_31, kd_134, ln_134, fi_123_32, kd_135, ln_135, fi_123_33, kd_136, ln_136, fi_123_34, kd_137, ln_137, fi_123_35, kd_138, ln_138, fi_123_36, kd_139, ln_139, fi_123_37, kd_140, ln_140, fi_123_38, kd_141, ln_141, fi_123_39, kd_142, ln_142, fi_123_40, kd_143, ln_143, fi_123_41, kd_144, ln_144, fi_123_42, kd_145, ln_145, fi_123_43, kd_146, ln_146, fi_123_55, kd_151, ln_151, fi_123_56, kd_152, ln_152, kd_123, kd_127, ↓reduceIte, gd_t, hK_q, hN_q, hF_q, hI_q, hJ_q, hR_q, stI_q, stJ_q, stR_q, stA_q, va_rf_s, va_rf_n, clr_i, clr_l, clr_r, clr_n, clr_o, w8_0, w8_1i, w8_1r, w8_2ii, w8_2ri, w8_2ir, w8_2rr, w8_3, beq_self_eq_true, Bool.and_self, Bool.and_true, Bool.true_and, decide_true, Option.toList_some, Option.toList_none, List.cons_append, List.nil_append, Option.bind_some, if_true, if_false, Nat.reduceLeDiff, Nat.reduceLT, Nat.reduceBEq, Bool.or_false, Bool.false_or, Bool.or_true, Bool.true_or, c]
end HQ
section HQ
variable {Y : Mem} {J2 : MemL} {R2 : MemR}
theorem kpt_128_q {d : Nat} : E (C (d + 1)) MX12_keepText 56 [some (.ref 123), none] [] (hq (zc Y 128) J2 R2) = E (C (d + 1)) MX12_keepText 64 [some (.ref 123), none] [] (hq (zc Y 129) J2 R2) := by
  have c : C (d + 1) MX12_copies [.ref 128, .int 3] (hq (zc Y 128) J2 R2) = some (none, hq (zc Y 129) J2 R2) := cpz_m_q (n := 3) (by omega) rfl kd_128 ln_128 (by omega) rfl
  simp (disch := omega) only [xX12_keepText_56, xX12_keepText_57, xX12_keepText_60, xX12_keepText_61, kd_123, fi_123_23, kd_126, ln_126, fi_123_24, kd_127, ln_127, fi_123_25, kd_128, ln_128, fi_123_26, kd_129, ln_129, fi_123_27, kd_130, ln_130, fi_123_28, kd_131, ln_131, fi_123_29, kd_132, ln_132, fi_123_30, kd_133, ln_133, fi_123_31, kd_134, ln_134, fi_123_32, kd_135, ln_135, fi_123_33, kd_136, ln_136, fi_123_34, kd_137, ln_137, fi_123_35, kd_138, ln_138, fi_123_36, kd_139, ln_139, fi_123_37, kd_140, ln_140, fi_123_38, kd_141, ln_141, fi_123_39, kd_142, ln_142, fi_123_40, kd_143, ln_143, fi_123_41, kd_144, ln_144, fi_123_42, kd_145, ln_145, fi_123_43, kd_146, ln_146, fi_123_55, kd_151, ln_151, fi_123_56, kd_152, ln_152, kd_123, kd_128, ↓reduceIte, gd_t, hK_q, hN_q, hF_q, hI_q, hJ_q, hR_q, stI_q, stJ_q, stR_q, stA_q, va_rf_s, va_rf_n, clr_i, clr_l, clr_r, clr_n, clr_o, w8_0, w8_1i, w8_1r, w8_2ii, w8_2ri, w8_2ir, w8_2rr, w8_3, beq_self_eq_true, Bool.and_self, Bool.and_true, Bool.true_and, decide_true, Option.toList_some, Option.toList_none, List.cons_append, List.nil_append, Option.bind_some, if_true, if_false, Nat.reduceLeDiff, Nat.reduceLT, Nat.reduceBEq, Bool.or_false, Bool.false_or, Bool.or_true, Bool.true_or, c]
end HQ
section HQ
variable {Y : Mem} {J2 : MemL} {R2 : MemR}
theorem kpt_129_q {d : Nat} : E (C (d + 1)) MX12_keepText 64 [some (.ref 123), none] [] (hq (zc Y 129) J2 R2) = E (C (d + 1)) MX12_keepText 73 [some (.ref 123), none] [] (hq (zc Y 130) J2 R2) := by
  have c : C (d + 1) MX12_copies [.ref 129, .int 6] (hq (zc Y 129) J2 R2) = some (none, hq (zc Y 130) J2 R2) := cpz_m_q (n := 6) (by omega) rfl kd_129 ln_129 (by omega) rfl
  simp (disch := omega) only [xX12_keepText_64, xX12_keepText_65, xX12_keepText_68, xX12_keepText_70, kd_123, fi_123_23, kd_126, ln_126, fi_123_24, kd_127, ln_127, fi_123_25, kd_128, ln_128, fi_123_26, kd_129, ln_129, fi_123_27, kd_130, ln_130, fi_123_28, kd_131, ln_131, fi_123_29, kd_132, ln_132, fi_123_30, kd_133, ln_133, fi_123_31, kd_134, ln_134, fi_123_32, kd_135, ln_135, fi_123_33, kd_136, ln_136, fi_123_34, kd_137, ln_137, fi_123_35, kd_138, ln_138, fi_123_36, kd_139, ln_139, fi_123_37, kd_140, ln_140, fi_123_38, kd_141, ln_141, fi_123_39, kd_142, ln_142, fi_123_40, kd_143, ln_143, fi_123_41, kd_144, ln_144, fi_123_42, kd_145, ln_145, fi_123_43, kd_146, ln_146, fi_123_55, kd_151, ln_151, fi_123_56, kd_152, ln_152, kd_123, kd_129, ↓reduceIte, gd_t, hK_q, hN_q, hF_q, hI_q, hJ_q, hR_q, stI_q, stJ_q, stR_q, stA_q, va_rf_s, va_rf_n, clr_i, clr_l, clr_r, clr_n, clr_o, w8_0, w8_1i, w8_1r, w8_2ii, w8_2ri, w8_2ir, w8_2rr, w8_3, beq_self_eq_true, Bool.and_self, Bool.and_true, Bool.true_and, decide_true, Option.toList_some, Option.toList_none, List.cons_append, List.nil_append, Option.bind_some, if_true, if_false, Nat.reduceLeDiff, Nat.reduceLT, Nat.reduceBEq, Bool.or_false, Bool.false_or, Bool.or_true, Bool.true_or, c]
end HQ
section HQ
variable {Y : Mem} {J2 : MemL} {R2 : MemR}
theorem kpt_130_q {d : Nat} : E (C (d + 1)) MX12_keepText 73 [some (.ref 123), none] [] (hq (zc Y 130) J2 R2) = E (C (d + 1)) MX12_keepText 82 [some (.ref 123), none] [] (hq (zc Y 131) J2 R2) := by
  have c : C (d + 1) MX12_copies [.ref 130, .int 6] (hq (zc Y 130) J2 R2) = some (none, hq (zc Y 131) J2 R2) := cpz_m_q (n := 6) (by omega) rfl kd_130 ln_130 (by omega) rfl
  simp (disch := omega) only [xX12_keepText_73, xX12_keepText_74, xX12_keepText_77, xX12_keepText_79, kd_123, fi_123_23, kd_126, ln_126, fi_123_24, kd_127, ln_127, fi_123_25, kd_128, ln_128, fi_123_26, kd_129, ln_129, fi_123_27, kd_130, ln_130, fi_123_28, kd_131, ln_131, fi_123_29, kd_132, ln_132, fi_123_30, kd_133, ln_133, fi_123_31, kd_134, ln_134, fi_123_32, kd_135, ln_135, fi_123_33, kd_136, ln_136, fi_123_34, kd_137, ln_137, fi_123_35, kd_138, ln_138, fi_123_36, kd_139, ln_139, fi_123_37, kd_140, ln_140, fi_123_38, kd_141, ln_141, fi_123_39, kd_142, ln_142, fi_123_40, kd_143, ln_143, fi_123_41, kd_144, ln_144, fi_123_42, kd_145, ln_145, fi_123_43, kd_146, ln_146, fi_123_55, kd_151, ln_151, fi_123_56, kd_152, ln_152, kd_123, kd_130, ↓reduceIte, gd_t, hK_q, hN_q, hF_q, hI_q, hJ_q, hR_q, stI_q, stJ_q, stR_q, stA_q, va_rf_s, va_rf_n, clr_i, clr_l, clr_r, clr_n, clr_o, w8_0, w8_1i, w8_1r, w8_2ii, w8_2ri, w8_2ir, w8_2rr, w8_3, beq_self_eq_true, Bool.and_self, Bool.and_true, Bool.true_and, decide_true, Option.toList_some, Option.toList_none, List.cons_append, List.nil_append, Option.bind_some, if_true, if_false, Nat.reduceLeDiff, Nat.reduceLT, Nat.reduceBEq, Bool.or_false, Bool.false_or, Bool.or_true, Bool.true_or, c]
end HQ
section HQ
variable {Y : Mem} {J2 : MemL} {R2 : MemR}
theorem kpt_131_q {d : Nat} : E (C (d + 1)) MX12_keepText 82 [some (.ref 123), none] [] (hq (zc Y 131) J2 R2) = E (C (d + 1)) MX12_keepText 91 [some (.ref 123), none] [] (hq (zc Y 132) J2 R2) := by
  have c : C (d + 1) MX12_copies [.ref 131, .int 6] (hq (zc Y 131) J2 R2) = some (none, hq (zc Y 132) J2 R2) := cpz_m_q (n := 6) (by omega) rfl kd_131 ln_131 (by omega) rfl
  simp (disch := omega) only [xX12_keepText_82, xX12_keepText_83, xX12_keepText_86, xX12_keepText_88, kd_123, fi_123_23, kd_126, ln_126, fi_123_24, kd_127, ln_127, fi_123_25, kd_128, ln_128, fi_123_26, kd_129, ln_129, fi_123_27, kd_130, ln_130, fi_123_28, kd_131, ln_131, fi_123_29, kd_132, ln_132, fi_123_30, kd_133, ln_133, fi_123_31, kd_134, ln_134, fi_123_32, kd_135, ln_135, fi_123_33, kd_136, ln_136, fi_123_34, kd_137, ln_137, fi_123_35, kd_138, ln_138, fi_123_36, kd_139, ln_139, fi_123_37, kd_140, ln_140, fi_123_38, kd_141, ln_141, fi_123_39, kd_142, ln_142, fi_123_40, kd_143, ln_143, fi_123_41, kd_144, ln_144, fi_123_42, kd_145, ln_145, fi_123_43, kd_146, ln_146, fi_123_55, kd_151, ln_151, fi_123_56, kd_152, ln_152, kd_123, kd_131, ↓reduceIte, gd_t, hK_q, hN_q, hF_q, hI_q, hJ_q, hR_q, stI_q, stJ_q, stR_q, stA_q, va_rf_s, va_rf_n, clr_i, clr_l, clr_r, clr_n, clr_o, w8_0, w8_1i, w8_1r, w8_2ii, w8_2ri, w8_2ir, w8_2rr, w8_3, beq_self_eq_true, Bool.and_self, Bool.and_true, Bool.true_and, decide_true, Option.toList_some, Option.toList_none, List.cons_append, List.nil_append, Option.bind_some, if_true, if_false, Nat.reduceLeDiff, Nat.reduceLT, Nat.reduceBEq, Bool.or_false, Bool.false_or, Bool.or_true, Bool.true_or, c]
end HQ
section HQ
variable {Y : Mem} {J2 : MemL} {R2 : MemR}
theorem kpt_132_q {d : Nat} : E (C (d + 1)) MX12_keepText 91 [some (.ref 123), none] [] (hq (zc Y 132) J2 R2) = E (C (d + 1)) MX12_keepText 100 [some (.ref 123), none] [] (hq (zc Y 133) J2 R2) := by
  have c : C (d + 1) MX12_copies [.ref 132, .int 6] (hq (zc Y 132) J2 R2) = some (none, hq (zc Y 133) J2 R2) := cpz_m_q (n := 6) (by omega) rfl kd_132 ln_132 (by omega) rfl
  simp (disch := omega) only [xX12_keepText_91, xX12_keepText_92, xX12_keepText_95, xX12_keepText_97, kd_123, fi_123_23, kd_126, ln_126, fi_123_24, kd_127, ln_127, fi_123_25, kd_128, ln_128, fi_123_26, kd_129, ln_129, fi_123_27, kd_130, ln_130, fi_123_28, kd_131, ln_131, fi_123_29, kd_132, ln_132, fi_123_30, kd_133, ln_133, fi_123_31, kd_134, ln_134, fi_123_32, kd_135, ln_135, fi_123_33, kd_136, ln_136, fi_123_34, kd_137, ln_137, fi_123_35, kd_138, ln_138, fi_123_36, kd_139, ln_139, fi_123_37, kd_140, ln_140, fi_123_38, kd_141, ln_141, fi_123_39, kd_142, ln_142, fi_123_40, kd_143, ln_143, fi_123_41, kd_144, ln_144, fi_123_42, kd_145, ln_145, fi_123_43, kd_146, ln_146, fi_123_55, kd_151, ln_151, fi_123_56, kd_152, ln_152, kd_123, kd_132, ↓reduceIte, gd_t, hK_q, hN_q, hF_q, hI_q, hJ_q, hR_q, stI_q, stJ_q, stR_q, stA_q, va_rf_s, va_rf_n, clr_i, clr_l, clr_r, clr_n, clr_o, w8_0, w8_1i, w8_1r, w8_2ii, w8_2ri, w8_2ir, w8_2rr, w8_3, beq_self_eq_true, Bool.and_self, Bool.and_true, Bool.true_and, decide_true, Option.toList_some, Option.toList_none, List.cons_append, List.nil_append, Option.bind_some, if_true, if_false, Nat.reduceLeDiff, Nat.reduceLT, Nat.reduceBEq, Bool.or_false, Bool.false_or, Bool.or_true, Bool.true_or, c]
end HQ
section HQ
variable {Y : Mem} {J2 : MemL} {R2 : MemR}
theorem kpt_133_q {d : Nat} : E (C (d + 1)) MX12_keepText 100 [some (.ref 123), none] [] (hq (zc Y 133) J2 R2) = E (C (d + 1)) MX12_keepText 109 [some (.ref 123), none] [] (hq (zc Y 134) J2 R2) := by
  have c : C (d + 1) MX12_copies [.ref 133, .int 6] (hq (zc Y 133) J2 R2) = some (none, hq (zc Y 134) J2 R2) := cpz_m_q (n := 6) (by omega) rfl kd_133 ln_133 (by omega) rfl
  simp (disch := omega) only [xX12_keepText_100, xX12_keepText_101, xX12_keepText_104, xX12_keepText_106, kd_123, fi_123_23, kd_126, ln_126, fi_123_24, kd_127, ln_127, fi_123_25, kd_128, ln_128, fi_123_26, kd_129, ln_129, fi_123_27, kd_130, ln_130, fi_123_28, kd_131, ln_131, fi_123_29, kd_132, ln_132, fi_123_30, kd_133, ln_133, fi_123_31, kd_134, ln_134, fi_123_32, kd_135, ln_135, fi_123_33, kd_136, ln_136, fi_123_34, kd_137, ln_137, fi_123_35, kd_138, ln_138, fi_123_36, kd_139, ln_139, fi_123_37, kd_140, ln_140, fi_123_38, kd_141, ln_141, fi_123_39, kd_142, ln_142, fi_123_40, kd_143, ln_143, fi_123_41, kd_144, ln_144, fi_123_42, kd_145, ln_145, fi_123_43, kd_146, ln_146, fi_123_55, kd_151, ln_151, fi_123_56, kd_152, ln_152, kd_123, kd_133, ↓reduceIte, gd_t, hK_q, hN_q, hF_q, hI_q, hJ_q, hR_q, stI_q, stJ_q, stR_q, stA_q, va_rf_s, va_rf_n, clr_i, clr_l, clr_r, clr_n, clr_o, w8_0, w8_1i, w8_1r, w8_2ii, w8_2ri, w8_2ir, w8_2rr, w8_3, beq_self_eq_true, Bool.and_self, Bool.and_true, Bool.true_and, decide_true, Option.toList_some, Option.toList_none, List.cons_append, List.nil_append, Option.bind_some, if_true, if_false, Nat.reduceLeDiff, Nat.reduceLT, Nat.reduceBEq, Bool.or_false, Bool.false_or, Bool.or_true, Bool.true_or, c]
end HQ
section HQ
variable {Y : Mem} {J2 : MemL} {R2 : MemR}
theorem kpt_134_q {d : Nat} : E (C (d + 1)) MX12_keepText 109 [some (.ref 123), none] [] (hq (zc Y 134) J2 R2) = E (C (d + 1)) MX12_keepText 118 [some (.ref 123), none] [] (hq (zc Y 135) J2 R2) := by
  have c : C (d + 1) MX12_copies [.ref 134, .int 6] (hq (zc Y 134) J2 R2) = some (none, hq (zc Y 135) J2 R2) := cpz_m_q (n := 6) (by omega) rfl kd_134 ln_134 (by omega) rfl
  simp (disch := omega) only [xX12_keepText_109, xX12_keepText_110, xX12_keepText_113, xX12_keepText_115, kd_123, fi_123_23, kd_126, ln_126, fi_123_24, kd_127, ln_127, fi_123_25, kd_128, ln_128, fi_123_26, kd_129, ln_129, fi_123_27, kd_130, ln_130, fi_123_28, kd_131, ln_131, fi_123_29, kd_132, ln_132, fi_123_30, kd_133, ln_133, fi_123_31, kd_134, ln_134, fi_123_32, kd_135, ln_135, fi_123_33, kd_136, ln_136, fi_123_34, kd_137, ln_137, fi_123_35, kd_138, ln_138, fi_123_36, kd_139, ln_139, fi_123_37, kd_140, ln_140, fi_123_38, kd_141, ln_141, fi_123_39, kd_142, ln_142, fi_123_40, kd_143, ln_143, fi_123_41, kd_144, ln_144, fi_123_42, kd_145, ln_145, fi_123_43, kd_146, ln_146, fi_123_55, kd_151, ln_151, fi_123_56, kd_152, ln_152, kd_123, kd_134, ↓reduceIte, gd_t, hK_q, hN_q, hF_q, hI_q, hJ_q, hR_q, stI_q, stJ_q, stR_q, stA_q, va_rf_s, va_rf_n, clr_i, clr_l, clr_r, clr_n, clr_o, w8_0, w8_1i, w8_1r, w8_2ii, w8_2ri, w8_2ir, w8_2rr, w8_3, beq_self_eq_true, Bool.and_self, Bool.and_true, Bool.true_and, decide_true, Option.toList_some, Option.toList_none, List.cons_append, List.nil_append, Option.bind_some, if_true, if_false, Nat.reduceLeDiff, Nat.reduceLT, Nat.reduceBEq, Bool.or_false, Bool.false_or, Bool.or_true, Bool.true_or, c]
end HQ
section HQ
variable {Y : Mem} {J2 : MemL} {R2 : MemR}
theorem kpt_135_q {d : Nat} : E (C (d + 1)) MX12_keepText 118 [some (.ref 123), none] [] (hq (zc Y 135) J2 R2) = E (C (d + 1)) MX12_keepText 127 [some (.ref 123), none] [] (hq (zc Y 136) J2 R2) := by
  have c : C (d + 1) MX12_copies [.ref 135, .int 6] (hq (zc Y 135) J2 R2) = some (none, hq (zc Y 136) J2 R2) := cpz_m_q (n := 6) (by omega) rfl kd_135 ln_135 (by omega) rfl
  simp (disch := omega) only [xX12_keepText_118, xX12_keepText_119, xX12_keepText_122, xX12_keepText_124, kd_123, fi_123_23, kd_126, ln_126, fi_123_24, kd_127, ln_127, fi_123_25, kd_128, ln_128, fi_123_26, kd_129, ln_129, fi_123_27, kd_130, ln_130, fi_123_28, kd_131, ln_131, fi_123_29, kd_132, ln_132, fi_123_30, kd_133, ln_133, fi_123_31, kd_134, ln_134, fi_123_32, kd_135, ln_135, fi_123_33, kd_136, ln_136, fi_123_34, kd_137, ln_137, fi_123_35, kd_138, ln_138, fi_123_36, kd_139, ln_139, fi_123_37, kd_140, ln_140, fi_123_38, kd_141, ln_141, fi_123_39, kd_142, ln_142, fi_123_40, kd_143, ln_143, fi_123_41, kd_144, ln_144, fi_123_42, kd_145, ln_145, fi_123_43, kd_146, ln_146, fi_123_55, kd_151, ln_151, fi_123_56, kd_152, ln_152, kd_123, kd_135, ↓reduceIte, gd_t, hK_q, hN_q, hF_q, hI_q, hJ_q, hR_q, stI_q, stJ_q, stR_q, stA_q, va_rf_s, va_rf_n, clr_i, clr_l, clr_r, clr_n, clr_o, w8_0, w8_1i, w8_1r, w8_2ii, w8_2ri, w8_2ir, w8_2rr, w8_3, beq_self_eq_true, Bool.and_self, Bool.and_true, Bool.true_and, decide_true, Option.toList_some, Option.toList_none, List.cons_append, List.nil_append, Option.bind_some, if_true, if_false, Nat.reduceLeDiff, Nat.reduceLT, Nat.reduceBEq, Bool.or_false, Bool.false_or, Bool.or_true, Bool.true_or, c]
end HQ
section HQ
variable {Y : Mem} {J2 : MemL} {R2 : MemR}
theorem kpt_136_q {d : Nat} : E (C (d + 1)) MX12_keepText 127 [some (.ref 123), none] [] (hq (zc Y 136) J2 R2) = E (C (d + 1)) MX12_keepText 136 [some (.ref 123), none] [] (hq (zc Y 137) J2 R2) := by
  have c : C (d + 1) MX12_copies [.ref 136, .int 6] (hq (zc Y 136) J2 R2) = some (none, hq (zc Y 137) J2 R2) := cpz_m_q (n := 6) (by omega) rfl kd_136 ln_136 (by omega) rfl
  simp (disch := omega) only [xX12_keepText_127, xX12_keepText_128, xX12_keepText_131, xX12_keepText_133, kd_123, fi_123_23, kd_126, ln_126, fi_123_24, kd_127, ln_127, fi_123_25, kd_128, ln_128, fi_123_26, kd_129, ln_129, fi_123_27, kd_130, ln_130, fi_123_28, kd_131, ln_131, fi_123_29, kd_132, ln_132, fi_123_30, kd_133, ln_133, fi_123_31, kd_134, ln_134, fi_123_32, kd_135, ln_135, fi_123_33, kd_136, ln_136, fi_123_34, kd_137, ln_137, fi_123_35, kd_138, ln_138, fi_123_36, kd_139, ln_139, fi_123_37, kd_140, ln_140, fi_123_38, kd_141, ln_141, fi_123_39, kd_142, ln_142, fi_123_40, kd_143, ln_143, fi_123_41, kd_144, ln_144, fi_123_42, kd_145, ln_145, fi_123_43, kd_146, ln_146, fi_123_55, kd_151, ln_151, fi_123_56, kd_152, ln_152, kd_123, kd_136, ↓reduceIte, gd_t, hK_q, hN_q, hF_q, hI_q, hJ_q, hR_q, stI_q, stJ_q, stR_q, stA_q, va_rf_s, va_rf_n, clr_i, clr_l, clr_r, clr_n, clr_o, w8_0, w8_1i, w8_1r, w8_2ii, w8_2ri, w8_2ir, w8_2rr, w8_3, beq_self_eq_true, Bool.and_self, Bool.and_true, Bool.true_and, decide_true, Option.toList_some, Option.toList_none, List.cons_append, List.nil_append, Option.bind_some, if_true, if_false, Nat.reduceLeDiff, Nat.reduceLT, Nat.reduceBEq, Bool.or_false, Bool.false_or, Bool.or_true, Bool.true_or, c]
end HQ
section HQ
variable {Y : Mem} {J2 : MemL} {R2 : MemR}
theorem kpt_137_q {d : Nat} : E (C (d + 1)) MX12_keepText 136 [some (.ref 123), none] [] (hq (zc Y 137) J2 R2) = E (C (d + 1)) MX12_keepText 145 [some (.ref 123), none] [] (hq (zc Y 138) J2 R2) := by
  have c : C (d + 1) MX12_copies [.ref 137, .int 6] (hq (zc Y 137) J2 R2) = some (none, hq (zc Y 138) J2 R2) := cpz_m_q (n := 6) (by omega) rfl kd_137 ln_137 (by omega) rfl
  simp (disch := omega) only [xX12_keepText_136, xX12_keepText_137, xX12_keepText_140, xX12_keepText_142, kd_123, fi_123_23, kd_126, ln_126, fi_123_24, kd_127, ln_127, fi_123_25, kd_128, ln_128, fi_123_26, kd_129, ln_129, fi_123_27, kd_130, ln_130, fi_123_28, kd_131, ln_131, fi_123_29, kd_132, ln_132, fi_123_30, kd_133, ln_133, fi_123_31, kd_134, ln_134, fi_123_32, kd_135, ln_135, fi_123_33, kd_136, ln_136, fi_123_34, kd_137, ln_137, fi_123_35, kd_138, ln_138, fi_123_36, kd_139, ln_139, fi_123_37, kd_140, ln_140, fi_123_38, kd_141, ln_141, fi_123_39, kd_142, ln_142, fi_123_40, kd_143, ln_143, fi_123_41, kd_144, ln_144, fi_123_42, kd_145, ln_145, fi_123_43, kd_146, ln_146, fi_123_55, kd_151, ln_151, fi_123_56, kd_152, ln_152, kd_123, kd_137, ↓reduceIte, gd_t, hK_q, hN_q, hF_q, hI_q, hJ_q, hR_q, stI_q, stJ_q, stR_q, stA_q, va_rf_s, va_rf_n, clr_i, clr_l, clr_r, clr_n, clr_o, w8_0, w8_1i, w8_1r, w8_2ii, w8_2ri, w8_2ir, w8_2rr, w8_3, beq_self_eq_true, Bool.and_self, Bool.and_true, Bool.true_and, decide_true, Option.toList_some, Option.toList_none, List.cons_append, List.nil_append, Option.bind_some, if_true, if_false, Nat.reduceLeDiff, Nat.reduceLT, Nat.reduceBEq, Bool.or_false, Bool.false_or, Bool.or_true, Bool.true_or, c]
end HQ
section HQ
variable {Y : Mem} {J2 : MemL} {R2 : MemR}
theorem kpt_138_q {d : Nat} : E (C (d + 1)) MX12_keepText 145 [some (.ref 123), none] [] (hq (zc Y 138) J2 R2) = E (C (d + 1)) MX12_keepText 153 [some (.ref 123), none] [] (hq (zc Y 139) J2 R2) := by
  have c : C (d + 1) MX12_copies [.ref 138, .int 4] (hq (zc Y 138) J2 R2) = some (none, hq (zc Y 139) J2 R2) := cpz_m_q (n := 4) (by omega) rfl kd_138 ln_138 (by omega) rfl
  simp (disch := omega) only [xX12_keepText_145, xX12_keepText_146, xX12_keepText_149, xX12_keepText_150, kd_123, fi_123_23, kd_126, ln_126, fi_123_24, kd_127, ln_127, fi_123_25, kd_128, ln_128, fi_123_26, kd_129, ln_129, fi_123_27, kd_130, ln_130, fi_123_28, kd_131, ln_131, fi_123_29, kd_132, ln_132, fi_123_30, kd_133, ln_133, fi_123_31, kd_134, ln_134, fi_123_32, kd_135, ln_135, fi_123_33, kd_136, ln_136, fi_123_34, kd_137, ln_137, fi_123_35, kd_138, ln_138, fi_123_36, kd_139, ln_139, fi_123_37, kd_140, ln_140, fi_123_38, kd_141, ln_141, fi_123_39, kd_142, ln_142, fi_123_40, kd_143, ln_143, fi_123_41, kd_144, ln_144, fi_123_42, kd_145, ln_145, fi_123_43, kd_146, ln_146, fi_123_55, kd_151, ln_151, fi_123_56, kd_152, ln_152, kd_123, kd_138, ↓reduceIte, gd_t, hK_q, hN_q, hF_q, hI_q, hJ_q, hR_q, stI_q, stJ_q, stR_q, stA_q, va_rf_s, va_rf_n, clr_i, clr_l, clr_r, clr_n, clr_o, w8_0, w8_1i, w8_1r, w8_2ii, w8_2ri, w8_2ir, w8_2rr, w8_3, beq_self_eq_true, Bool.and_self, Bool.and_true, Bool.true_and, decide_true, Option.toList_some, Option.toList_none, List.cons_append, List.nil_append, Option.bind_some, if_true, if_false, Nat.reduceLeDiff, Nat.reduceLT, Nat.reduceBEq, Bool.or_false, Bool.false_or, Bool.or_true, Bool.true_or, c]
end HQ
section HQ
variable {Y : Mem} {J2 : MemL} {R2 : MemR}
theorem kpt_139_q {d : Nat} : E (C (d + 1)) MX12_keepText 153 [some (.ref 123), none] [] (hq (zc Y 139) J2 R2) = E (C (d + 1)) MX12_keepText 162 [some (.ref 123), none] [] (hq (zc Y 140) J2 R2) := by
  have c : C (d + 1) MX12_copies [.ref 139, .int 24] (hq (zc Y 139) J2 R2) = some (none, hq (zc Y 140) J2 R2) := cpz_m_q (n := 24) (by omega) rfl kd_139 ln_139 (by omega) rfl
  simp (disch := omega) only [xX12_keepText_153, xX12_keepText_154, xX12_keepText_157, xX12_keepText_159, kd_123, fi_123_23, kd_126, ln_126, fi_123_24, kd_127, ln_127, fi_123_25, kd_128, ln_128, fi_123_26, kd_129, ln_129, fi_123_27, kd_130, ln_130, fi_123_28, kd_131, ln_131, fi_123_29, kd_132, ln_132, fi_123_30, kd_133, ln_133, fi_123_31, kd_134, ln_134, fi_123_32, kd_135, ln_135, fi_123_33, kd_136, ln_136, fi_123_34, kd_137, ln_137, fi_123_35, kd_138, ln_138, fi_123_36, kd_139, ln_139, fi_123_37, kd_140, ln_140, fi_123_38, kd_141, ln_141, fi_123_39, kd_142, ln_142, fi_123_40, kd_143, ln_143, fi_123_41, kd_144, ln_144, fi_123_42, kd_145, ln_145, fi_123_43, kd_146, ln_146, fi_123_55, kd_151, ln_151, fi_123_56, kd_152, ln_152, kd_123, kd_139, ↓reduceIte, gd_t, hK_q, hN_q, hF_q, hI_q, hJ_q, hR_q, stI_q, stJ_q, stR_q, stA_q, va_rf_s, va_rf_n, clr_i, clr_l, clr_r, clr_n, clr_o, w8_0, w8_1i, w8_1r, w8_2ii, w8_2ri, w8_2ir, w8_2rr, w8_3, beq_self_eq_true, Bool.and_self, Bool.and_true, Bool.true_and, decide_true, Option.toList_some, Option.toList_none, List.cons_append, List.nil_append, Option.bind_some, if_true, if_false, Nat.reduceLeDiff, Nat.reduceLT, Nat.reduceBEq, Bool.or_false, Bool.false_or, Bool.or_true, Bool.true_or, c]
end HQ
section HQ
variable {Y : Mem} {J2 : MemL} {R2 : MemR}
theorem kpt_140_q {d : Nat} : E (C (d + 1)) MX12_keepText 162 [some (.ref 123), none] [] (hq (zc Y 140) J2 R2) = E (C (d + 1)) MX12_keepText 171 [some (.ref 123), none] [] (hq (zc Y 141) J2 R2) := by
  have c : C (d + 1) MX12_copies [.ref 140, .int 24] (hq (zc Y 140) J2 R2) = some (none, hq (zc Y 141) J2 R2) := cpz_m_q (n := 24) (by omega) rfl kd_140 ln_140 (by omega) rfl
  simp (disch := omega) only [xX12_keepText_162, xX12_keepText_163, xX12_keepText_166, xX12_keepText_168, kd_123, fi_123_23, kd_126, ln_126, fi_123_24, kd_127, ln_127, fi_123_25, kd_128, ln_128, fi_123_26, kd_129, ln_129, fi_123_27, kd_130, ln_130, fi_123_28, kd_131, ln_131, fi_123_29, kd_132, ln_132, fi_123_30, kd_133, ln_133, fi_123_31, kd_134, ln_134, fi_123_32, kd_135, ln_135, fi_123_33, kd_136, ln_136, fi_123_34, kd_137, ln_137, fi_123_35, kd_138, ln_138, fi_123_36, kd_139, ln_139, fi_123_37, kd_140, ln_140, fi_123_38, kd_141, ln_141, fi_123_39, kd_142, ln_142, fi_123_40, kd_143, ln_143, fi_123_41, kd_144, ln_144, fi_123_42, kd_145, ln_145, fi_123_43, kd_146, ln_146, fi_123_55, kd_151, ln_151, fi_123_56, kd_152, ln_152, kd_123, kd_140, ↓reduceIte, gd_t, hK_q, hN_q, hF_q, hI_q, hJ_q, hR_q, stI_q, stJ_q, stR_q, stA_q, va_rf_s, va_rf_n, clr_i, clr_l, clr_r, clr_n, clr_o, w8_0, w8_1i, w8_1r, w8_2ii, w8_2ri, w8_2ir, w8_2rr, w8_3, beq_self_eq_true, Bool.and_self, Bool.and_true, Bool.true_and, decide_true, Option.toList_some, Option.toList_none, List.cons_append, List.nil_append, Option.bind_some, if_true, if_false, Nat.reduceLeDiff, Nat.reduceLT, Nat.reduceBEq, Bool.or_false, Bool.false_or, Bool.or_true, Bool.true_or, c]
end HQ
section HQ
variable {Y : Mem} {J2 : MemL} {R2 : MemR}
theorem kpt_a_q {d : Nat} : E (C (d + 1)) MX12_keepText 40 [some (.ref 123), none] [] (hq (zc Y 126) J2 R2) = E (C (d + 1)) MX12_keepText 173 [some (.ref 123), some (.int 0)] [] (hq (zc Y 141) J2 R2) := by
  rw [kpt_126_q, kpt_127_q, kpt_128_q, kpt_129_q, kpt_130_q, kpt_131_q, kpt_132_q, kpt_133_q, kpt_134_q, kpt_135_q, kpt_136_q, kpt_137_q, kpt_138_q, kpt_139_q, kpt_140_q]
  simp only [xX12_keepText_171, xX12_keepText_172, ↓reduceIte, gd_t, hK_q, hN_q, hF_q, hI_q, hJ_q, hR_q, stI_q, stJ_q, stR_q, stA_q, va_rf_s, va_rf_n, clr_i, clr_l, clr_r, clr_n, clr_o, w8_0, w8_1i, w8_1r, w8_2ii, w8_2ri, w8_2ir, w8_2rr, w8_3, beq_self_eq_true, Bool.and_self, Bool.and_true, Bool.true_and, decide_true, Option.toList_some, Option.toList_none, List.cons_append, List.nil_append, Option.bind_some, if_true, if_false, Nat.reduceLeDiff, Nat.reduceLT, Nat.reduceBEq, Bool.or_false, Bool.false_or, Bool.or_true, Bool.true_or]
end HQ
section HQ
variable {Y : Mem} {J2 : MemL} {R2 : MemR}
theorem kpt_b_q {d : Nat} : E (C (d + 1)) MX12_keepText 198 [some (.ref 123), some (.int 2)] [] (hq (zc Y 142) J2 R2) = E (C (d + 1)) MX12_keepText 241 [some (.ref 123), some (.int 2)] [] (hq (zc Y 147) J2 R2) := by
  have c142 : C (d + 1) MX12_copies [.ref 142, .int 2] (hq (zc Y 142) J2 R2) = some (none, hq (zc Y 143) J2 R2) := cpz_m_q (n := 2) (by omega) rfl kd_142 ln_142 (by omega) rfl
  have c143 : C (d + 1) MX12_copies [.ref 143, .int 2] (hq (zc Y 143) J2 R2) = some (none, hq (zc Y 144) J2 R2) := cpz_m_q (n := 2) (by omega) rfl kd_143 ln_143 (by omega) rfl
  have c144 : C (d + 1) MX12_copies [.ref 144, .int 64] (hq (zc Y 144) J2 R2) = some (none, hq (zc Y 145) J2 R2) := cpz_m_q (n := 64) (by omega) rfl kd_144 ln_144 (by omega) rfl
  have c145 : C (d + 1) MX12_copies [.ref 145, .int 64] (hq (zc Y 145) J2 R2) = some (none, hq (zc Y 146) J2 R2) := cpz_m_q (n := 64) (by omega) rfl kd_145 ln_145 (by omega) rfl
  have c146 : C (d + 1) MX12_copies [.ref 146, .int 64] (hq (zc Y 146) J2 R2) = some (none, hq (zc Y 147) J2 R2) := cpz_m_q (n := 64) (by omega) rfl kd_146 ln_146 (by omega) rfl
  simp (disch := omega) only [xX12_keepText_198, xX12_keepText_199, xX12_keepText_202, xX12_keepText_203, xX12_keepText_206, xX12_keepText_207, xX12_keepText_210, xX12_keepText_211, xX12_keepText_214, xX12_keepText_215, xX12_keepText_218, xX12_keepText_220, xX12_keepText_223, xX12_keepText_224, xX12_keepText_227, xX12_keepText_229, xX12_keepText_232, xX12_keepText_233, xX12_keepText_236, xX12_keepText_238, kd_123, fi_123_23, kd_126, ln_126, fi_123_24, kd_127, ln_127, fi_123_25, kd_128, ln_128, fi_123_26, kd_129, ln_129, fi_123_27, kd_130, ln_130, fi_123_28, kd_131, ln_131, fi_123_29, kd_132, ln_132, fi_123_30, kd_133, ln_133, fi_123_31, kd_134, ln_134, fi_123_32, kd_135, ln_135, fi_123_33, kd_136, ln_136, fi_123_34, kd_137, ln_137, fi_123_35, kd_138, ln_138, fi_123_36, kd_139, ln_139, fi_123_37, kd_140, ln_140, fi_123_38, kd_141, ln_141, fi_123_39, kd_142, ln_142, fi_123_40, kd_143, ln_143, fi_123_41, kd_144, ln_144, fi_123_42, kd_145, ln_145, fi_123_43, kd_146, ln_146, fi_123_55, kd_151, ln_151, fi_123_56, kd_152, ln_152, kd_123, kd_142, kd_143, kd_144, kd_145, kd_146, ↓reduceIte, gd_t, hK_q, hN_q, hF_q, hI_q, hJ_q, hR_q, stI_q, stJ_q, stR_q, stA_q, va_rf_s, va_rf_n, clr_i, clr_l, clr_r, clr_n, clr_o, w8_0, w8_1i, w8_1r, w8_2ii, w8_2ri, w8_2ir, w8_2rr, w8_3, beq_self_eq_true, Bool.and_self, Bool.and_true, Bool.true_and, decide_true, Option.toList_some, Option.toList_none, List.cons_append, List.nil_append, Option.bind_some, if_true, if_false, Nat.reduceLeDiff, Nat.reduceLT, Nat.reduceBEq, Bool.or_false, Bool.false_or, Bool.or_true, Bool.true_or, c142, c143, c144, c145, c146]
end HQ
section HQ
variable {Y : Mem} {J2 : MemL} {R2 : MemR}
/-- keepText -/
theorem kpt_m_q {d n : Nat} (hb : ∀ k, k = 2 ∨ k = 3 → Y 141 k = 0 ∨ Y 141 k = 1) (hn : Y 123 18 = nI n) (hn6 : n ≤ 6) : ∃ Y', C (d + 2) MX12_keepText [.ref 123] (hq Y J2 R2) = some (none, hq Y' J2 R2) ∧ (Y' 123 12 = Y 123 17 ∧ Y' 123 13 = Y 123 18 ∧ Y' 123 14 = Y 123 19 ∧ Y' 123 15 = Y 123 20 ∧ Y' 123 16 = Y 123 21) ∧ (∀ a k, 126 ≤ a → a ≤ 146 → k < hfM a → Y' a k = Y a (hfM a + k)) ∧ (∀ k, k < 6 → Y' 151 k = Y 130 (6 + k) ∧ Y' 152 k = Y 131 (6 + k)) ∧ (∀ k, k < n → Y' 153 k = Y 134 (6 + k) ∧ Y' 154 k = Y 136 (6 + k) ∧ Y' 155 k = 0 ∧ Y' 156 k = 0) ∧ (Y' 123 70 = 0 ∧ Y' 123 73 = 0 ∧ Y' 123 79 = 0 ∧ Y' 123 80 = -1 ∧ Y' 123 84 = 0) ∧ (∀ k, k < 12 → Y' 123 k = Y 123 k) ∧ ∀ c, c < 123 ∨ c = 124 ∨ c = 125 → Y' c = Y c := by
  generalize hY1 : va_up Y 123 (upd (upd (upd (upd (upd (Y 123) 12 (Y 123 17)) 13 (Y 123 18)) 14 (Y 123 19)) 15 (Y 123 20)) 16 (Y 123 21)) = Y1
  have y1o : ∀ a, a ≠ 123 → Y1 a = Y a := fun a ha => by rw [← hY1, up_n ha]
  have y1k : ∀ k, k < 12 ∨ 16 < k → Y1 123 k = Y 123 k := fun k hk => by rw [← hY1, up_s, pk_un (by omega), pk_un (by omega), pk_un (by omega), pk_un (by omega), pk_un (by omega)]
  have y1e : Y1 123 12 = Y 123 17 ∧ Y1 123 13 = Y 123 18 ∧ Y1 123 14 = Y 123 19 ∧ Y1 123 15 = Y 123 20 ∧ Y1 123 16 = Y 123 21 := by
    rw [← hY1, up_s]
    exact ⟨rfl, rfl, rfl, rfl, rfl⟩
  have z0 : zc Y1 126 = Y1 := by
    funext c
    unfold zc
    rw [if_neg (by omega)]
  have hlaw := law_cp_q (d := d + 1) (Y := Y1) (J2 := J2) (R2 := R2) (fun k hk => by rw [y1o 141 (by decide)]; exact hb k hk)
  obtain ⟨Z2, hz2, b1, b2⟩ := bea_cp_q (d := d + 1) (Z := zc Y1 147) (J2 := J2) (R2 := R2)
  have z123 : ∀ k, Z2 123 k = Y1 123 k := fun k => by rw [b2 123 (by decide) (by decide), zc_o (by omega)]
  have hp1 := pla_spec_q (d := d) (I := Z2) (J := J2) (R := R2)
  generalize hZ3 : plaM Z2 = Z3 at hp1
  have z3o : ∀ c, c ≠ 123 → c ≠ 157 → c ≠ 158 → Z3 c = Z2 c := fun c h1 h2 h3 => by rw [← hZ3]; unfold plaM; rw [up_n h3, up_n h2, up_n h1]
  have z3k : ∀ k, k < 61 ∨ 65 < k → Z3 123 k = Z2 123 k := fun k hk => by
    rw [← hZ3]
    unfold plaM plaO
    rw [up_n (by decide), up_n (by decide), up_s, pk_un (by omega), pk_un (by omega), pk_un (by omega), pk_un (by omega), pk_un (by omega)]
  have h13 : Z3 123 13 = nI n := by rw [z3k 13 (by omega), z123, y1e.2.1]; exact hn
  have hb1 := bgn_spec_q (d := d) (at1 := 0) (I := Z3) (J := J2) (R := R2) (by omega) h13 hn6
  rw [show nI 0 = 0 from rfl] at hb1
  generalize hZ4 : bgnM Z3 0 n = Z4 at hb1
  have z4o : ∀ c, c < 153 ∨ 156 < c → Z4 c = Z3 c := fun c hc => by
    rw [← hZ4]
    unfold bgnM
    by_cases w : c = 123
    · subst w
      rw [mdM_0]
    · rw [mdM_o (by omega) (by omega) (by omega) (by omega) (by omega)]
  have zrow : ∀ a k, 126 ≤ a → a ≤ 146 → k < hfM a → Z4 a k = Y a (hfM a + k) := fun a k h1 h2 h3 => by
    rw [z4o a (by omega), z3o a (by omega) (by omega) (by omega), b2 a (by omega) (by omega)]
    unfold zc cpsF
    rw [if_pos (by omega), if_pos h3, y1o a (by omega)]
  have z123' : ∀ k, k < 61 ∨ 65 < k → Z4 123 k = Y1 123 k := fun k hk => by rw [z4o 123 (by omega), z3k k hk, z123]
  generalize hY5 : va_up Z4 123 (upd (upd (upd (upd (upd (Z4 123) 70 0) 73 0) 79 0) 80 (-1)) 84 0) = Y5
  have y5o : ∀ a, a ≠ 123 → Y5 a = Z4 a := fun a ha => by rw [← hY5, up_n ha]
  have y5k : ∀ k, k < 61 → Y5 123 k = Y1 123 k := fun k hk => by rw [← hY5, up_s, pk_un (by omega), pk_un (by omega), pk_un (by omega), pk_un (by omega), pk_un (by omega), z123' k (by omega)]
  refine ⟨Y5, ?_, ?_, fun a k h1 h2 h3 => ?_, fun k hk => ?_, fun k hk => ?_, ?_, fun k hk => ?_, fun c hc => ?_⟩
  · have e241 : E (C (d + 1)) MX12_keepText 241 [some (.ref 123), some (.int 2)] [] (hq (zc Y1 147) J2 R2) = some (none, hq Y5 J2 R2) := by
      have e0 : E (C (d + 1)) MX12_keepText 241 [some (.ref 123), some (.int 2)] [] (hq (zc Y1 147) J2 R2) = E (C (d + 1)) MX12_keepText 243 [some (.ref 123), some (.int 0)] [] (hq (zc Y1 147) J2 R2) := by
        simp only [xX12_keepText_241, xX12_keepText_242, ↓reduceIte, gd_t, hK_q, hN_q, hF_q, hI_q, hJ_q, hR_q, stI_q, stJ_q, stR_q, stA_q, va_rf_s, va_rf_n, clr_i, clr_l, clr_r, clr_n, clr_o, w8_0, w8_1i, w8_1r, w8_2ii, w8_2ri, w8_2ir, w8_2rr, w8_3, beq_self_eq_true, Bool.and_self, Bool.and_true, Bool.true_and, decide_true, Option.toList_some, Option.toList_none, List.cons_append, List.nil_append, Option.bind_some, if_true, if_false, Nat.reduceLeDiff, Nat.reduceLT, Nat.reduceBEq, Bool.or_false, Bool.false_or, Bool.or_true, Bool.true_or]
      rw [e0, hz2]
      simp (disch := omega) only [xX12_keepText_279, xX12_keepText_280, xX12_keepText_283, xX12_keepText_284, xX12_keepText_285, xX12_keepText_288, xX12_keepText_289, xX12_keepText_290, xX12_keepText_293, xX12_keepText_294, xX12_keepText_295, xX12_keepText_298, xX12_keepText_299, xX12_keepText_300, xX12_keepText_303, xX12_keepText_304, xX12_keepText_305, xX12_keepText_308, xX12_keepText_309, xX12_keepText_310, xX12_keepText_313, kd_123, fi_123_23, kd_126, ln_126, fi_123_24, kd_127, ln_127, fi_123_25, kd_128, ln_128, fi_123_26, kd_129, ln_129, fi_123_27, kd_130, ln_130, fi_123_28, kd_131, ln_131, fi_123_29, kd_132, ln_132, fi_123_30, kd_133, ln_133, fi_123_31, kd_134, ln_134, fi_123_32, kd_135, ln_135, fi_123_33, kd_136, ln_136, fi_123_34, kd_137, ln_137, fi_123_35, kd_138, ln_138, fi_123_36, kd_139, ln_139, fi_123_37, kd_140, ln_140, fi_123_38, kd_141, ln_141, fi_123_39, kd_142, ln_142, fi_123_40, kd_143, ln_143, fi_123_41, kd_144, ln_144, fi_123_42, kd_145, ln_145, fi_123_43, kd_146, ln_146, fi_123_55, kd_151, ln_151, fi_123_56, kd_152, ln_152, kd_123, ↓reduceIte, gd_t, hK_q, hN_q, hF_q, hI_q, hJ_q, hR_q, stI_q, stJ_q, stR_q, stA_q, va_rf_s, va_rf_n, clr_i, clr_l, clr_r, clr_n, clr_o, w8_0, w8_1i, w8_1r, w8_2ii, w8_2ri, w8_2ir, w8_2rr, w8_3, beq_self_eq_true, Bool.and_self, Bool.and_true, Bool.true_and, decide_true, Option.toList_some, Option.toList_none, List.cons_append, List.nil_append, Option.bind_some, if_true, if_false, Nat.reduceLeDiff, Nat.reduceLT, Nat.reduceBEq, Bool.or_false, Bool.false_or, Bool.or_true, Bool.true_or, hp1, hb1, up_s, bx_uu, hY5]
    have e198 := kpt_b_q (d := d) (Y := Y1) (J2 := J2) (R2 := R2)
    rw [eX12_keepText]
    have e0 : E (C (d + 1)) MX12_keepText 0 [some (.ref 123), none] [] (hq Y J2 R2) = E (C (d + 1)) MX12_keepText 40 [some (.ref 123), none] [] (hq (zc Y1 126) J2 R2) := by
      rw [z0]
      simp (disch := omega) only [xX12_keepText_0, xX12_keepText_1, xX12_keepText_2, xX12_keepText_5, xX12_keepText_8, xX12_keepText_9, xX12_keepText_10, xX12_keepText_13, xX12_keepText_16, xX12_keepText_17, xX12_keepText_18, xX12_keepText_21, xX12_keepText_24, xX12_keepText_25, xX12_keepText_26, xX12_keepText_29, xX12_keepText_32, xX12_keepText_33, xX12_keepText_34, xX12_keepText_37, kd_123, fi_123_23, kd_126, ln_126, fi_123_24, kd_127, ln_127, fi_123_25, kd_128, ln_128, fi_123_26, kd_129, ln_129, fi_123_27, kd_130, ln_130, fi_123_28, kd_131, ln_131, fi_123_29, kd_132, ln_132, fi_123_30, kd_133, ln_133, fi_123_31, kd_134, ln_134, fi_123_32, kd_135, ln_135, fi_123_33, kd_136, ln_136, fi_123_34, kd_137, ln_137, fi_123_35, kd_138, ln_138, fi_123_36, kd_139, ln_139, fi_123_37, kd_140, ln_140, fi_123_38, kd_141, ln_141, fi_123_39, kd_142, ln_142, fi_123_40, kd_143, ln_143, fi_123_41, kd_144, ln_144, fi_123_42, kd_145, ln_145, fi_123_43, kd_146, ln_146, fi_123_55, kd_151, ln_151, fi_123_56, kd_152, ln_152, kd_123, ↓reduceIte, gd_t, hK_q, hN_q, hF_q, hI_q, hJ_q, hR_q, stI_q, stJ_q, stR_q, stA_q, va_rf_s, va_rf_n, clr_i, clr_l, clr_r, clr_n, clr_o, w8_0, w8_1i, w8_1r, w8_2ii, w8_2ri, w8_2ir, w8_2rr, w8_3, beq_self_eq_true, Bool.and_self, Bool.and_true, Bool.true_and, decide_true, Option.toList_some, Option.toList_none, List.cons_append, List.nil_append, Option.bind_some, if_true, if_false, Nat.reduceLeDiff, Nat.reduceLT, Nat.reduceBEq, Bool.or_false, Bool.false_or, Bool.or_true, Bool.true_or, up_s, pk_un, bx_uu, hY1]
    have e40 := kpt_a_q (d := d) (Y := Y1) (J2 := J2) (R2 := R2)
    rw [e0, e40, hlaw, e198, e241]
  · rw [y5k 12 (by omega), y5k 13 (by omega), y5k 14 (by omega), y5k 15 (by omega), y5k 16 (by omega)]; exact y1e
  · rw [y5o a (by omega)]; exact zrow a k h1 h2 h3
  · have hk6 := b1 k hk
    have h130 : zc Y1 147 130 k = Y 130 (6 + k) := by
      unfold zc cpsF
      rw [if_pos (by omega), if_pos (show k < hfM 130 from hk), y1o 130 (by decide)]; rfl
    have h131 : zc Y1 147 131 k = Y 131 (6 + k) := by
      unfold zc cpsF
      rw [if_pos (by omega), if_pos (show k < hfM 131 from hk), y1o 131 (by decide)]; rfl
    rw [y5o 151 (by decide), y5o 152 (by decide), z4o 151 (by omega), z4o 152 (by omega), z3o 151 (by decide) (by decide) (by decide), z3o 152 (by decide) (by decide) (by decide), hk6.1, hk6.2, h130, h131]
    exact ⟨rfl, rfl⟩
  · have r134 : Z3 134 k = Y 134 (6 + k) := by rw [← z4o 134 (by omega)]; exact zrow 134 k (by decide) (by decide) (show k < 6 by omega)
    have r136 : Z3 136 k = Y 136 (6 + k) := by rw [← z4o 136 (by omega)]; exact zrow 136 k (by decide) (by decide) (show k < 6 by omega)
    rw [y5o 153 (by decide), y5o 154 (by decide), y5o 155 (by decide), y5o 156 (by decide), ← r134, ← r136, ← hZ4]
    unfold bgnM
    rw [mdM_1, mdM_2, mdM_3, mdM_4]
    have pz : ∀ r f : Nat → Int32, pt 0 r f k = f k := fun r f => by
      have := pt_at (at1 := 0) (c := k) (r := r) (f := f) (by omega)
      rw [Nat.zero_add] at this
      exact this
    rw [pz, pz, pz, pz]
    unfold cpF zerF
    simp only [if_pos hk, and_self]
  · rw [← hY5, up_s]
    exact ⟨rfl, rfl, rfl, rfl, rfl⟩
  · rw [y5k k (by omega), y1k k (by omega)]
  · rw [y5o c (by omega), z4o c (by omega), z3o c (by omega) (by omega) (by omega), b2 c (by omega) (by omega), zc_o (by omega), y1o c (by omega)]
end HQ

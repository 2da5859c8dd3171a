-- TEXT, 23: an E: the postfix row and the knots, one more of both
theorem hgt_cg {k k' : Nat → Int32} : ∀ i, (∀ j, j < i → k j = k' j) → hgt k i = hgt k' i
  | 0, _ => rfl
  | i + 1, h => by
    unfold hgt
    rw [hgt_cg i (fun j hj => h j (by omega)), h i (by omega)]
theorem ixs_cg {k k' : Nat → Int32} : ∀ i, (∀ j, j < i → k j = k' j) → ixs k i = ixs k' i
  | 0, _ => rfl
  | i + 1, h => by
    unfold ixs
    rw [ixs_cg i (fun j hj => h j (by omega)), hgt_cg (i + 1) h]
theorem hgt_le {k : Nat → Int32} : ∀ i, hgt k i ≤ i
  | 0 => Nat.le_refl 0
  | i + 1 => by
    have := hgt_le (k := k) i
    unfold hgt
    split
    · omega
    · split <;> omega
def sh64 (r : Nat → Int32) : Nat → Int32 := fun k => r (64 + k)
theorem sh64_up {r : Nat → Int32} {k : Nat} {x : Int32} : sh64 (upd r (64 + k) x) = upd (sh64 r) k x := by
  funext j
  unfold sh64
  by_cases w : j = k
  · rw [w, pk_us, pk_us]
  · rw [pk_un w, pk_un (by omega)]
theorem cLw_cg {ki nu kn pa ot ki' nu' kn' pa' ot' : Nat → Int32} {fi i len : Nat} (hi : i < len) (h1 : ∀ j, j < len → ki j = ki' j) (h2 : ∀ j, j < len → nu j = nu' j) (h3 : ∀ j, j < fi + len → kn j = kn' j ∧ pa j = pa' j ∧ ot j = ot' j) (h : cLw ki nu kn pa ot fi i) : cLw ki' nu' kn' pa' ot' fi i := by
  unfold cLw at h ⊢
  obtain ⟨e1, e2, e3⟩ := h3 (fi + i) (by omega)
  rw [← h1 i hi, ← h2 i hi, ← e1, ← e2, ← e3, ← hgt_cg (k := ki) (k' := ki') i (fun j hj => h1 j (by omega)), ← ixs_cg (k := ki) (k' := ki') i (fun j hj => h1 j (by omega))]
  exact h
/-- the law at g: what both have of it -/
def pfR (X Y : Mem) (g fi len : Nat) : Prop := X g 1 = nI len ∧ Y 123 20 = nI (fi + len) ∧ fi + len ≤ 64 ∧ (∀ i, i < len → wfK (X (g + 1) i) (hgt (X (g + 1)) i) ∧ cLw (X (g + 1)) (X (g + 2)) (sh64 (Y 144)) (sh64 (Y 145)) (sh64 (Y 146)) fi i) ∧ Y 123 47 = nI (hgt (X (g + 1)) len) ∧ ∀ j, j < hgt (X (g + 1)) len → Y 148 j = nI (fi + ixs (X (g + 1)) len j)
/-- the class's one more, the model's one more -/
def puC (X : Mem) (g len : Nat) (k nu : Int32) : Mem := va_up (va_up (va_up X (g + 1) (upd (X (g + 1)) len k)) (g + 2) (upd (X (g + 2)) len nu)) g (upd (X g) 1 (nI (len + 1)))
def puM (Y : Mem) (q h : Nat) (k a b : Int32) : Mem := va_up (va_up (va_up (va_up (va_up Y 144 (upd (Y 144) (64 + q) k)) 145 (upd (Y 145) (64 + q) a)) 146 (upd (Y 146) (64 + q) b)) 148 (upd (Y 148) h (nI q))) 123 (upd (upd (Y 123) 47 (nI (h + 1))) 20 (nI (q + 1)))
section PU
variable {X Y : Mem} {J J2 : MemL} {R R2 : MemR} {g fi len : Nat}
theorem puC_o {k nu : Int32} (c : Nat) (h1 : c ≠ g) (h2 : c ≠ g + 1) (h3 : c ≠ g + 2) : puC X g len k nu c = X c := by
  unfold puC
  rw [up_n h1, up_n h3, up_n h2]
theorem puC_e {k nu : Int32} : puC X g len k nu g = upd (X g) 1 (nI (len + 1)) ∧ puC X g len k nu (g + 1) = upd (X (g + 1)) len k ∧ puC X g len k nu (g + 2) = upd (X (g + 2)) len nu := by
  unfold puC
  refine ⟨by rw [up_s], ?_, ?_⟩
  · rw [up_n (by omega), up_n (by omega), up_s]
  · rw [up_n (by omega), up_s]
theorem puM_o {q h : Nat} {k a b : Int32} (c : Nat) (h1 : c ≠ 123) (h2 : c < 144 ∨ 146 < c) (h3 : c ≠ 148) : puM Y q h k a b c = Y c := by
  unfold puM
  rw [up_n h1, up_n h3, up_n (by omega), up_n (by omega), up_n (by omega)]
theorem puM_e {q h : Nat} {k a b : Int32} : puM Y q h k a b 123 = upd (upd (Y 123) 47 (nI (h + 1))) 20 (nI (q + 1)) ∧ puM Y q h k a b 144 = upd (Y 144) (64 + q) k ∧ puM Y q h k a b 145 = upd (Y 145) (64 + q) a ∧ puM Y q h k a b 146 = upd (Y 146) (64 + q) b ∧ puM Y q h k a b 148 = upd (Y 148) h (nI q) := by
  unfold puM
  refine ⟨by rw [up_s], ?_, ?_, ?_, ?_⟩
  · rw [up_n (by decide), up_n (by decide), up_n (by decide), up_n (by decide), up_s]
  · rw [up_n (by decide), up_n (by decide), up_n (by decide), up_s]
  · rw [up_n (by decide), up_n (by decide), up_s]
  · rw [up_n (by decide), up_s]
theorem adl_c {d : Nat} {k nu : Int32} (hg : isLw g) (hl : X g 1 = nI len) (h64 : len < 64) : C (d + 1) MX2_add [.ref g, .int k, .int nu] (hp X J R) = some (none, hp (puC X g len k nu) J R) := by
  have c0 : ¬ 64 ≤ nI len := fun q => absurd ((nI_leI (a := 64) (b := len) (by omega) (by omega)).mp q) (by omega)
  rw [eX2_add]
  unfold puC
  simp (disch := omega) only [xX2_add_0, xX2_add_1, xX2_add_4, xX2_add_6, xX2_add_9, xX2_add_10, xX2_add_13, xX2_add_14, xX2_add_17, xX2_add_18, xX2_add_19, xX2_add_20, xX2_add_23, xX2_add_24, xX2_add_27, xX2_add_28, xX2_add_29, xX2_add_30, xX2_add_30I, xX2_add_31, xX2_add_34, xX2_add_35, xX2_add_36, xX2_add_39, lw_k0 hg, lw_f0_2 hg, lw_f0_3 hg, lw_k1 hg, lw_n1 hg, lw_k2 hg, lw_n2 hg, ↓reduceIte, gd_t, hK_p, hN_p, hF_p, hI_p, hJ_p, hR_p, stI_p, stJ_p, stR_p, stA_p, va_rf_s, va_rf_n, clr_i, clr_l, clr_r, clr_n, clr_o, w8_0, w8_1i, w8_1r, w8_2ii, w8_2ri, w8_2ir, w8_2rr, w8_3, beq_self_eq_true, Bool.and_self, Bool.and_true, Bool.true_and, decide_true, Option.toList_some, Option.toList_none, List.cons_append, List.nil_append, Option.bind_some, if_true, if_false, Nat.reduceLeDiff, Nat.reduceLT, Nat.reduceBEq, Bool.or_false, Bool.false_or, Bool.or_true, Bool.true_or, nI_leI, nI_ltI, nI_eq, nI_clamp, inb_n, up_s, up_n, bx_uu, nI_1, ix6, nI_0n, pk_us, pk_un, ge_0n, hl, c0]
theorem grw_m {d q h : Nat} {k a b : Int32} (hq : Y 123 20 = nI q) (hh : Y 123 47 = nI h) (q64 : q < 64) (h96 : h < 96) : C (d + 1) MX12_grown [.ref 123, .int k, .int a, .int b] (hp Y J2 R2) = some (none, hp (puM Y q h k a b) J2 R2) := by
  have e64 : (64 : Int32) + nI q = nI (64 + q) := by rw [show (64 : Int32) = nI 64 from rfl, nI_add]
  rw [eX12_grown]
  unfold puM
  simp (disch := omega) only [xX12_grown_0, xX12_grown_1, xX12_grown_4, xX12_grown_6, xX12_grown_7, xX12_grown_10, xX12_grown_11, xX12_grown_12, xX12_grown_13, xX12_grown_14, xX12_grown_17, xX12_grown_19, xX12_grown_20, xX12_grown_23, xX12_grown_24, xX12_grown_25, xX12_grown_26, xX12_grown_27, xX12_grown_30, xX12_grown_32, xX12_grown_33, xX12_grown_36, xX12_grown_37, xX12_grown_38, xX12_grown_39, xX12_grown_40, xX12_grown_43, xX12_grown_44, xX12_grown_47, xX12_grown_48, xX12_grown_51, xX12_grown_52, xX12_grown_53, xX12_grown_53I, xX12_grown_54, xX12_grown_57, xX12_grown_58, xX12_grown_59, xX12_grown_62, xX12_grown_63, xX12_grown_63I, xX12_grown_64, xX12_grown_67, xX12_grown_68, xX12_grown_69, xX12_grown_72, kd_123, fi_123_41, kd_144, ln_144, fi_123_42, kd_145, ln_145, fi_123_43, kd_146, ln_146, fi_123_45, kd_148, ln_148, kd_144, ln_144, kd_145, ln_145, kd_146, ln_146, kd_148, ln_148, ↓reduceIte, gd_t, hK_p, hN_p, hF_p, hI_p, hJ_p, hR_p, stI_p, stJ_p, stR_p, stA_p, va_rf_s, va_rf_n, clr_i, clr_l, clr_r, clr_n, clr_o, w8_0, w8_1i, w8_1r, w8_2ii, w8_2ri, w8_2ir, w8_2rr, w8_3, beq_self_eq_true, Bool.and_self, Bool.and_true, Bool.true_and, decide_true, Option.toList_some, Option.toList_none, List.cons_append, List.nil_append, Option.bind_some, if_true, if_false, Nat.reduceLeDiff, Nat.reduceLT, Nat.reduceBEq, Bool.or_false, Bool.false_or, Bool.or_true, Bool.true_or, up_s, up_n, pk_us, pk_un, bx_uu, nI_1, inb_n, nI_clamp, hq, hh, e64]
theorem drp_m {d h : Nat} (hh : Y 123 47 = nI (h + 1)) (h96 : h < 96) : C (d + 1) MX12_dropHeld [.ref 123] (hp Y J2 R2) = some (some (.int (Y 148 h)), hp (va_up Y 123 (upd (Y 123) 47 (nI h))) J2 R2) := by
  have e1 : nI (h + 1) - 1 = nI h := by rw [show (1 : Int32) = nI 1 from rfl, pk_sub (by omega), Nat.add_sub_cancel]
  rw [eX12_dropHeld]
  simp (disch := omega) only [xX12_dropHeld_0, xX12_dropHeld_1, xX12_dropHeld_1I, xX12_dropHeld_2, xX12_dropHeld_5, xX12_dropHeld_6, xX12_dropHeld_7, xX12_dropHeld_10, xX12_dropHeld_11, xX12_dropHeld_14, xX12_dropHeld_15, xX12_dropHeld_18, xX12_dropHeld_19, kd_123, fi_123_45, kd_148, ln_148, kd_148, ln_148, ↓reduceIte, gd_t, hK_p, hN_p, hF_p, hI_p, hJ_p, hR_p, stI_p, stJ_p, stR_p, stA_p, va_rf_s, va_rf_n, clr_i, clr_l, clr_r, clr_n, clr_o, w8_0, w8_1i, w8_1r, w8_2ii, w8_2ri, w8_2ir, w8_2rr, w8_3, beq_self_eq_true, Bool.and_self, Bool.and_true, Bool.true_and, decide_true, Option.toList_some, Option.toList_none, List.cons_append, List.nil_append, Option.bind_some, if_true, if_false, Nat.reduceLeDiff, Nat.reduceLT, Nat.reduceBEq, Bool.or_false, Bool.false_or, Bool.or_true, Bool.true_or, up_s, up_n, pk_us, inb_n, nI_clamp, hh, e1]
/-- one more of both -/
theorem pf_push {k nu km a b : Int32} {h : Nat} {Y0 : Mem} (hp : pfR X Y0 g fi len) (h64 : fi + len < 64) (hk : wfK k (hgt (X (g + 1)) len)) (hh : hgt (upd (X (g + 1)) len k) (len + 1) = h + 1) (hle : h ≤ hgt (X (g + 1)) len) (y0 : ∀ c, c ≠ 123 → Y c = Y0 c) (hc : cLw (upd (X (g + 1)) len k) (upd (X (g + 2)) len nu) (upd (sh64 (Y 144)) (fi + len) km) (upd (sh64 (Y 145)) (fi + len) a) (upd (sh64 (Y 146)) (fi + len) b) fi len) : pfR (puC X g len k nu) (puM Y (fi + len) h km a b) g fi (len + 1) := by
  obtain ⟨p1, p2, p3, p4, p5, p6⟩ := hp
  obtain ⟨c1, c2, c3⟩ := puC_e (X := X) (g := g) (len := len) (k := k) (nu := nu)
  obtain ⟨m1, m2, m3, m4, m5⟩ := puM_e (Y := Y) (q := fi + len) (h := h) (k := km) (a := a) (b := b)
  unfold pfR
  rw [c1, c2, c3, m1, m2, m3, m4, m5, sh64_up, sh64_up, sh64_up]
  have hx : ixs (upd (X (g + 1)) len k) (len + 1) = va_up (ixs (X (g + 1)) len) h len := by
    show va_up (ixs (upd (X (g + 1)) len k) len) (hgt (upd (X (g + 1)) len k) (len + 1) - 1) len = _
    rw [hh, Nat.add_sub_cancel, ixs_cg len (fun j hj => pk_un (by omega))]
  refine ⟨pk_us, by rw [pk_us]; rfl, by omega, fun i hi => ?_, ?_, fun j hj => ?_⟩
  · rcases Nat.lt_or_ge i len with w | w
    · rw [pk_un (by omega), hgt_cg (k := upd (X (g + 1)) len k) (k' := X (g + 1)) i (fun j hj => pk_un (by omega))]
      refine ⟨(p4 i w).1, cLw_cg (len := len) w (fun j hj => (pk_un (by omega)).symm) (fun j hj => (pk_un (by omega)).symm) (fun j hj => ⟨(pk_un (by omega)).symm, (pk_un (by omega)).symm, (pk_un (by omega)).symm⟩) ?_⟩
      rw [y0 144 (by decide), y0 145 (by decide), y0 146 (by decide)]
      exact (p4 i w).2
    · obtain rfl : i = len := by omega
      rw [pk_us, hgt_cg (k := upd (X (g + 1)) i k) (k' := X (g + 1)) i (fun j hj => pk_un (by omega))]
      exact ⟨hk, hc⟩
  · rw [pk_un (by decide), pk_us, hh]
  · rw [hh] at hj
    rw [hx]
    by_cases w : j = h
    · rw [w, pk_us, up_s]
    · rw [pk_un w, up_n w, y0 148 (by decide)]
      exact p6 j (by omega)
end PU
/-- how closely a sign binds -/
def rkF (k : Int32) : Nat := if k = 7 ∨ k = 8 then 6 else if k = 9 ∨ k = 10 then 5 else if k = 17 then 3 else if k = 18 then 2 else if k = 19 then 1 else if 11 ≤ k ∧ k ≤ 16 then 4 else 0
/-- what waits, class and model -/
def wt1 (k m : Int32) : Prop := (k = 5 ∧ m = 0) ∨ (k = 17 ∧ m = 2) ∨ (isBin k ∧ m = kmp k)
theorem rnk_c {d : Nat} {k : Int32} {h : Hp} : C (d + 1) MX7_rank [.int k] h = some (some (.int (nI (rkF k))), h) := by
  rw [eX7_rank]
  unfold rkF
  by_cases a7 : k = 7
  · simp only [xX7_rank_0, xX7_rank_1, xX7_rank_68, xX7_rank_70, xX7_rank_71, xX7_rank_73, xX7_rank_74, xX7_rank_75, xX7_rank_76, xX7_rank_77, xX7_rank_78, xX7_rank_79, xX7_rank_80, xX7_rank_81, xX7_rank_82, xX7_rank_83, xX7_rank_84, xX7_rank_85, xX7_rank_87, xX7_rank_90, xX7_rank_91, xX7_rank_93, xX7_rank_96, xX7_rank_97, xX7_rank_100, xX7_rank_101, ↓reduceIte, gd_t, hK_p, hN_p, hF_p, hI_p, hJ_p, hR_p, stI_p, stJ_p, stR_p, stA_p, va_rf_s, va_rf_n, clr_i, clr_l, clr_r, clr_n, clr_o, w8_0, w8_1i, w8_1r, w8_2ii, w8_2ri, w8_2ir, w8_2rr, w8_3, beq_self_eq_true, Bool.and_self, Bool.and_true, Bool.true_and, decide_true, Option.toList_some, Option.toList_none, List.cons_append, List.nil_append, Option.bind_some, if_true, if_false, Nat.reduceLeDiff, Nat.reduceLT, Nat.reduceBEq, Bool.or_false, Bool.false_or, Bool.or_true, Bool.true_or, eq_true a7, or_self, or_true, true_or, or_false, false_or]
    rfl
  by_cases a8 : k = 8
  · simp only [xX7_rank_0, xX7_rank_1, xX7_rank_68, xX7_rank_70, xX7_rank_71, xX7_rank_73, xX7_rank_74, xX7_rank_75, xX7_rank_76, xX7_rank_77, xX7_rank_78, xX7_rank_79, xX7_rank_80, xX7_rank_81, xX7_rank_82, xX7_rank_83, xX7_rank_84, xX7_rank_85, xX7_rank_87, xX7_rank_90, xX7_rank_91, xX7_rank_93, xX7_rank_96, xX7_rank_97, xX7_rank_100, xX7_rank_101, ↓reduceIte, gd_t, hK_p, hN_p, hF_p, hI_p, hJ_p, hR_p, stI_p, stJ_p, stR_p, stA_p, va_rf_s, va_rf_n, clr_i, clr_l, clr_r, clr_n, clr_o, w8_0, w8_1i, w8_1r, w8_2ii, w8_2ri, w8_2ir, w8_2rr, w8_3, beq_self_eq_true, Bool.and_self, Bool.and_true, Bool.true_and, decide_true, Option.toList_some, Option.toList_none, List.cons_append, List.nil_append, Option.bind_some, if_true, if_false, Nat.reduceLeDiff, Nat.reduceLT, Nat.reduceBEq, Bool.or_false, Bool.false_or, Bool.or_true, Bool.true_or, eq_true a8, a7, or_self, or_true, true_or, or_false, false_or]
    rfl
  by_cases a9 : k = 9
  · simp only [xX7_rank_0, xX7_rank_1, xX7_rank_68, xX7_rank_70, xX7_rank_71, xX7_rank_73, xX7_rank_74, xX7_rank_75, xX7_rank_76, xX7_rank_77, xX7_rank_78, xX7_rank_79, xX7_rank_80, xX7_rank_81, xX7_rank_82, xX7_rank_83, xX7_rank_84, xX7_rank_85, xX7_rank_87, xX7_rank_90, xX7_rank_91, xX7_rank_93, xX7_rank_96, xX7_rank_97, xX7_rank_100, xX7_rank_101, ↓reduceIte, gd_t, hK_p, hN_p, hF_p, hI_p, hJ_p, hR_p, stI_p, stJ_p, stR_p, stA_p, va_rf_s, va_rf_n, clr_i, clr_l, clr_r, clr_n, clr_o, w8_0, w8_1i, w8_1r, w8_2ii, w8_2ri, w8_2ir, w8_2rr, w8_3, beq_self_eq_true, Bool.and_self, Bool.and_true, Bool.true_and, decide_true, Option.toList_some, Option.toList_none, List.cons_append, List.nil_append, Option.bind_some, if_true, if_false, Nat.reduceLeDiff, Nat.reduceLT, Nat.reduceBEq, Bool.or_false, Bool.false_or, Bool.or_true, Bool.true_or, eq_true a9, a7, a8, or_self, or_true, true_or, or_false, false_or]
    rfl
  by_cases a10 : k = 10
  · simp only [xX7_rank_0, xX7_rank_1, xX7_rank_68, xX7_rank_70, xX7_rank_71, xX7_rank_73, xX7_rank_74, xX7_rank_75, xX7_rank_76, xX7_rank_77, xX7_rank_78, xX7_rank_79, xX7_rank_80, xX7_rank_81, xX7_rank_82, xX7_rank_83, xX7_rank_84, xX7_rank_85, xX7_rank_87, xX7_rank_90, xX7_rank_91, xX7_rank_93, xX7_rank_96, xX7_rank_97, xX7_rank_100, xX7_rank_101, ↓reduceIte, gd_t, hK_p, hN_p, hF_p, hI_p, hJ_p, hR_p, stI_p, stJ_p, stR_p, stA_p, va_rf_s, va_rf_n, clr_i, clr_l, clr_r, clr_n, clr_o, w8_0, w8_1i, w8_1r, w8_2ii, w8_2ri, w8_2ir, w8_2rr, w8_3, beq_self_eq_true, Bool.and_self, Bool.and_true, Bool.true_and, decide_true, Option.toList_some, Option.toList_none, List.cons_append, List.nil_append, Option.bind_some, if_true, if_false, Nat.reduceLeDiff, Nat.reduceLT, Nat.reduceBEq, Bool.or_false, Bool.false_or, Bool.or_true, Bool.true_or, eq_true a10, a7, a8, a9, or_self, or_true, true_or, or_false, false_or]
    rfl
  by_cases a17 : k = 17
  · have n11 : ¬ k = 11 := fun q => absurd (a17.symm.trans q) (by decide)
    have n12 : ¬ k = 12 := fun q => absurd (a17.symm.trans q) (by decide)
    have n13 : ¬ k = 13 := fun q => absurd (a17.symm.trans q) (by decide)
    have n14 : ¬ k = 14 := fun q => absurd (a17.symm.trans q) (by decide)
    have n15 : ¬ k = 15 := fun q => absurd (a17.symm.trans q) (by decide)
    have n16 : ¬ k = 16 := fun q => absurd (a17.symm.trans q) (by decide)
    simp only [xX7_rank_0, xX7_rank_1, xX7_rank_68, xX7_rank_70, xX7_rank_71, xX7_rank_73, xX7_rank_74, xX7_rank_75, xX7_rank_76, xX7_rank_77, xX7_rank_78, xX7_rank_79, xX7_rank_80, xX7_rank_81, xX7_rank_82, xX7_rank_83, xX7_rank_84, xX7_rank_85, xX7_rank_87, xX7_rank_90, xX7_rank_91, xX7_rank_93, xX7_rank_96, xX7_rank_97, xX7_rank_100, xX7_rank_101, ↓reduceIte, gd_t, hK_p, hN_p, hF_p, hI_p, hJ_p, hR_p, stI_p, stJ_p, stR_p, stA_p, va_rf_s, va_rf_n, clr_i, clr_l, clr_r, clr_n, clr_o, w8_0, w8_1i, w8_1r, w8_2ii, w8_2ri, w8_2ir, w8_2rr, w8_3, beq_self_eq_true, Bool.and_self, Bool.and_true, Bool.true_and, decide_true, Option.toList_some, Option.toList_none, List.cons_append, List.nil_append, Option.bind_some, if_true, if_false, Nat.reduceLeDiff, Nat.reduceLT, Nat.reduceBEq, Bool.or_false, Bool.false_or, Bool.or_true, Bool.true_or, n11, n12, n13, n14, n15, n16, eq_true a17, a7, a8, a9, a10, or_self, or_true, true_or, or_false, false_or]
    rfl
  by_cases a18 : k = 18
  · have n11 : ¬ k = 11 := fun q => absurd (a18.symm.trans q) (by decide)
    have n12 : ¬ k = 12 := fun q => absurd (a18.symm.trans q) (by decide)
    have n13 : ¬ k = 13 := fun q => absurd (a18.symm.trans q) (by decide)
    have n14 : ¬ k = 14 := fun q => absurd (a18.symm.trans q) (by decide)
    have n15 : ¬ k = 15 := fun q => absurd (a18.symm.trans q) (by decide)
    have n16 : ¬ k = 16 := fun q => absurd (a18.symm.trans q) (by decide)
    simp only [xX7_rank_0, xX7_rank_1, xX7_rank_68, xX7_rank_70, xX7_rank_71, xX7_rank_73, xX7_rank_74, xX7_rank_75, xX7_rank_76, xX7_rank_77, xX7_rank_78, xX7_rank_79, xX7_rank_80, xX7_rank_81, xX7_rank_82, xX7_rank_83, xX7_rank_84, xX7_rank_85, xX7_rank_87, xX7_rank_90, xX7_rank_91, xX7_rank_93, xX7_rank_96, xX7_rank_97, xX7_rank_100, xX7_rank_101, ↓reduceIte, gd_t, hK_p, hN_p, hF_p, hI_p, hJ_p, hR_p, stI_p, stJ_p, stR_p, stA_p, va_rf_s, va_rf_n, clr_i, clr_l, clr_r, clr_n, clr_o, w8_0, w8_1i, w8_1r, w8_2ii, w8_2ri, w8_2ir, w8_2rr, w8_3, beq_self_eq_true, Bool.and_self, Bool.and_true, Bool.true_and, decide_true, Option.toList_some, Option.toList_none, List.cons_append, List.nil_append, Option.bind_some, if_true, if_false, Nat.reduceLeDiff, Nat.reduceLT, Nat.reduceBEq, Bool.or_false, Bool.false_or, Bool.or_true, Bool.true_or, n11, n12, n13, n14, n15, n16, eq_true a18, a7, a8, a9, a10, a17, or_self, or_true, true_or, or_false, false_or]
    rfl
  by_cases a19 : k = 19
  · have n11 : ¬ k = 11 := fun q => absurd (a19.symm.trans q) (by decide)
    have n12 : ¬ k = 12 := fun q => absurd (a19.symm.trans q) (by decide)
    have n13 : ¬ k = 13 := fun q => absurd (a19.symm.trans q) (by decide)
    have n14 : ¬ k = 14 := fun q => absurd (a19.symm.trans q) (by decide)
    have n15 : ¬ k = 15 := fun q => absurd (a19.symm.trans q) (by decide)
    have n16 : ¬ k = 16 := fun q => absurd (a19.symm.trans q) (by decide)
    simp only [xX7_rank_0, xX7_rank_1, xX7_rank_68, xX7_rank_70, xX7_rank_71, xX7_rank_73, xX7_rank_74, xX7_rank_75, xX7_rank_76, xX7_rank_77, xX7_rank_78, xX7_rank_79, xX7_rank_80, xX7_rank_81, xX7_rank_82, xX7_rank_83, xX7_rank_84, xX7_rank_85, xX7_rank_87, xX7_rank_90, xX7_rank_91, xX7_rank_93, xX7_rank_96, xX7_rank_97, xX7_rank_100, xX7_rank_101, ↓reduceIte, gd_t, hK_p, hN_p, hF_p, hI_p, hJ_p, hR_p, stI_p, stJ_p, stR_p, stA_p, va_rf_s, va_rf_n, clr_i, clr_l, clr_r, clr_n, clr_o, w8_0, w8_1i, w8_1r, w8_2ii, w8_2ri, w8_2ir, w8_2rr, w8_3, beq_self_eq_true, Bool.and_self, Bool.and_true, Bool.true_and, decide_true, Option.toList_some, Option.toList_none, List.cons_append, List.nil_append, Option.bind_some, if_true, if_false, Nat.reduceLeDiff, Nat.reduceLT, Nat.reduceBEq, Bool.or_false, Bool.false_or, Bool.or_true, Bool.true_or, n11, n12, n13, n14, n15, n16, eq_true a19, a7, a8, a9, a10, a17, a18, or_self, or_true, true_or, or_false, false_or]
    rfl
  by_cases b1 : k < 11
  · have b2 : ¬ 11 ≤ k := Int32.not_le.mpr b1
    simp only [xX7_rank_0, xX7_rank_1, xX7_rank_68, xX7_rank_70, xX7_rank_71, xX7_rank_73, xX7_rank_74, xX7_rank_75, xX7_rank_76, xX7_rank_77, xX7_rank_78, xX7_rank_79, xX7_rank_80, xX7_rank_81, xX7_rank_82, xX7_rank_83, xX7_rank_84, xX7_rank_85, xX7_rank_87, xX7_rank_90, xX7_rank_91, xX7_rank_93, xX7_rank_96, xX7_rank_97, xX7_rank_100, xX7_rank_101, ↓reduceIte, gd_t, hK_p, hN_p, hF_p, hI_p, hJ_p, hR_p, stI_p, stJ_p, stR_p, stA_p, va_rf_s, va_rf_n, clr_i, clr_l, clr_r, clr_n, clr_o, w8_0, w8_1i, w8_1r, w8_2ii, w8_2ri, w8_2ir, w8_2rr, w8_3, beq_self_eq_true, Bool.and_self, Bool.and_true, Bool.true_and, decide_true, Option.toList_some, Option.toList_none, List.cons_append, List.nil_append, Option.bind_some, if_true, if_false, Nat.reduceLeDiff, Nat.reduceLT, Nat.reduceBEq, Bool.or_false, Bool.false_or, Bool.or_true, Bool.true_or, a7, a8, a9, a10, a17, a18, a19, or_self, ite_self, b1, b2, false_and]
    rfl
  · have b2 : 11 ≤ k := Int32.not_lt.mp b1
    by_cases b3 : 16 < k
    · have b4 : ¬ k ≤ 16 := Int32.not_le.mpr b3
      simp only [xX7_rank_0, xX7_rank_1, xX7_rank_68, xX7_rank_70, xX7_rank_71, xX7_rank_73, xX7_rank_74, xX7_rank_75, xX7_rank_76, xX7_rank_77, xX7_rank_78, xX7_rank_79, xX7_rank_80, xX7_rank_81, xX7_rank_82, xX7_rank_83, xX7_rank_84, xX7_rank_85, xX7_rank_87, xX7_rank_90, xX7_rank_91, xX7_rank_93, xX7_rank_96, xX7_rank_97, xX7_rank_100, xX7_rank_101, ↓reduceIte, gd_t, hK_p, hN_p, hF_p, hI_p, hJ_p, hR_p, stI_p, stJ_p, stR_p, stA_p, va_rf_s, va_rf_n, clr_i, clr_l, clr_r, clr_n, clr_o, w8_0, w8_1i, w8_1r, w8_2ii, w8_2ri, w8_2ir, w8_2rr, w8_3, beq_self_eq_true, Bool.and_self, Bool.and_true, Bool.true_and, decide_true, Option.toList_some, Option.toList_none, List.cons_append, List.nil_append, Option.bind_some, if_true, if_false, Nat.reduceLeDiff, Nat.reduceLT, Nat.reduceBEq, Bool.or_false, Bool.false_or, Bool.or_true, Bool.true_or, a7, a8, a9, a10, a17, a18, a19, or_self, ite_self, b1, b3, b4, and_false]
      rfl
    · have b4 : k ≤ 16 := Int32.not_lt.mp b3
      simp only [xX7_rank_0, xX7_rank_1, xX7_rank_68, xX7_rank_70, xX7_rank_71, xX7_rank_73, xX7_rank_74, xX7_rank_75, xX7_rank_76, xX7_rank_77, xX7_rank_78, xX7_rank_79, xX7_rank_80, xX7_rank_81, xX7_rank_82, xX7_rank_83, xX7_rank_84, xX7_rank_85, xX7_rank_87, xX7_rank_90, xX7_rank_91, xX7_rank_93, xX7_rank_96, xX7_rank_97, xX7_rank_100, xX7_rank_101, ↓reduceIte, gd_t, hK_p, hN_p, hF_p, hI_p, hJ_p, hR_p, stI_p, stJ_p, stR_p, stA_p, va_rf_s, va_rf_n, clr_i, clr_l, clr_r, clr_n, clr_o, w8_0, w8_1i, w8_1r, w8_2ii, w8_2ri, w8_2ir, w8_2rr, w8_3, beq_self_eq_true, Bool.and_self, Bool.and_true, Bool.true_and, decide_true, Option.toList_some, Option.toList_none, List.cons_append, List.nil_append, Option.bind_some, if_true, if_false, Nat.reduceLeDiff, Nat.reduceLT, Nat.reduceBEq, Bool.or_false, Bool.false_or, Bool.or_true, Bool.true_or, a7, a8, a9, a10, a17, a18, a19, or_self, ite_self, b1, b2, b3, b4, and_self]
      rfl
def rkM (m : Int32) : Int32 := if m < 13 then (if m < 11 then (if m < 5 then (if ¬ m = 2 then (if ¬ m = 3 then (if ¬ m = 4 then 0 else 1) else 2) else 3) else 4) else 5) else 6
theorem rnk_n {d : Nat} {m : Int32} {h : Hp} : C (d + 1) MX12_rank [.int m] h = some (some (.int (rkM m)), h) := by
  rw [eX12_rank]
  unfold rkM
  by_cases b1 : m < 13
  · by_cases b2 : m < 11
    · by_cases b3 : m < 5
      · by_cases b4 : m = 2
        · simp only [xX12_rank_0, xX12_rank_1, xX12_rank_3, xX12_rank_6, xX12_rank_8, xX12_rank_11, xX12_rank_12, xX12_rank_14, xX12_rank_17, xX12_rank_18, xX12_rank_21, xX12_rank_22, xX12_rank_23, xX12_rank_26, xX12_rank_27, xX12_rank_30, xX12_rank_31, xX12_rank_32, xX12_rank_35, xX12_rank_36, xX12_rank_39, xX12_rank_40, xX12_rank_41, xX12_rank_44, xX12_rank_45, xX12_rank_48, xX12_rank_49, xX12_rank_50, xX12_rank_53, xX12_rank_54, xX12_rank_57, xX12_rank_58, ↓reduceIte, gd_t, hK_p, hN_p, hF_p, hI_p, hJ_p, hR_p, stI_p, stJ_p, stR_p, stA_p, va_rf_s, va_rf_n, clr_i, clr_l, clr_r, clr_n, clr_o, w8_0, w8_1i, w8_1r, w8_2ii, w8_2ri, w8_2ir, w8_2rr, w8_3, beq_self_eq_true, Bool.and_self, Bool.and_true, Bool.true_and, decide_true, Option.toList_some, Option.toList_none, List.cons_append, List.nil_append, Option.bind_some, if_true, if_false, Nat.reduceLeDiff, Nat.reduceLT, Nat.reduceBEq, Bool.or_false, Bool.false_or, Bool.or_true, Bool.true_or, b1, b2, b3, eq_true b4, not_true_eq_false]
        · by_cases b5 : m = 3
          · simp only [xX12_rank_0, xX12_rank_1, xX12_rank_3, xX12_rank_6, xX12_rank_8, xX12_rank_11, xX12_rank_12, xX12_rank_14, xX12_rank_17, xX12_rank_18, xX12_rank_21, xX12_rank_22, xX12_rank_23, xX12_rank_26, xX12_rank_27, xX12_rank_30, xX12_rank_31, xX12_rank_32, xX12_rank_35, xX12_rank_36, xX12_rank_39, xX12_rank_40, xX12_rank_41, xX12_rank_44, xX12_rank_45, xX12_rank_48, xX12_rank_49, xX12_rank_50, xX12_rank_53, xX12_rank_54, xX12_rank_57, xX12_rank_58, ↓reduceIte, gd_t, hK_p, hN_p, hF_p, hI_p, hJ_p, hR_p, stI_p, stJ_p, stR_p, stA_p, va_rf_s, va_rf_n, clr_i, clr_l, clr_r, clr_n, clr_o, w8_0, w8_1i, w8_1r, w8_2ii, w8_2ri, w8_2ir, w8_2rr, w8_3, beq_self_eq_true, Bool.and_self, Bool.and_true, Bool.true_and, decide_true, Option.toList_some, Option.toList_none, List.cons_append, List.nil_append, Option.bind_some, if_true, if_false, Nat.reduceLeDiff, Nat.reduceLT, Nat.reduceBEq, Bool.or_false, Bool.false_or, Bool.or_true, Bool.true_or, b1, b2, b3, b4, eq_true b5, not_true_eq_false, not_false_eq_true]
          · by_cases b6 : m = 4
            · simp only [xX12_rank_0, xX12_rank_1, xX12_rank_3, xX12_rank_6, xX12_rank_8, xX12_rank_11, xX12_rank_12, xX12_rank_14, xX12_rank_17, xX12_rank_18, xX12_rank_21, xX12_rank_22, xX12_rank_23, xX12_rank_26, xX12_rank_27, xX12_rank_30, xX12_rank_31, xX12_rank_32, xX12_rank_35, xX12_rank_36, xX12_rank_39, xX12_rank_40, xX12_rank_41, xX12_rank_44, xX12_rank_45, xX12_rank_48, xX12_rank_49, xX12_rank_50, xX12_rank_53, xX12_rank_54, xX12_rank_57, xX12_rank_58, ↓reduceIte, gd_t, hK_p, hN_p, hF_p, hI_p, hJ_p, hR_p, stI_p, stJ_p, stR_p, stA_p, va_rf_s, va_rf_n, clr_i, clr_l, clr_r, clr_n, clr_o, w8_0, w8_1i, w8_1r, w8_2ii, w8_2ri, w8_2ir, w8_2rr, w8_3, beq_self_eq_true, Bool.and_self, Bool.and_true, Bool.true_and, decide_true, Option.toList_some, Option.toList_none, List.cons_append, List.nil_append, Option.bind_some, if_true, if_false, Nat.reduceLeDiff, Nat.reduceLT, Nat.reduceBEq, Bool.or_false, Bool.false_or, Bool.or_true, Bool.true_or, b1, b2, b3, b4, b5, eq_true b6, not_true_eq_false, not_false_eq_true]
            · simp only [xX12_rank_0, xX12_rank_1, xX12_rank_3, xX12_rank_6, xX12_rank_8, xX12_rank_11, xX12_rank_12, xX12_rank_14, xX12_rank_17, xX12_rank_18, xX12_rank_21, xX12_rank_22, xX12_rank_23, xX12_rank_26, xX12_rank_27, xX12_rank_30, xX12_rank_31, xX12_rank_32, xX12_rank_35, xX12_rank_36, xX12_rank_39, xX12_rank_40, xX12_rank_41, xX12_rank_44, xX12_rank_45, xX12_rank_48, xX12_rank_49, xX12_rank_50, xX12_rank_53, xX12_rank_54, xX12_rank_57, xX12_rank_58, ↓reduceIte, gd_t, hK_p, hN_p, hF_p, hI_p, hJ_p, hR_p, stI_p, stJ_p, stR_p, stA_p, va_rf_s, va_rf_n, clr_i, clr_l, clr_r, clr_n, clr_o, w8_0, w8_1i, w8_1r, w8_2ii, w8_2ri, w8_2ir, w8_2rr, w8_3, beq_self_eq_true, Bool.and_self, Bool.and_true, Bool.true_and, decide_true, Option.toList_some, Option.toList_none, List.cons_append, List.nil_append, Option.bind_some, if_true, if_false, Nat.reduceLeDiff, Nat.reduceLT, Nat.reduceBEq, Bool.or_false, Bool.false_or, Bool.or_true, Bool.true_or, b1, b2, b3, b4, b5, b6, not_false_eq_true]
      · simp only [xX12_rank_0, xX12_rank_1, xX12_rank_3, xX12_rank_6, xX12_rank_8, xX12_rank_11, xX12_rank_12, xX12_rank_14, xX12_rank_17, xX12_rank_18, xX12_rank_21, xX12_rank_22, xX12_rank_23, xX12_rank_26, xX12_rank_27, xX12_rank_30, xX12_rank_31, xX12_rank_32, xX12_rank_35, xX12_rank_36, xX12_rank_39, xX12_rank_40, xX12_rank_41, xX12_rank_44, xX12_rank_45, xX12_rank_48, xX12_rank_49, xX12_rank_50, xX12_rank_53, xX12_rank_54, xX12_rank_57, xX12_rank_58, ↓reduceIte, gd_t, hK_p, hN_p, hF_p, hI_p, hJ_p, hR_p, stI_p, stJ_p, stR_p, stA_p, va_rf_s, va_rf_n, clr_i, clr_l, clr_r, clr_n, clr_o, w8_0, w8_1i, w8_1r, w8_2ii, w8_2ri, w8_2ir, w8_2rr, w8_3, beq_self_eq_true, Bool.and_self, Bool.and_true, Bool.true_and, decide_true, Option.toList_some, Option.toList_none, List.cons_append, List.nil_append, Option.bind_some, if_true, if_false, Nat.reduceLeDiff, Nat.reduceLT, Nat.reduceBEq, Bool.or_false, Bool.false_or, Bool.or_true, Bool.true_or, b1, b2, b3]
    · simp only [xX12_rank_0, xX12_rank_1, xX12_rank_3, xX12_rank_6, xX12_rank_8, xX12_rank_11, xX12_rank_12, xX12_rank_14, xX12_rank_17, xX12_rank_18, xX12_rank_21, xX12_rank_22, xX12_rank_23, xX12_rank_26, xX12_rank_27, xX12_rank_30, xX12_rank_31, xX12_rank_32, xX12_rank_35, xX12_rank_36, xX12_rank_39, xX12_rank_40, xX12_rank_41, xX12_rank_44, xX12_rank_45, xX12_rank_48, xX12_rank_49, xX12_rank_50, xX12_rank_53, xX12_rank_54, xX12_rank_57, xX12_rank_58, ↓reduceIte, gd_t, hK_p, hN_p, hF_p, hI_p, hJ_p, hR_p, stI_p, stJ_p, stR_p, stA_p, va_rf_s, va_rf_n, clr_i, clr_l, clr_r, clr_n, clr_o, w8_0, w8_1i, w8_1r, w8_2ii, w8_2ri, w8_2ir, w8_2rr, w8_3, beq_self_eq_true, Bool.and_self, Bool.and_true, Bool.true_and, decide_true, Option.toList_some, Option.toList_none, List.cons_append, List.nil_append, Option.bind_some, if_true, if_false, Nat.reduceLeDiff, Nat.reduceLT, Nat.reduceBEq, Bool.or_false, Bool.false_or, Bool.or_true, Bool.true_or, b1, b2]
  · simp only [xX12_rank_0, xX12_rank_1, xX12_rank_3, xX12_rank_6, xX12_rank_8, xX12_rank_11, xX12_rank_12, xX12_rank_14, xX12_rank_17, xX12_rank_18, xX12_rank_21, xX12_rank_22, xX12_rank_23, xX12_rank_26, xX12_rank_27, xX12_rank_30, xX12_rank_31, xX12_rank_32, xX12_rank_35, xX12_rank_36, xX12_rank_39, xX12_rank_40, xX12_rank_41, xX12_rank_44, xX12_rank_45, xX12_rank_48, xX12_rank_49, xX12_rank_50, xX12_rank_53, xX12_rank_54, xX12_rank_57, xX12_rank_58, ↓reduceIte, gd_t, hK_p, hN_p, hF_p, hI_p, hJ_p, hR_p, stI_p, stJ_p, stR_p, stA_p, va_rf_s, va_rf_n, clr_i, clr_l, clr_r, clr_n, clr_o, w8_0, w8_1i, w8_1r, w8_2ii, w8_2ri, w8_2ir, w8_2rr, w8_3, beq_self_eq_true, Bool.and_self, Bool.and_true, Bool.true_and, decide_true, Option.toList_some, Option.toList_none, List.cons_append, List.nil_append, Option.bind_some, if_true, if_false, Nat.reduceLeDiff, Nat.reduceLT, Nat.reduceBEq, Bool.or_false, Bool.false_or, Bool.or_true, Bool.true_or, b1]
theorem rk_eq {k m : Int32} (hw : wt1 k m) : rkM m = nI (rkF k) := by
  rcases hw with ⟨rfl, rfl⟩ | ⟨rfl, rfl⟩ | ⟨hb, rfl⟩
  · decide
  · decide
  · rcases hb with rfl | rfl | rfl | rfl | rfl | rfl | rfl | rfl | rfl | rfl | rfl | rfl <;> decide
theorem rnk_m {d : Nat} {k m : Int32} {h : Hp} (hw : wt1 k m) : C (d + 1) MX12_rank [.int m] h = some (some (.int (nI (rkF k))), h) := by
  rw [rnk_n, rk_eq hw]
theorem rkF_6 (k : Int32) : rkF k ≤ 6 := by
  unfold rkF
  repeat' split
  all_goals omega

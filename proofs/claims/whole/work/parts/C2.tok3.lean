-- TEXT, 3: words
def hoN (w : Nat → Nat) : Nat → Nat
  | 0 => 0
  | j + 1 => hoN w j * 32 + w j
theorem hoN_s {w : Nat → Nat} {j : Nat} : hoN w (j + 1) = hoN w j * 32 + w j := rfl
def wL (u : Nat → Nat) (p : Nat) : Nat → Nat := fun j => u (p + j) - 96
def wF (u : Nat → Nat) (p e : Nat) : Nat → Nat := fun j => if j < e - p then u (p + j) - 96 else 0
/-- a word's letters, five bits each -/
def pkW (u : Nat → Nat) (p e : Nat) : Nat := hoN (wF u p e) 6
theorem hoN_lt {w : Nat → Nat} (h : ∀ j, w j < 32) : ∀ j, hoN w j < 32 ^ j
  | 0 => show (0 : Nat) < 1 from Nat.one_pos
  | j + 1 => by
    have := hoN_lt h j
    have := h j
    unfold hoN
    rw [Nat.pow_succ]
    omega
theorem hoN_pad {u : Nat → Nat} {p e : Nat} (h : e - p ≤ 6) : hoN (wL u p) (e - p) * 2 ^ (30 - 5 * (e - p)) = pkW u p e := by
  unfold pkW
  generalize hl : e - p = l at *
  have hw : ∀ j, wF u p e j = if j < l then wL u p j else 0 := fun j => by unfold wF wL; rw [hl]
  rcases (show l = 0 ∨ l = 1 ∨ l = 2 ∨ l = 3 ∨ l = 4 ∨ l = 5 ∨ l = 6 by omega) with rfl | rfl | rfl | rfl | rfl | rfl | rfl <;> simp [hoN, hw] <;> omega
theorem smo32 : ∀ s, s < 32 → ((nI s &&& 31).toBitVec.smod 32).toNat = s := by decide
def wdC (u : Nat → Nat) (i : Nat) (s : Int32 × Int32) : Int32 × Int32 := (if s.2 < 0 then s.1 else s.1 ||| (bq (u i) - 97 + 1) <<< (s.2 &&& 31), s.2 + (-5))
theorem wd_st {u : Nat → Nat} {p i : Nat} {s : Int32 × Int32} (hpi : p ≤ i) (hl : isL u i = true) (h : i - p ≤ 6 → s.1 = nI (hoN (wL u p) (i - p) * 2 ^ (30 - 5 * (i - p))) ∧ s.2 = nI (30 - 5 * (i - p)) + (-5)) : i + 1 - p ≤ 6 → (wdC u i s).1 = nI (hoN (wL u p) (i + 1 - p) * 2 ^ (30 - 5 * (i + 1 - p))) ∧ (wdC u i s).2 = nI (30 - 5 * (i + 1 - p)) + (-5) := by
  intro h6
  obtain ⟨h1, h2⟩ := h (by omega)
  have hl := of_decide_eq_true hl
  have hb : bq (u i) = nI (u i) := bq_lo _ (by omega)
  generalize hj : i - p = j at *
  have hj1 : i + 1 - p = j + 1 := by omega
  rw [hj1] at h6 ⊢
  have e5 : nI (30 - 5 * j) + (-5) = nI (25 - 5 * j) := by
    have : (-5 : Int32) = -(5 : Int32) := rfl
    rw [this, ← Int32.sub_eq_add_neg, show (5 : Int32) = nI 5 from rfl, pk_sub (by omega)]
    congr 1
    omega
  unfold wdC
  rw [h1, h2, e5, hb]
  refine ⟨?_, ?_⟩
  · rw [if_neg (nI_pos (by omega))]
    have ew : nI (u i) - 97 + 1 = nI (u i - 96) := by
      rw [show (97 : Int32) = nI 97 from rfl, pk_sub (by omega), nI_1]
      congr 1
      omega
    have hwi : wL u p j = u i - 96 := by
      unfold wL
      rw [show p + j = i by omega]
    have hb2 : u i - 96 < 32 := by omega
    have hpw : (u i - 96) * 2 ^ (25 - 5 * j) < 2 ^ (30 - 5 * j) := by
      rw [show 30 - 5 * j = 5 + (25 - 5 * j) by omega, Nat.pow_add]
      exact Nat.mul_lt_mul_of_pos_right hb2 (Nat.two_pow_pos _)
    have hle : 2 ^ (30 - 5 * j) ≤ 2 ^ 30 := Nat.pow_le_pow_right (by omega) (by omega)
    rw [ew, pk_shlN _ (25 - 5 * j) (smo32 _ (by omega)) (by omega), Nat.mul_comm (hoN (wL u p) j), tx_sum _ hpw]
    have eN : 2 ^ (30 - 5 * j) * hoN (wL u p) j + (u i - 96) * 2 ^ (25 - 5 * j) = hoN (wL u p) (j + 1) * 2 ^ (30 - 5 * (j + 1)) := by
      rw [hoN_s, hwi, show 30 - 5 * (j + 1) = 25 - 5 * j by omega, show 30 - 5 * j = 5 + (25 - 5 * j) by omega, Nat.pow_add, Nat.add_mul, show (2 : Nat) ^ 5 = 32 from rfl]
      generalize 2 ^ (25 - 5 * j) = q
      generalize hoN (wL u p) j = a
      rw [Nat.mul_comm (32 * q) a, Nat.mul_assoc]
    rw [eN]
  · dsimp only
    rw [show 30 - 5 * (j + 1) = 25 - 5 * j by omega]
section TOM
variable {X Y : Mem} {J : MemL} {R : MemR} {L : Nat} {u : Nat → Nat}
/-- the letters that the class reads from p on -/
theorem rwd_l {d p : Nat} (h : tpR X Y L u) (hL : X 57 2 = nI L) (hpL : p ≤ L) (hat : X 57 3 = nI p) : ∃ s : Int32 × Int32, E (C d) MX10_readWord 0 [some (.ref 57), none, none] [] (hp X J R) = E (C d) MX10_readWord 92 [some (.ref 57), some (.int s.2), none] [] (hp (va_up X 57 (upd (upd (X 57) 7 s.1) 3 (nI (skp (fun i => !(isL u i)) L p)))) J R) ∧ (skp (fun i => !(isL u i)) L p - p ≤ 6 → s.1 = nI (pkW u p (skp (fun i => !(isL u i)) L p))) := by
  obtain ⟨h7, ht⟩ := h
  have hs := for_s (P := fun i (s : Int32 × Int32) => E (C d) MX10_readWord 8 [some (.ref 57), some (.int s.2), none] [] (hp (va_up X 57 (upd (upd (X 57) 7 s.1) 3 (nI i))) J R)) (F := fun o => E (C d) MX10_readWord 92 [some (.ref 57), some (.int o.2.2), none] [] (hp (va_up X 57 (upd (upd (X 57) 7 o.2.1) 3 (nI (o.1.getD L)))) J R)) (c := fun i _ => !(isL u i)) (f := wdC u) (n := L) (by
    intro i s hi
    obtain ⟨e1, e2, e3⟩ := ht i hi
    have c0 : ¬ L ≤ i := by omega
    obtain ⟨b1, b2⟩ := bq_L (u i) e3
    rw [xX10_readWord_8]
    unfold isL wdC
    by_cases z : 97 ≤ u i ∧ u i ≤ 122
    · obtain ⟨z1, z2⟩ := b1 z
      have zd : decide (97 ≤ u i ∧ u i ≤ 122) = true := decide_eq_true z
      by_cases w : s.2 < 0
      · simp (disch := omega) only [xX10_readWord_9, xX10_readWord_12, xX10_readWord_13, xX10_readWord_16, xX10_readWord_19, xX10_readWord_20, xX10_readWord_23, xX10_readWord_24, xX10_readWord_27, xX10_readWord_28, xX10_readWord_30, xX10_readWord_33, xX10_readWord_34, xX10_readWord_37, xX10_readWord_38, xX10_readWord_41, xX10_readWord_42, xX10_readWord_44, xX10_readWord_47, xX10_readWord_48, xX10_readWord_51, xX10_readWord_52, xX10_readWord_52I, xX10_readWord_53, xX10_readWord_56, xX10_readWord_57, xX10_readWord_60, xX10_readWord_61, xX10_readWord_64, xX10_readWord_65, xX10_readWord_67, xX10_readWord_68, xX10_readWord_69, xX10_readWord_70, xX10_readWord_71, xX10_readWord_72, xX10_readWord_73, xX10_readWord_76, xX10_readWord_79, xX10_readWord_80, xX10_readWord_80I, xX10_readWord_81, xX10_readWord_84, xX10_readWord_85, xX10_readWord_86, xX10_readWord_89, kd_57, fi_57_0, kd_1, ln_1, fi_57_1, kd_58, ln_58, ↓reduceIte, gd_t, hK_p, hN_p, hF_p, hI_p, hJ_p, hR_p, stI_p, stJ_p, stR_p, stA_p, va_rf_s, va_rf_n, clr_i, clr_l, clr_r, clr_n, clr_o, w8_0, w8_1i, w8_1r, w8_2ii, w8_2ri, w8_2ir, w8_2rr, w8_3, beq_self_eq_true, Bool.and_self, Bool.and_true, Bool.true_and, decide_true, Option.toList_some, Option.toList_none, List.cons_append, List.nil_append, Option.bind_some, if_true, if_false, Nat.reduceLeDiff, Nat.reduceLT, Nat.reduceBEq, Bool.or_false, Bool.false_or, Bool.or_true, Bool.true_or, nI_leI, nI_ltI, nI_eq, nI_clamp, inb_n, up_s, up_n, bx_uu, nI_1, ix6, nI_0n, pk_us, pk_un, ge_0n, uu, hL, c0, e1, z1, z2, zd, w, Bool.not_true, Bool.false_eq_true]
      · simp (disch := omega) only [xX10_readWord_9, xX10_readWord_12, xX10_readWord_13, xX10_readWord_16, xX10_readWord_19, xX10_readWord_20, xX10_readWord_23, xX10_readWord_24, xX10_readWord_27, xX10_readWord_28, xX10_readWord_30, xX10_readWord_33, xX10_readWord_34, xX10_readWord_37, xX10_readWord_38, xX10_readWord_41, xX10_readWord_42, xX10_readWord_44, xX10_readWord_47, xX10_readWord_48, xX10_readWord_51, xX10_readWord_52, xX10_readWord_52I, xX10_readWord_53, xX10_readWord_56, xX10_readWord_57, xX10_readWord_60, xX10_readWord_61, xX10_readWord_64, xX10_readWord_65, xX10_readWord_67, xX10_readWord_68, xX10_readWord_69, xX10_readWord_70, xX10_readWord_71, xX10_readWord_72, xX10_readWord_73, xX10_readWord_76, xX10_readWord_79, xX10_readWord_80, xX10_readWord_80I, xX10_readWord_81, xX10_readWord_84, xX10_readWord_85, xX10_readWord_86, xX10_readWord_89, kd_57, fi_57_0, kd_1, ln_1, fi_57_1, kd_58, ln_58, ↓reduceIte, gd_t, hK_p, hN_p, hF_p, hI_p, hJ_p, hR_p, stI_p, stJ_p, stR_p, stA_p, va_rf_s, va_rf_n, clr_i, clr_l, clr_r, clr_n, clr_o, w8_0, w8_1i, w8_1r, w8_2ii, w8_2ri, w8_2ir, w8_2rr, w8_3, beq_self_eq_true, Bool.and_self, Bool.and_true, Bool.true_and, decide_true, Option.toList_some, Option.toList_none, List.cons_append, List.nil_append, Option.bind_some, if_true, if_false, Nat.reduceLeDiff, Nat.reduceLT, Nat.reduceBEq, Bool.or_false, Bool.false_or, Bool.or_true, Bool.true_or, nI_leI, nI_ltI, nI_eq, nI_clamp, inb_n, up_s, up_n, bx_uu, nI_1, ix6, nI_0n, pk_us, pk_un, ge_0n, uu, ud31, hL, c0, e1, z1, z2, zd, w, Bool.not_true, Bool.false_eq_true]
    · have zd : decide (97 ≤ u i ∧ u i ≤ 122) = false := decide_eq_false z
      rcases b2 z with z1 | ⟨z1, z2⟩
      · simp (disch := omega) only [xX10_readWord_9, xX10_readWord_12, xX10_readWord_13, xX10_readWord_16, xX10_readWord_19, xX10_readWord_20, xX10_readWord_23, xX10_readWord_24, xX10_readWord_27, xX10_readWord_28, xX10_readWord_30, xX10_readWord_33, xX10_readWord_34, xX10_readWord_37, xX10_readWord_38, xX10_readWord_41, xX10_readWord_42, xX10_readWord_44, xX10_readWord_47, xX10_readWord_48, xX10_readWord_51, xX10_readWord_52, xX10_readWord_52I, xX10_readWord_53, xX10_readWord_56, xX10_readWord_57, xX10_readWord_60, xX10_readWord_61, xX10_readWord_64, xX10_readWord_65, xX10_readWord_67, xX10_readWord_68, xX10_readWord_69, xX10_readWord_70, xX10_readWord_71, xX10_readWord_72, xX10_readWord_73, xX10_readWord_76, xX10_readWord_79, xX10_readWord_80, xX10_readWord_80I, xX10_readWord_81, xX10_readWord_84, xX10_readWord_85, xX10_readWord_86, xX10_readWord_89, kd_57, fi_57_0, kd_1, ln_1, fi_57_1, kd_58, ln_58, ↓reduceIte, gd_t, hK_p, hN_p, hF_p, hI_p, hJ_p, hR_p, stI_p, stJ_p, stR_p, stA_p, va_rf_s, va_rf_n, clr_i, clr_l, clr_r, clr_n, clr_o, w8_0, w8_1i, w8_1r, w8_2ii, w8_2ri, w8_2ir, w8_2rr, w8_3, beq_self_eq_true, Bool.and_self, Bool.and_true, Bool.true_and, decide_true, Option.toList_some, Option.toList_none, List.cons_append, List.nil_append, Option.bind_some, if_true, if_false, Nat.reduceLeDiff, Nat.reduceLT, Nat.reduceBEq, Bool.or_false, Bool.false_or, Bool.or_true, Bool.true_or, nI_leI, nI_ltI, nI_eq, nI_clamp, inb_n, up_s, up_n, bx_uu, nI_1, ix6, nI_0n, pk_us, pk_un, ge_0n, hL, c0, e1, z1, zd, Bool.not_false, Option.getD_some]
      · simp (disch := omega) only [xX10_readWord_9, xX10_readWord_12, xX10_readWord_13, xX10_readWord_16, xX10_readWord_19, xX10_readWord_20, xX10_readWord_23, xX10_readWord_24, xX10_readWord_27, xX10_readWord_28, xX10_readWord_30, xX10_readWord_33, xX10_readWord_34, xX10_readWord_37, xX10_readWord_38, xX10_readWord_41, xX10_readWord_42, xX10_readWord_44, xX10_readWord_47, xX10_readWord_48, xX10_readWord_51, xX10_readWord_52, xX10_readWord_52I, xX10_readWord_53, xX10_readWord_56, xX10_readWord_57, xX10_readWord_60, xX10_readWord_61, xX10_readWord_64, xX10_readWord_65, xX10_readWord_67, xX10_readWord_68, xX10_readWord_69, xX10_readWord_70, xX10_readWord_71, xX10_readWord_72, xX10_readWord_73, xX10_readWord_76, xX10_readWord_79, xX10_readWord_80, xX10_readWord_80I, xX10_readWord_81, xX10_readWord_84, xX10_readWord_85, xX10_readWord_86, xX10_readWord_89, kd_57, fi_57_0, kd_1, ln_1, fi_57_1, kd_58, ln_58, ↓reduceIte, gd_t, hK_p, hN_p, hF_p, hI_p, hJ_p, hR_p, stI_p, stJ_p, stR_p, stA_p, va_rf_s, va_rf_n, clr_i, clr_l, clr_r, clr_n, clr_o, w8_0, w8_1i, w8_1r, w8_2ii, w8_2ri, w8_2ir, w8_2rr, w8_3, beq_self_eq_true, Bool.and_self, Bool.and_true, Bool.true_and, decide_true, Option.toList_some, Option.toList_none, List.cons_append, List.nil_append, Option.bind_some, if_true, if_false, Nat.reduceLeDiff, Nat.reduceLT, Nat.reduceBEq, Bool.or_false, Bool.false_or, Bool.or_true, Bool.true_or, nI_leI, nI_ltI, nI_eq, nI_clamp, inb_n, up_s, up_n, bx_uu, nI_1, ix6, nI_0n, pk_us, pk_un, ge_0n, hL, c0, e1, z1, z2, zd, Bool.not_false, Option.getD_some]) (by
    intro s
    have c0 : L ≤ L := Nat.le_refl L
    rw [xX10_readWord_8]
    simp (disch := omega) only [xX10_readWord_9, xX10_readWord_12, xX10_readWord_13, xX10_readWord_16, xX10_readWord_19, xX10_readWord_20, xX10_readWord_23, xX10_readWord_24, xX10_readWord_27, xX10_readWord_28, xX10_readWord_30, xX10_readWord_33, xX10_readWord_34, xX10_readWord_37, xX10_readWord_38, xX10_readWord_41, xX10_readWord_42, xX10_readWord_44, xX10_readWord_47, xX10_readWord_48, xX10_readWord_51, xX10_readWord_52, xX10_readWord_52I, xX10_readWord_53, xX10_readWord_56, xX10_readWord_57, xX10_readWord_60, xX10_readWord_61, xX10_readWord_64, xX10_readWord_65, xX10_readWord_67, xX10_readWord_68, xX10_readWord_69, xX10_readWord_70, xX10_readWord_71, xX10_readWord_72, xX10_readWord_73, xX10_readWord_76, xX10_readWord_79, xX10_readWord_80, xX10_readWord_80I, xX10_readWord_81, xX10_readWord_84, xX10_readWord_85, xX10_readWord_86, xX10_readWord_89, kd_57, fi_57_0, kd_1, ln_1, fi_57_1, kd_58, ln_58, ↓reduceIte, gd_t, hK_p, hN_p, hF_p, hI_p, hJ_p, hR_p, stI_p, stJ_p, stR_p, stA_p, va_rf_s, va_rf_n, clr_i, clr_l, clr_r, clr_n, clr_o, w8_0, w8_1i, w8_1r, w8_2ii, w8_2ri, w8_2ir, w8_2rr, w8_3, beq_self_eq_true, Bool.and_self, Bool.and_true, Bool.true_and, decide_true, Option.toList_some, Option.toList_none, List.cons_append, List.nil_append, Option.bind_some, if_true, if_false, Nat.reduceLeDiff, Nat.reduceLT, Nat.reduceBEq, Bool.or_false, Bool.false_or, Bool.or_true, Bool.true_or, nI_leI, nI_ltI, nI_eq, nI_clamp, inb_n, up_s, up_n, bx_uu, nI_1, ix6, nI_0n, pk_us, pk_un, ge_0n, hL, c0, Option.getD_none]) (L - p) p (0, 25) (by omega)
  have e0 : upd (upd (X 57) 7 0) 3 (nI p) = upd (X 57) 7 0 := upd_self (by rw [pk_un (by decide)]; exact hat)
  have e1 : (srF (fun i (_ : Int32 × Int32) => !(isL u i)) (wdC u) (L - p) p (0, 25)).1.getD L = skp (fun i => !(isL u i)) L p := by
    unfold skp
    rw [srF_u (c := fun i => !(isL u i)) (L - p) p (0, 25)]
  have hv := srF_iv (c := fun i => !(isL u i)) (f := wdC u) (n := L) (Q := fun i (s : Int32 × Int32) => p ≤ i ∧ (i - p ≤ 6 → s.1 = nI (hoN (wL u p) (i - p) * 2 ^ (30 - 5 * (i - p))) ∧ s.2 = nI (30 - 5 * (i - p)) + (-5))) (fun i s hi hc q => ⟨by omega, wd_st q.1 (by simpa using hc) q.2⟩) (L - p) p (0, 25) (by omega) ⟨Nat.le_refl p, fun _ => by rw [Nat.sub_self, show hoN (wL u p) 0 = 0 from rfl, Nat.zero_mul]; exact ⟨nI_0.symm, by decide⟩⟩
  rw [e0, e1] at hs
  rw [e1] at hv
  refine ⟨(srF (fun i (_ : Int32 × Int32) => !(isL u i)) (wdC u) (L - p) p (0, 25)).2, ?_, fun h6 => ?_⟩
  · rw [← hs]
    simp (disch := omega) only [xX10_readWord_0, xX10_readWord_1, xX10_readWord_2, xX10_readWord_5, xX10_readWord_7, kd_57, fi_57_0, kd_1, ln_1, fi_57_1, kd_58, ln_58, ↓reduceIte, gd_t, hK_p, hN_p, hF_p, hI_p, hJ_p, hR_p, stI_p, stJ_p, stR_p, stA_p, va_rf_s, va_rf_n, clr_i, clr_l, clr_r, clr_n, clr_o, w8_0, w8_1i, w8_1r, w8_2ii, w8_2ri, w8_2ir, w8_2rr, w8_3, beq_self_eq_true, Bool.and_self, Bool.and_true, Bool.true_and, decide_true, Option.toList_some, Option.toList_none, List.cons_append, List.nil_append, Option.bind_some, if_true, if_false, Nat.reduceLeDiff, Nat.reduceLT, Nat.reduceBEq, Bool.or_false, Bool.false_or, Bool.or_true, Bool.true_or]
  · rw [(hv.2 h6).1, hoN_pad h6]
def lgK (o : Option Nat) : Int32 := match o with
  | some i => nI (17 + i)
  | none => 3
/-- which word of the language, by the class -/
def lgO (v : Nat) : Option Nat := (srF (fun i (_ : Unit) => decide (lngL.getD i 0 = v)) (fun _ s => s) 21 0 ()).1
theorem lng_lt : ∀ i, i < 21 → lngL.getD i 0 < 2 ^ 30 := by decide
theorem rwd_k {d v : Nat} {s : Int32} (hv : v < 2 ^ 30) (h7 : X 57 7 = nI v) (h4 : X 57 4 = 3) (hlg : ∀ k, k < 21 → X 58 k = nI (lngL.getD k 0)) : E (C d) MX10_readWord 117 [some (.ref 57), some (.int s), some (.int 0)] [] (hp X J R) = some (none, hp (va_up X 57 (upd (X 57) 4 (lgK (lgO v)))) J R) := by
  have hs := for_s (P := fun i (_ : Unit) => E (C d) MX10_readWord 117 [some (.ref 57), some (.int s), some (.int (nI i))] [] (hp X J R)) (F := fun o => some (none, hp (va_up X 57 (upd (X 57) 4 (lgK o.1))) J R)) (c := fun i _ => decide (lngL.getD i 0 = v)) (f := fun _ s => s) (n := 21) (by
    intro i _ hi
    have c0 : ¬ (21 : Int32) ≤ nI i := fun w => absurd ((nI_leI (a := 21) (by omega) (by omega)).mp w) (by omega)
    have e1 := hlg i hi
    have el := lng_lt i hi
    rw [xX10_readWord_117]
    by_cases z : lngL.getD i 0 = v
    · have z' : nI (lngL.getD i 0) = nI v := by rw [z]
      have a17 : (17 : Int32) + nI i = nI (17 + i) := nI_add 17 i
      have n3 : ¬ nI (17 + i) = 3 := fun w => absurd ((nI_eq (b := 3) (by omega) (by omega)).mp w) (by omega)
      by_cases w : (21 : Int32) ≤ nI (i + 1)
      · simp (disch := omega) only [xX10_readWord_118, xX10_readWord_120, xX10_readWord_123, xX10_readWord_124, xX10_readWord_127, xX10_readWord_128, xX10_readWord_131, xX10_readWord_132, xX10_readWord_135, xX10_readWord_136, xX10_readWord_137, xX10_readWord_138, xX10_readWord_141, xX10_readWord_144, xX10_readWord_145, xX10_readWord_147, xX10_readWord_148, xX10_readWord_149, xX10_readWord_152, xX10_readWord_155, kd_57, fi_57_0, kd_1, ln_1, fi_57_1, kd_58, ln_58, xX10_readWord_117, xX10_readWord_158, ↓reduceIte, gd_t, hK_p, hN_p, hF_p, hI_p, hJ_p, hR_p, stI_p, stJ_p, stR_p, stA_p, va_rf_s, va_rf_n, clr_i, clr_l, clr_r, clr_n, clr_o, w8_0, w8_1i, w8_1r, w8_2ii, w8_2ri, w8_2ir, w8_2rr, w8_3, beq_self_eq_true, Bool.and_self, Bool.and_true, Bool.true_and, decide_true, Option.toList_some, Option.toList_none, List.cons_append, List.nil_append, Option.bind_some, if_true, if_false, Nat.reduceLeDiff, Nat.reduceLT, Nat.reduceBEq, Bool.or_false, Bool.false_or, Bool.or_true, Bool.true_or, inb_n, nI_clamp, nI_1, c0, h4, h7, e1, z, a17, w, lgK, not_true_eq_false]
      · simp (disch := omega) only [xX10_readWord_118, xX10_readWord_120, xX10_readWord_123, xX10_readWord_124, xX10_readWord_127, xX10_readWord_128, xX10_readWord_131, xX10_readWord_132, xX10_readWord_135, xX10_readWord_136, xX10_readWord_137, xX10_readWord_138, xX10_readWord_141, xX10_readWord_144, xX10_readWord_145, xX10_readWord_147, xX10_readWord_148, xX10_readWord_149, xX10_readWord_152, xX10_readWord_155, kd_57, fi_57_0, kd_1, ln_1, fi_57_1, kd_58, ln_58, xX10_readWord_117, xX10_readWord_158, ↓reduceIte, gd_t, hK_p, hN_p, hF_p, hI_p, hJ_p, hR_p, stI_p, stJ_p, stR_p, stA_p, va_rf_s, va_rf_n, clr_i, clr_l, clr_r, clr_n, clr_o, w8_0, w8_1i, w8_1r, w8_2ii, w8_2ri, w8_2ir, w8_2rr, w8_3, beq_self_eq_true, Bool.and_self, Bool.and_true, Bool.true_and, decide_true, Option.toList_some, Option.toList_none, List.cons_append, List.nil_append, Option.bind_some, if_true, if_false, Nat.reduceLeDiff, Nat.reduceLT, Nat.reduceBEq, Bool.or_false, Bool.false_or, Bool.or_true, Bool.true_or, inb_n, nI_clamp, nI_1, c0, h4, h7, e1, z, a17, w, up_s, pk_us, n3, lgK, not_true_eq_false, not_false_eq_true]
    · have z' : ¬ nI (lngL.getD i 0) = nI v := fun q => z ((nI_eq (by omega) (by omega)).mp q)
      simp (disch := omega) only [xX10_readWord_118, xX10_readWord_120, xX10_readWord_123, xX10_readWord_124, xX10_readWord_127, xX10_readWord_128, xX10_readWord_131, xX10_readWord_132, xX10_readWord_135, xX10_readWord_136, xX10_readWord_137, xX10_readWord_138, xX10_readWord_141, xX10_readWord_144, xX10_readWord_145, xX10_readWord_147, xX10_readWord_148, xX10_readWord_149, xX10_readWord_152, xX10_readWord_155, kd_57, fi_57_0, kd_1, ln_1, fi_57_1, kd_58, ln_58, ↓reduceIte, gd_t, hK_p, hN_p, hF_p, hI_p, hJ_p, hR_p, stI_p, stJ_p, stR_p, stA_p, va_rf_s, va_rf_n, clr_i, clr_l, clr_r, clr_n, clr_o, w8_0, w8_1i, w8_1r, w8_2ii, w8_2ri, w8_2ir, w8_2rr, w8_3, beq_self_eq_true, Bool.and_self, Bool.and_true, Bool.true_and, decide_true, Option.toList_some, Option.toList_none, List.cons_append, List.nil_append, Option.bind_some, if_true, if_false, Nat.reduceLeDiff, Nat.reduceLT, Nat.reduceBEq, Bool.or_false, Bool.false_or, Bool.or_true, Bool.true_or, inb_n, nI_clamp, nI_1, c0, h4, h7, e1, z, z', decide_false, Bool.false_eq_true, not_true_eq_false, not_false_eq_true]) (by
    intro _
    have c0 : (21 : Int32) ≤ nI 21 := by decide
    have e4 : va_up X 57 (upd (X 57) 4 3) = X := by rw [upd_self h4, up_self]
    rw [xX10_readWord_117]
    simp (disch := omega) only [xX10_readWord_118, xX10_readWord_120, xX10_readWord_123, xX10_readWord_124, xX10_readWord_127, xX10_readWord_128, xX10_readWord_131, xX10_readWord_132, xX10_readWord_135, xX10_readWord_136, xX10_readWord_137, xX10_readWord_138, xX10_readWord_141, xX10_readWord_144, xX10_readWord_145, xX10_readWord_147, xX10_readWord_148, xX10_readWord_149, xX10_readWord_152, xX10_readWord_155, xX10_readWord_158, kd_57, fi_57_0, kd_1, ln_1, fi_57_1, kd_58, ln_58, ↓reduceIte, gd_t, hK_p, hN_p, hF_p, hI_p, hJ_p, hR_p, stI_p, stJ_p, stR_p, stA_p, va_rf_s, va_rf_n, clr_i, clr_l, clr_r, clr_n, clr_o, w8_0, w8_1i, w8_1r, w8_2ii, w8_2ri, w8_2ir, w8_2rr, w8_3, beq_self_eq_true, Bool.and_self, Bool.and_true, Bool.true_and, decide_true, Option.toList_some, Option.toList_none, List.cons_append, List.nil_append, Option.bind_some, if_true, if_false, Nat.reduceLeDiff, Nat.reduceLT, Nat.reduceBEq, Bool.or_false, Bool.false_or, Bool.or_true, Bool.true_or, c0, lgK, e4]) 21 0 () (by omega)
  rw [nI_0] at hs
  exact hs
end TOM

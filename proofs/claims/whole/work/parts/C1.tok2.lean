-- TEXT, 2: numbers and words
theorem srF_st {σ τ : Type} {c : Nat → Bool} {f : Nat → σ → σ} {g : Nat → τ → τ} {Rl : σ → τ → Prop} {n : Nat} (h : ∀ i s t, i < n → c i = false → Rl s t → Rl (f i s) (g i t)) : ∀ k i s t, i + k = n → Rl s t → Rl (srF (fun i (_ : σ) => c i) f k i s).2 (srF (fun i (_ : τ) => c i) g k i t).2
  | 0, _, _, _, _, r => r
  | k + 1, i, s, t, e, r => by
    unfold srF
    by_cases z : c i = true
    · rw [if_pos z, if_pos z]; exact r
    · rw [if_neg z, if_neg z]
      exact srF_st h k (i + 1) _ _ (by omega) (h i s t (by omega) (by simpa using z) r)
theorem srF_iv {σ : Type} {c : Nat → Bool} {f : Nat → σ → σ} {Q : Nat → σ → Prop} {n : Nat} (h : ∀ i s, i < n → c i = false → Q i s → Q (i + 1) (f i s)) : ∀ k i s, i + k = n → Q i s → Q ((srF (fun i (_ : σ) => c i) f k i s).1.getD n) (srF (fun i (_ : σ) => c i) f k i s).2
  | 0, i, s, e, q => by
    obtain rfl : i = n := by omega
    exact q
  | k + 1, i, s, e, q => by
    unfold srF
    by_cases z : c i = true
    · rw [if_pos z]; exact q
    · rw [if_neg z]
      exact srF_iv h k (i + 1) _ (by omega) (h i s (by omega) (by simpa using z) q)
theorem ud31 {f : Nat → Int32} {a b : Nat} {x y z : Int32} (h : a ≠ b) : upd (upd (upd f a x) b y) a z = upd (upd f a z) b y := by
  funext k
  by_cases h1 : k = a
  · rw [h1, pk_us, pk_un h, pk_us]
  · rw [pk_un h1]
    by_cases h2 : k = b
    · rw [h2, pk_us, pk_us]
    · rw [pk_un h2, pk_un h2, pk_un h1, pk_un h1]
theorem tx_or (a b : Nat) : nI a ||| nI b = nI (a ||| b) := by
  apply Int32.toBitVec_inj.1
  show BitVec.ofNat 32 a ||| BitVec.ofNat 32 b = BitVec.ofNat 32 (a ||| b)
  apply BitVec.eq_of_getLsbD_eq
  intro i hi
  simp [hi]
theorem tx_sum {a k : Nat} (b : Nat) (h : a < 2 ^ k) : nI (2 ^ k * b) ||| nI a = nI (2 ^ k * b + a) := by rw [tx_or, Nat.two_pow_add_eq_or_of_lt h]
/-- the number of the class, of the model -/
def nuC (u : Nat → Nat) (i : Nat) (s : Int32) : Int32 := if 1000000 ≤ s then s else s * 10 + bq (u i) - 48
def nuM (u : Nat → Nat) (i : Nat) (s : Int32) : Int32 := if s ≤ 9999 then 10 * s + nI (u i) - 48 else s
def numR (s t : Int32) : Prop := (s = t ∧ inN s 0 9999) ∨ (inN s 10000 9999999 ∧ inN t 10000 99999)
theorem nu_st {u : Nat → Nat} {i : Nat} {s t : Int32} (hd : isD u i = true) (h : numR s t) : numR (nuC u i s) (nuM u i t) := by
  unfold isD at hd
  have hd := of_decide_eq_true hd
  have hb : bq (u i) = nI (u i) := bq_lo _ (by omega)
  unfold nuC nuM
  rw [hb]
  have ar : ∀ p, p ≤ 999999 → nI p * 10 + nI (u i) - 48 = nI (p * 10 + (u i - 48)) := by
    intro p hp
    rw [show (10 : Int32) = nI 10 from rfl, pk_mul, nI_add, show (48 : Int32) = nI 48 from rfl, pk_sub (by omega)]
    congr 1
    omega
  rcases h with ⟨rfl, p, p1, p2, rfl⟩ | ⟨⟨p, p1, p2, rfl⟩, ⟨q, q1, q2, rfl⟩⟩
  · rw [if_neg (fun w : (1000000 : Int32) ≤ nI p => absurd ((nI_leI (a := 1000000) (by omega) (by omega)).mp w) (by omega)), if_pos (show nI p ≤ (9999 : Int32) from (nI_leI (b := 9999) (by omega) (by omega)).mpr p2), Int32.mul_comm 10 (nI p), ar p (by omega)]
    rcases Nat.lt_or_ge 9999 (p * 10 + (u i - 48)) with w | w
    · exact Or.inr ⟨⟨_, by omega, by omega, rfl⟩, ⟨_, by omega, by omega, rfl⟩⟩
    · exact Or.inl ⟨rfl, _, by omega, w, rfl⟩
  · rw [if_neg (fun w : nI q ≤ 9999 => absurd ((nI_leI (b := 9999) (by omega) (by omega)).mp w) (by omega))]
    by_cases z : (1000000 : Int32) ≤ nI p
    · rw [if_pos z]
      exact Or.inr ⟨⟨p, p1, p2, rfl⟩, ⟨q, q1, q2, rfl⟩⟩
    · rw [if_neg z]
      have hp : p < 1000000 := by
        rcases Nat.lt_or_ge p 1000000 with w | w
        · exact w
        · exact absurd (nI_le (a := 1000000) w (by omega)) z
      rw [ar p (by omega)]
      exact Or.inr ⟨⟨_, by omega, by omega, rfl⟩, ⟨q, q1, q2, rfl⟩⟩
section TOL
variable {X Y : Mem} {J : MemL} {R : MemR} {L : Nat} {u : Nat → Nat}
/-- readNumber, from p on -/
theorem rnu_c {d p : Nat} (h : tpR X Y L u) (hL : X 57 2 = nI L) (hpL : p ≤ L) (hat : X 57 3 = nI p) : C (d + 1) MX10_readNumber [.ref 57] (hp X J R) = some (none, hp (va_up X 57 (upd (upd (upd (X 57) 4 2) 6 (srF (fun i (_ : Int32) => !(isD u i)) (nuC u) (L - p) p 0).2) 3 (nI (skp (fun i => !(isD u i)) L p)))) J R) := by
  obtain ⟨h7, ht⟩ := h
  have hs := for_s (P := fun i (s : Int32) => E (C d) MX10_readNumber 10 [some (.ref 57)] [] (hp (va_up X 57 (upd (upd (upd (X 57) 4 2) 6 s) 3 (nI i))) J R)) (F := fun o => some (none, hp (va_up X 57 (upd (upd (upd (X 57) 4 2) 6 o.2) 3 (nI (o.1.getD L)))) J R)) (c := fun i _ => !(isD u i)) (f := nuC u) (n := L) (by
    intro i s hi
    obtain ⟨e1, e2, e3⟩ := ht i hi
    have c0 : ¬ L ≤ i := by omega
    obtain ⟨b1, b2⟩ := bq_D (u i) e3
    rw [xX10_readNumber_10]
    unfold isD nuC
    by_cases z : 48 ≤ u i ∧ u i ≤ 57
    · obtain ⟨z1, z2⟩ := b1 z
      have zd : decide (48 ≤ u i ∧ u i ≤ 57) = true := decide_eq_true z
      by_cases w : (1000000 : Int32) ≤ s
      · simp (disch := omega) only [xX10_readNumber_11, xX10_readNumber_14, xX10_readNumber_15, xX10_readNumber_18, xX10_readNumber_21, xX10_readNumber_22, xX10_readNumber_25, xX10_readNumber_26, xX10_readNumber_29, xX10_readNumber_30, xX10_readNumber_32, xX10_readNumber_35, xX10_readNumber_36, xX10_readNumber_39, xX10_readNumber_40, xX10_readNumber_43, xX10_readNumber_44, xX10_readNumber_46, xX10_readNumber_49, xX10_readNumber_50, xX10_readNumber_53, xX10_readNumber_55, xX10_readNumber_58, xX10_readNumber_59, xX10_readNumber_60, xX10_readNumber_63, xX10_readNumber_65, xX10_readNumber_66, xX10_readNumber_67, xX10_readNumber_70, xX10_readNumber_71, xX10_readNumber_74, xX10_readNumber_75, xX10_readNumber_76, xX10_readNumber_78, xX10_readNumber_79, xX10_readNumber_82, xX10_readNumber_83, xX10_readNumber_83I, xX10_readNumber_84, xX10_readNumber_87, xX10_readNumber_88, xX10_readNumber_89, xX10_readNumber_92, xX10_readNumber_95, kd_57, fi_57_0, kd_1, ln_1, ↓reduceIte, gd_t, hK_p, hN_p, hF_p, hI_p, hJ_p, hR_p, stI_p, stJ_p, stR_p, stA_p, va_rf_s, va_rf_n, clr_i, clr_l, clr_r, clr_n, clr_o, w8_0, w8_1i, w8_1r, w8_2ii, w8_2ri, w8_2ir, w8_2rr, w8_3, beq_self_eq_true, Bool.and_self, Bool.and_true, Bool.true_and, decide_true, Option.toList_some, Option.toList_none, List.cons_append, List.nil_append, Option.bind_some, if_true, if_false, Nat.reduceLeDiff, Nat.reduceLT, Nat.reduceBEq, Bool.or_false, Bool.false_or, Bool.or_true, Bool.true_or, nI_leI, nI_ltI, nI_eq, nI_clamp, inb_n, up_s, up_n, bx_uu, nI_1, ix6, nI_0n, pk_us, pk_un, ge_0n, uu, hL, c0, e1, z1, z2, zd, w, Bool.not_true, Bool.false_eq_true]
      · simp (disch := omega) only [xX10_readNumber_11, xX10_readNumber_14, xX10_readNumber_15, xX10_readNumber_18, xX10_readNumber_21, xX10_readNumber_22, xX10_readNumber_25, xX10_readNumber_26, xX10_readNumber_29, xX10_readNumber_30, xX10_readNumber_32, xX10_readNumber_35, xX10_readNumber_36, xX10_readNumber_39, xX10_readNumber_40, xX10_readNumber_43, xX10_readNumber_44, xX10_readNumber_46, xX10_readNumber_49, xX10_readNumber_50, xX10_readNumber_53, xX10_readNumber_55, xX10_readNumber_58, xX10_readNumber_59, xX10_readNumber_60, xX10_readNumber_63, xX10_readNumber_65, xX10_readNumber_66, xX10_readNumber_67, xX10_readNumber_70, xX10_readNumber_71, xX10_readNumber_74, xX10_readNumber_75, xX10_readNumber_76, xX10_readNumber_78, xX10_readNumber_79, xX10_readNumber_82, xX10_readNumber_83, xX10_readNumber_83I, xX10_readNumber_84, xX10_readNumber_87, xX10_readNumber_88, xX10_readNumber_89, xX10_readNumber_92, xX10_readNumber_95, kd_57, fi_57_0, kd_1, ln_1, ↓reduceIte, gd_t, hK_p, hN_p, hF_p, hI_p, hJ_p, hR_p, stI_p, stJ_p, stR_p, stA_p, va_rf_s, va_rf_n, clr_i, clr_l, clr_r, clr_n, clr_o, w8_0, w8_1i, w8_1r, w8_2ii, w8_2ri, w8_2ir, w8_2rr, w8_3, beq_self_eq_true, Bool.and_self, Bool.and_true, Bool.true_and, decide_true, Option.toList_some, Option.toList_none, List.cons_append, List.nil_append, Option.bind_some, if_true, if_false, Nat.reduceLeDiff, Nat.reduceLT, Nat.reduceBEq, Bool.or_false, Bool.false_or, Bool.or_true, Bool.true_or, nI_leI, nI_ltI, nI_eq, nI_clamp, inb_n, up_s, up_n, bx_uu, nI_1, ix6, nI_0n, pk_us, pk_un, ge_0n, uu, ud31, hL, c0, e1, z1, z2, zd, w, Bool.not_true, Bool.false_eq_true]
    · have zd : decide (48 ≤ u i ∧ u i ≤ 57) = false := decide_eq_false z
      rcases b2 z with z1 | ⟨z1, z2⟩
      · simp (disch := omega) only [xX10_readNumber_11, xX10_readNumber_14, xX10_readNumber_15, xX10_readNumber_18, xX10_readNumber_21, xX10_readNumber_22, xX10_readNumber_25, xX10_readNumber_26, xX10_readNumber_29, xX10_readNumber_30, xX10_readNumber_32, xX10_readNumber_35, xX10_readNumber_36, xX10_readNumber_39, xX10_readNumber_40, xX10_readNumber_43, xX10_readNumber_44, xX10_readNumber_46, xX10_readNumber_49, xX10_readNumber_50, xX10_readNumber_53, xX10_readNumber_55, xX10_readNumber_58, xX10_readNumber_59, xX10_readNumber_60, xX10_readNumber_63, xX10_readNumber_65, xX10_readNumber_66, xX10_readNumber_67, xX10_readNumber_70, xX10_readNumber_71, xX10_readNumber_74, xX10_readNumber_75, xX10_readNumber_76, xX10_readNumber_78, xX10_readNumber_79, xX10_readNumber_82, xX10_readNumber_83, xX10_readNumber_83I, xX10_readNumber_84, xX10_readNumber_87, xX10_readNumber_88, xX10_readNumber_89, xX10_readNumber_92, xX10_readNumber_95, kd_57, fi_57_0, kd_1, ln_1, ↓reduceIte, gd_t, hK_p, hN_p, hF_p, hI_p, hJ_p, hR_p, stI_p, stJ_p, stR_p, stA_p, va_rf_s, va_rf_n, clr_i, clr_l, clr_r, clr_n, clr_o, w8_0, w8_1i, w8_1r, w8_2ii, w8_2ri, w8_2ir, w8_2rr, w8_3, beq_self_eq_true, Bool.and_self, Bool.and_true, Bool.true_and, decide_true, Option.toList_some, Option.toList_none, List.cons_append, List.nil_append, Option.bind_some, if_true, if_false, Nat.reduceLeDiff, Nat.reduceLT, Nat.reduceBEq, Bool.or_false, Bool.false_or, Bool.or_true, Bool.true_or, nI_leI, nI_ltI, nI_eq, nI_clamp, inb_n, up_s, up_n, bx_uu, nI_1, ix6, nI_0n, pk_us, pk_un, ge_0n, hL, c0, e1, z1, zd, Bool.not_false, Option.getD_some]
      · simp (disch := omega) only [xX10_readNumber_11, xX10_readNumber_14, xX10_readNumber_15, xX10_readNumber_18, xX10_readNumber_21, xX10_readNumber_22, xX10_readNumber_25, xX10_readNumber_26, xX10_readNumber_29, xX10_readNumber_30, xX10_readNumber_32, xX10_readNumber_35, xX10_readNumber_36, xX10_readNumber_39, xX10_readNumber_40, xX10_readNumber_43, xX10_readNumber_44, xX10_readNumber_46, xX10_readNumber_49, xX10_readNumber_50, xX10_readNumber_53, xX10_readNumber_55, xX10_readNumber_58, xX10_readNumber_59, xX10_readNumber_60, xX10_readNumber_63, xX10_readNumber_65, xX10_readNumber_66, xX10_readNumber_67, xX10_readNumber_70, xX10_readNumber_71, xX10_readNumber_74, xX10_readNumber_75, xX10_readNumber_76, xX10_readNumber_78, xX10_readNumber_79, xX10_readNumber_82, xX10_readNumber_83, xX10_readNumber_83I, xX10_readNumber_84, xX10_readNumber_87, xX10_readNumber_88, xX10_readNumber_89, xX10_readNumber_92, xX10_readNumber_95, kd_57, fi_57_0, kd_1, ln_1, ↓reduceIte, gd_t, hK_p, hN_p, hF_p, hI_p, hJ_p, hR_p, stI_p, stJ_p, stR_p, stA_p, va_rf_s, va_rf_n, clr_i, clr_l, clr_r, clr_n, clr_o, w8_0, w8_1i, w8_1r, w8_2ii, w8_2ri, w8_2ir, w8_2rr, w8_3, beq_self_eq_true, Bool.and_self, Bool.and_true, Bool.true_and, decide_true, Option.toList_some, Option.toList_none, List.cons_append, List.nil_append, Option.bind_some, if_true, if_false, Nat.reduceLeDiff, Nat.reduceLT, Nat.reduceBEq, Bool.or_false, Bool.false_or, Bool.or_true, Bool.true_or, nI_leI, nI_ltI, nI_eq, nI_clamp, inb_n, up_s, up_n, bx_uu, nI_1, ix6, nI_0n, pk_us, pk_un, ge_0n, hL, c0, e1, z1, z2, zd, Bool.not_false, Option.getD_some]) (by
    intro s
    have c0 : L ≤ L := Nat.le_refl L
    rw [xX10_readNumber_10]
    simp (disch := omega) only [xX10_readNumber_11, xX10_readNumber_14, xX10_readNumber_15, xX10_readNumber_18, xX10_readNumber_21, xX10_readNumber_22, xX10_readNumber_25, xX10_readNumber_26, xX10_readNumber_29, xX10_readNumber_30, xX10_readNumber_32, xX10_readNumber_35, xX10_readNumber_36, xX10_readNumber_39, xX10_readNumber_40, xX10_readNumber_43, xX10_readNumber_44, xX10_readNumber_46, xX10_readNumber_49, xX10_readNumber_50, xX10_readNumber_53, xX10_readNumber_55, xX10_readNumber_58, xX10_readNumber_59, xX10_readNumber_60, xX10_readNumber_63, xX10_readNumber_65, xX10_readNumber_66, xX10_readNumber_67, xX10_readNumber_70, xX10_readNumber_71, xX10_readNumber_74, xX10_readNumber_75, xX10_readNumber_76, xX10_readNumber_78, xX10_readNumber_79, xX10_readNumber_82, xX10_readNumber_83, xX10_readNumber_83I, xX10_readNumber_84, xX10_readNumber_87, xX10_readNumber_88, xX10_readNumber_89, xX10_readNumber_92, xX10_readNumber_95, kd_57, fi_57_0, kd_1, ln_1, ↓reduceIte, gd_t, hK_p, hN_p, hF_p, hI_p, hJ_p, hR_p, stI_p, stJ_p, stR_p, stA_p, va_rf_s, va_rf_n, clr_i, clr_l, clr_r, clr_n, clr_o, w8_0, w8_1i, w8_1r, w8_2ii, w8_2ri, w8_2ir, w8_2rr, w8_3, beq_self_eq_true, Bool.and_self, Bool.and_true, Bool.true_and, decide_true, Option.toList_some, Option.toList_none, List.cons_append, List.nil_append, Option.bind_some, if_true, if_false, Nat.reduceLeDiff, Nat.reduceLT, Nat.reduceBEq, Bool.or_false, Bool.false_or, Bool.or_true, Bool.true_or, nI_leI, nI_ltI, nI_eq, nI_clamp, inb_n, up_s, up_n, bx_uu, nI_1, ix6, nI_0n, pk_us, pk_un, ge_0n, hL, c0, Option.getD_none]) (L - p) p 0 (by omega)
  have e0 : upd (upd (upd (X 57) 4 2) 6 0) 3 (nI p) = upd (upd (X 57) 4 2) 6 0 := upd_self (by rw [pk_un (by decide), pk_un (by decide)]; exact hat)
  have e1 : (srF (fun i (_ : Int32) => !(isD u i)) (nuC u) (L - p) p 0).1.getD L = skp (fun i => !(isD u i)) L p := by
    unfold skp
    rw [srF_u (c := fun i => !(isD u i)) (L - p) p 0]
  rw [e0, e1] at hs
  rw [eX10_readNumber]
  simp (disch := omega) only [xX10_readNumber_0, xX10_readNumber_1, xX10_readNumber_2, xX10_readNumber_5, xX10_readNumber_6, xX10_readNumber_7, kd_57, fi_57_0, kd_1, ln_1, ↓reduceIte, gd_t, hK_p, hN_p, hF_p, hI_p, hJ_p, hR_p, stI_p, stJ_p, stR_p, stA_p, va_rf_s, va_rf_n, clr_i, clr_l, clr_r, clr_n, clr_o, w8_0, w8_1i, w8_1r, w8_2ii, w8_2ri, w8_2ir, w8_2rr, w8_3, beq_self_eq_true, Bool.and_self, Bool.and_true, Bool.true_and, decide_true, Option.toList_some, Option.toList_none, List.cons_append, List.nil_append, Option.bind_some, if_true, if_false, Nat.reduceLeDiff, Nat.reduceLT, Nat.reduceBEq, Bool.or_false, Bool.false_or, Bool.or_true, Bool.true_or, up_s, bx_uu]
  exact hs
theorem isd_m {d p : Nat} (h : tpR X Y L u) (hL : Y 123 6 = nI L) (hpL : p ≤ L) : C (d + 1) MX12_isDigit [.ref 123, .int (nI p)] (hp Y J R) = some (some (.int (if p < L ∧ isD u p = true then 1 else 0)), hp Y J R) := by
  obtain ⟨h7, ht⟩ := h
  rw [eX12_isDigit]
  by_cases c0 : L ≤ p
  · rw [if_neg (by omega)]
    simp (disch := omega) only [xX12_isDigit_0, xX12_isDigit_1, xX12_isDigit_2, xX12_isDigit_5, xX12_isDigit_8, xX12_isDigit_9, xX12_isDigit_12, xX12_isDigit_13, xX12_isDigit_14, xX12_isDigit_16, xX12_isDigit_19, xX12_isDigit_20, xX12_isDigit_23, xX12_isDigit_24, xX12_isDigit_25, xX12_isDigit_27, xX12_isDigit_30, xX12_isDigit_31, xX12_isDigit_34, xX12_isDigit_35, kd_123, fi_123_0, kd_124, ln_124, ↓reduceIte, gd_t, hK_p, hN_p, hF_p, hI_p, hJ_p, hR_p, stI_p, stJ_p, stR_p, stA_p, va_rf_s, va_rf_n, clr_i, clr_l, clr_r, clr_n, clr_o, w8_0, w8_1i, w8_1r, w8_2ii, w8_2ri, w8_2ir, w8_2rr, w8_3, beq_self_eq_true, Bool.and_self, Bool.and_true, Bool.true_and, decide_true, Option.toList_some, Option.toList_none, List.cons_append, List.nil_append, Option.bind_some, if_true, if_false, Nat.reduceLeDiff, Nat.reduceLT, Nat.reduceBEq, Bool.or_false, Bool.false_or, Bool.or_true, Bool.true_or, nI_leI, nI_ltI, nI_eq, nI_clamp, inb_n, up_s, up_n, bx_uu, nI_1, ix6, nI_0n, pk_us, pk_un, ge_0n, hL, c0, z01]
  · obtain ⟨e1, e2, e3⟩ := ht p (by omega)
    unfold isD
    have b1 : nI (u p) < 48 ↔ u p < 48 := nI_ltI (b := 48) (by omega) (by omega)
    have b2 : (57 : Int32) < nI (u p) ↔ 57 < u p := nI_ltI (a := 57) (by omega) (by omega)
    by_cases z1 : u p < 48
    · have z1' := b1.mpr z1
      rw [if_neg (by simp; omega)]
      simp (disch := omega) only [xX12_isDigit_0, xX12_isDigit_1, xX12_isDigit_2, xX12_isDigit_5, xX12_isDigit_8, xX12_isDigit_9, xX12_isDigit_12, xX12_isDigit_13, xX12_isDigit_14, xX12_isDigit_16, xX12_isDigit_19, xX12_isDigit_20, xX12_isDigit_23, xX12_isDigit_24, xX12_isDigit_25, xX12_isDigit_27, xX12_isDigit_30, xX12_isDigit_31, xX12_isDigit_34, xX12_isDigit_35, kd_123, fi_123_0, kd_124, ln_124, ↓reduceIte, gd_t, hK_p, hN_p, hF_p, hI_p, hJ_p, hR_p, stI_p, stJ_p, stR_p, stA_p, va_rf_s, va_rf_n, clr_i, clr_l, clr_r, clr_n, clr_o, w8_0, w8_1i, w8_1r, w8_2ii, w8_2ri, w8_2ir, w8_2rr, w8_3, beq_self_eq_true, Bool.and_self, Bool.and_true, Bool.true_and, decide_true, Option.toList_some, Option.toList_none, List.cons_append, List.nil_append, Option.bind_some, if_true, if_false, Nat.reduceLeDiff, Nat.reduceLT, Nat.reduceBEq, Bool.or_false, Bool.false_or, Bool.or_true, Bool.true_or, inb_n, nI_clamp, nI_leI, hL, c0, e2, z1', z01]
    · have z1' : ¬ nI (u p) < 48 := fun q => z1 (b1.mp q)
      by_cases z2 : 57 < u p
      · have z2' := b2.mpr z2
        rw [if_neg (by simp; omega)]
        simp (disch := omega) only [xX12_isDigit_0, xX12_isDigit_1, xX12_isDigit_2, xX12_isDigit_5, xX12_isDigit_8, xX12_isDigit_9, xX12_isDigit_12, xX12_isDigit_13, xX12_isDigit_14, xX12_isDigit_16, xX12_isDigit_19, xX12_isDigit_20, xX12_isDigit_23, xX12_isDigit_24, xX12_isDigit_25, xX12_isDigit_27, xX12_isDigit_30, xX12_isDigit_31, xX12_isDigit_34, xX12_isDigit_35, kd_123, fi_123_0, kd_124, ln_124, ↓reduceIte, gd_t, hK_p, hN_p, hF_p, hI_p, hJ_p, hR_p, stI_p, stJ_p, stR_p, stA_p, va_rf_s, va_rf_n, clr_i, clr_l, clr_r, clr_n, clr_o, w8_0, w8_1i, w8_1r, w8_2ii, w8_2ri, w8_2ir, w8_2rr, w8_3, beq_self_eq_true, Bool.and_self, Bool.and_true, Bool.true_and, decide_true, Option.toList_some, Option.toList_none, List.cons_append, List.nil_append, Option.bind_some, if_true, if_false, Nat.reduceLeDiff, Nat.reduceLT, Nat.reduceBEq, Bool.or_false, Bool.false_or, Bool.or_true, Bool.true_or, inb_n, nI_clamp, nI_leI, hL, c0, e2, z1', z2', z01]
      · have z2' : ¬ (57 : Int32) < nI (u p) := fun q => z2 (b2.mp q)
        rw [if_pos ⟨by omega, by simp; omega⟩]
        simp (disch := omega) only [xX12_isDigit_0, xX12_isDigit_1, xX12_isDigit_2, xX12_isDigit_5, xX12_isDigit_8, xX12_isDigit_9, xX12_isDigit_12, xX12_isDigit_13, xX12_isDigit_14, xX12_isDigit_16, xX12_isDigit_19, xX12_isDigit_20, xX12_isDigit_23, xX12_isDigit_24, xX12_isDigit_25, xX12_isDigit_27, xX12_isDigit_30, xX12_isDigit_31, xX12_isDigit_34, xX12_isDigit_35, kd_123, fi_123_0, kd_124, ln_124, ↓reduceIte, gd_t, hK_p, hN_p, hF_p, hI_p, hJ_p, hR_p, stI_p, stJ_p, stR_p, stA_p, va_rf_s, va_rf_n, clr_i, clr_l, clr_r, clr_n, clr_o, w8_0, w8_1i, w8_1r, w8_2ii, w8_2ri, w8_2ir, w8_2rr, w8_3, beq_self_eq_true, Bool.and_self, Bool.and_true, Bool.true_and, decide_true, Option.toList_some, Option.toList_none, List.cons_append, List.nil_append, Option.bind_some, if_true, if_false, Nat.reduceLeDiff, Nat.reduceLT, Nat.reduceBEq, Bool.or_false, Bool.false_or, Bool.or_true, Bool.true_or, inb_n, nI_clamp, nI_leI, hL, c0, e2, z1', z2', z11]
theorem iss_m {d p : Nat} (h : tpR X Y L u) (hL : Y 123 6 = nI L) (hpL : p ≤ L) : C (d + 1) MX12_isSmall [.ref 123, .int (nI p)] (hp Y J R) = some (some (.int (if p < L ∧ isL u p = true then 1 else 0)), hp Y J R) := by
  obtain ⟨h7, ht⟩ := h
  rw [eX12_isSmall]
  by_cases c0 : L ≤ p
  · rw [if_neg (by omega)]
    simp (disch := omega) only [xX12_isSmall_0, xX12_isSmall_1, xX12_isSmall_2, xX12_isSmall_5, xX12_isSmall_8, xX12_isSmall_9, xX12_isSmall_12, xX12_isSmall_13, xX12_isSmall_14, xX12_isSmall_16, xX12_isSmall_19, xX12_isSmall_20, xX12_isSmall_23, xX12_isSmall_24, xX12_isSmall_25, xX12_isSmall_27, xX12_isSmall_30, xX12_isSmall_31, xX12_isSmall_34, xX12_isSmall_35, kd_123, fi_123_0, kd_124, ln_124, ↓reduceIte, gd_t, hK_p, hN_p, hF_p, hI_p, hJ_p, hR_p, stI_p, stJ_p, stR_p, stA_p, va_rf_s, va_rf_n, clr_i, clr_l, clr_r, clr_n, clr_o, w8_0, w8_1i, w8_1r, w8_2ii, w8_2ri, w8_2ir, w8_2rr, w8_3, beq_self_eq_true, Bool.and_self, Bool.and_true, Bool.true_and, decide_true, Option.toList_some, Option.toList_none, List.cons_append, List.nil_append, Option.bind_some, if_true, if_false, Nat.reduceLeDiff, Nat.reduceLT, Nat.reduceBEq, Bool.or_false, Bool.false_or, Bool.or_true, Bool.true_or, nI_leI, nI_ltI, nI_eq, nI_clamp, inb_n, up_s, up_n, bx_uu, nI_1, ix6, nI_0n, pk_us, pk_un, ge_0n, hL, c0, z01]
  · obtain ⟨e1, e2, e3⟩ := ht p (by omega)
    unfold isL
    have b1 : nI (u p) < 97 ↔ u p < 97 := nI_ltI (b := 97) (by omega) (by omega)
    have b2 : (122 : Int32) < nI (u p) ↔ 122 < u p := nI_ltI (a := 122) (by omega) (by omega)
    by_cases z1 : u p < 97
    · have z1' := b1.mpr z1
      rw [if_neg (by simp; omega)]
      simp (disch := omega) only [xX12_isSmall_0, xX12_isSmall_1, xX12_isSmall_2, xX12_isSmall_5, xX12_isSmall_8, xX12_isSmall_9, xX12_isSmall_12, xX12_isSmall_13, xX12_isSmall_14, xX12_isSmall_16, xX12_isSmall_19, xX12_isSmall_20, xX12_isSmall_23, xX12_isSmall_24, xX12_isSmall_25, xX12_isSmall_27, xX12_isSmall_30, xX12_isSmall_31, xX12_isSmall_34, xX12_isSmall_35, kd_123, fi_123_0, kd_124, ln_124, ↓reduceIte, gd_t, hK_p, hN_p, hF_p, hI_p, hJ_p, hR_p, stI_p, stJ_p, stR_p, stA_p, va_rf_s, va_rf_n, clr_i, clr_l, clr_r, clr_n, clr_o, w8_0, w8_1i, w8_1r, w8_2ii, w8_2ri, w8_2ir, w8_2rr, w8_3, beq_self_eq_true, Bool.and_self, Bool.and_true, Bool.true_and, decide_true, Option.toList_some, Option.toList_none, List.cons_append, List.nil_append, Option.bind_some, if_true, if_false, Nat.reduceLeDiff, Nat.reduceLT, Nat.reduceBEq, Bool.or_false, Bool.false_or, Bool.or_true, Bool.true_or, inb_n, nI_clamp, nI_leI, hL, c0, e2, z1', z01]
    · have z1' : ¬ nI (u p) < 97 := fun q => z1 (b1.mp q)
      by_cases z2 : 122 < u p
      · have z2' := b2.mpr z2
        rw [if_neg (by simp; omega)]
        simp (disch := omega) only [xX12_isSmall_0, xX12_isSmall_1, xX12_isSmall_2, xX12_isSmall_5, xX12_isSmall_8, xX12_isSmall_9, xX12_isSmall_12, xX12_isSmall_13, xX12_isSmall_14, xX12_isSmall_16, xX12_isSmall_19, xX12_isSmall_20, xX12_isSmall_23, xX12_isSmall_24, xX12_isSmall_25, xX12_isSmall_27, xX12_isSmall_30, xX12_isSmall_31, xX12_isSmall_34, xX12_isSmall_35, kd_123, fi_123_0, kd_124, ln_124, ↓reduceIte, gd_t, hK_p, hN_p, hF_p, hI_p, hJ_p, hR_p, stI_p, stJ_p, stR_p, stA_p, va_rf_s, va_rf_n, clr_i, clr_l, clr_r, clr_n, clr_o, w8_0, w8_1i, w8_1r, w8_2ii, w8_2ri, w8_2ir, w8_2rr, w8_3, beq_self_eq_true, Bool.and_self, Bool.and_true, Bool.true_and, decide_true, Option.toList_some, Option.toList_none, List.cons_append, List.nil_append, Option.bind_some, if_true, if_false, Nat.reduceLeDiff, Nat.reduceLT, Nat.reduceBEq, Bool.or_false, Bool.false_or, Bool.or_true, Bool.true_or, inb_n, nI_clamp, nI_leI, hL, c0, e2, z1', z2', z01]
      · have z2' : ¬ (122 : Int32) < nI (u p) := fun q => z2 (b2.mp q)
        rw [if_pos ⟨by omega, by simp; omega⟩]
        simp (disch := omega) only [xX12_isSmall_0, xX12_isSmall_1, xX12_isSmall_2, xX12_isSmall_5, xX12_isSmall_8, xX12_isSmall_9, xX12_isSmall_12, xX12_isSmall_13, xX12_isSmall_14, xX12_isSmall_16, xX12_isSmall_19, xX12_isSmall_20, xX12_isSmall_23, xX12_isSmall_24, xX12_isSmall_25, xX12_isSmall_27, xX12_isSmall_30, xX12_isSmall_31, xX12_isSmall_34, xX12_isSmall_35, kd_123, fi_123_0, kd_124, ln_124, ↓reduceIte, gd_t, hK_p, hN_p, hF_p, hI_p, hJ_p, hR_p, stI_p, stJ_p, stR_p, stA_p, va_rf_s, va_rf_n, clr_i, clr_l, clr_r, clr_n, clr_o, w8_0, w8_1i, w8_1r, w8_2ii, w8_2ri, w8_2ir, w8_2rr, w8_3, beq_self_eq_true, Bool.and_self, Bool.and_true, Bool.true_and, decide_true, Option.toList_some, Option.toList_none, List.cons_append, List.nil_append, Option.bind_some, if_true, if_false, Nat.reduceLeDiff, Nat.reduceLT, Nat.reduceBEq, Bool.or_false, Bool.false_or, Bool.or_true, Bool.true_or, inb_n, nI_clamp, nI_leI, hL, c0, e2, z1', z2', z11]
/-- the model's number, from p on -/
theorem rnu_m {d p : Nat} (h : tpR X Y L u) (hL : Y 123 6 = nI L) (hpL : p ≤ L) (hat : Y 123 7 = nI p) : E (C (d + 1)) MX12_token 203 [some (.ref 123)] [] (hp Y J R) = some (none, hp (va_up Y 123 (upd (upd (upd (Y 123) 8 3) 9 (srF (fun i (_ : Int32) => !(isD u i)) (nuM u) (L - p) p 0).2) 7 (nI (skp (fun i => !(isD u i)) L p)))) J R) := by
  have h' := h
  obtain ⟨h7, ht⟩ := h
  have n1 : ¬ (1 : Int32) = 0 := by decide
  have hd : ∀ (s : Int32) (i : Nat), i ≤ L → C (d + 1) MX12_isDigit [.ref 123, .int (nI i)] (hp (va_up Y 123 (upd (upd (upd (Y 123) 8 3) 9 s) 7 (nI i))) J R) = some (some (.int (if i < L ∧ isD u i = true then 1 else 0)), hp (va_up Y 123 (upd (upd (upd (Y 123) 8 3) 9 s) 7 (nI i))) J R) := fun s i hi => isd_m (X := X) (Y := va_up Y 123 (upd (upd (upd (Y 123) 8 3) 9 s) 7 (nI i))) (L := L) (u := u) ⟨h7, fun k hk => by rw [up_n (by decide)]; exact ht k hk⟩ (by rw [up_s, pk_un (by decide), pk_un (by decide), pk_un (by decide)]; exact hL) hi
  have hs := for_s (P := fun i (s : Int32) => E (C (d + 1)) MX12_token 213 [some (.ref 123)] [] (hp (va_up Y 123 (upd (upd (upd (Y 123) 8 3) 9 s) 7 (nI i))) J R)) (F := fun o => some (none, hp (va_up Y 123 (upd (upd (upd (Y 123) 8 3) 9 o.2) 7 (nI (o.1.getD L)))) J R)) (c := fun i _ => !(isD u i)) (f := nuM u) (n := L) (by
    intro i s hi
    obtain ⟨e1, e2, e3⟩ := ht i hi
    have hdi := hd s i (by omega)
    rw [xX12_token_213]
    unfold nuM
    by_cases z : isD u i = true
    · rw [if_pos ⟨hi, z⟩] at hdi
      by_cases w : s ≤ 9999
      · simp (disch := omega) only [xX12_token_214, xX12_token_215, xX12_token_218, xX12_token_221, xX12_token_224, xX12_token_225, xX12_token_226, xX12_token_229, xX12_token_232, xX12_token_235, xX12_token_236, xX12_token_239, xX12_token_242, xX12_token_244, xX12_token_245, xX12_token_248, xX12_token_249, xX12_token_250, xX12_token_253, xX12_token_254, xX12_token_257, xX12_token_258, xX12_token_259, xX12_token_261, xX12_token_262, xX12_token_265, xX12_token_266, xX12_token_266I, xX12_token_267, xX12_token_270, xX12_token_271, xX12_token_272, xX12_token_275, xX12_token_278, xX12_token_279, xX12_token_282, kd_123, fi_123_0, kd_124, ln_124, kd_123, ↓reduceIte, gd_t, hK_p, hN_p, hF_p, hI_p, hJ_p, hR_p, stI_p, stJ_p, stR_p, stA_p, va_rf_s, va_rf_n, clr_i, clr_l, clr_r, clr_n, clr_o, w8_0, w8_1i, w8_1r, w8_2ii, w8_2ri, w8_2ir, w8_2rr, w8_3, beq_self_eq_true, Bool.and_self, Bool.and_true, Bool.true_and, decide_true, Option.toList_some, Option.toList_none, List.cons_append, List.nil_append, Option.bind_some, if_true, if_false, Nat.reduceLeDiff, Nat.reduceLT, Nat.reduceBEq, Bool.or_false, Bool.false_or, Bool.or_true, Bool.true_or, nI_leI, nI_ltI, nI_eq, nI_clamp, inb_n, up_s, up_n, bx_uu, nI_1, ix6, nI_0n, pk_us, pk_un, ge_0n, uu, ud31, hdi, n1, e2, z, w, Bool.not_true, Bool.false_eq_true]
      · simp (disch := omega) only [xX12_token_214, xX12_token_215, xX12_token_218, xX12_token_221, xX12_token_224, xX12_token_225, xX12_token_226, xX12_token_229, xX12_token_232, xX12_token_235, xX12_token_236, xX12_token_239, xX12_token_242, xX12_token_244, xX12_token_245, xX12_token_248, xX12_token_249, xX12_token_250, xX12_token_253, xX12_token_254, xX12_token_257, xX12_token_258, xX12_token_259, xX12_token_261, xX12_token_262, xX12_token_265, xX12_token_266, xX12_token_266I, xX12_token_267, xX12_token_270, xX12_token_271, xX12_token_272, xX12_token_275, xX12_token_278, xX12_token_279, xX12_token_282, kd_123, fi_123_0, kd_124, ln_124, kd_123, ↓reduceIte, gd_t, hK_p, hN_p, hF_p, hI_p, hJ_p, hR_p, stI_p, stJ_p, stR_p, stA_p, va_rf_s, va_rf_n, clr_i, clr_l, clr_r, clr_n, clr_o, w8_0, w8_1i, w8_1r, w8_2ii, w8_2ri, w8_2ir, w8_2rr, w8_3, beq_self_eq_true, Bool.and_self, Bool.and_true, Bool.true_and, decide_true, Option.toList_some, Option.toList_none, List.cons_append, List.nil_append, Option.bind_some, if_true, if_false, Nat.reduceLeDiff, Nat.reduceLT, Nat.reduceBEq, Bool.or_false, Bool.false_or, Bool.or_true, Bool.true_or, nI_leI, nI_ltI, nI_eq, nI_clamp, inb_n, up_s, up_n, bx_uu, nI_1, ix6, nI_0n, pk_us, pk_un, ge_0n, uu, ud31, upd_self, hdi, n1, e2, z, w, Bool.not_true, Bool.false_eq_true]
    · have z' : isD u i = false := by simpa using z
      rw [if_neg (fun q => z q.2)] at hdi
      simp (disch := omega) only [xX12_token_214, xX12_token_215, xX12_token_218, xX12_token_221, xX12_token_224, xX12_token_225, xX12_token_226, xX12_token_229, xX12_token_232, xX12_token_235, xX12_token_236, xX12_token_239, xX12_token_242, xX12_token_244, xX12_token_245, xX12_token_248, xX12_token_249, xX12_token_250, xX12_token_253, xX12_token_254, xX12_token_257, xX12_token_258, xX12_token_259, xX12_token_261, xX12_token_262, xX12_token_265, xX12_token_266, xX12_token_266I, xX12_token_267, xX12_token_270, xX12_token_271, xX12_token_272, xX12_token_275, xX12_token_278, xX12_token_279, xX12_token_282, kd_123, fi_123_0, kd_124, ln_124, kd_123, ↓reduceIte, gd_t, hK_p, hN_p, hF_p, hI_p, hJ_p, hR_p, stI_p, stJ_p, stR_p, stA_p, va_rf_s, va_rf_n, clr_i, clr_l, clr_r, clr_n, clr_o, w8_0, w8_1i, w8_1r, w8_2ii, w8_2ri, w8_2ir, w8_2rr, w8_3, beq_self_eq_true, Bool.and_self, Bool.and_true, Bool.true_and, decide_true, Option.toList_some, Option.toList_none, List.cons_append, List.nil_append, Option.bind_some, if_true, if_false, Nat.reduceLeDiff, Nat.reduceLT, Nat.reduceBEq, Bool.or_false, Bool.false_or, Bool.or_true, Bool.true_or, nI_leI, nI_ltI, nI_eq, nI_clamp, inb_n, up_s, up_n, bx_uu, nI_1, ix6, nI_0n, pk_us, pk_un, ge_0n, hdi, z', Bool.not_false, Option.getD_some]) (by
    intro s
    have hdi := hd s L (Nat.le_refl L)
    rw [if_neg (by omega)] at hdi
    rw [xX12_token_213]
    simp (disch := omega) only [xX12_token_214, xX12_token_215, xX12_token_218, xX12_token_221, xX12_token_224, xX12_token_225, xX12_token_226, xX12_token_229, xX12_token_232, xX12_token_235, xX12_token_236, xX12_token_239, xX12_token_242, xX12_token_244, xX12_token_245, xX12_token_248, xX12_token_249, xX12_token_250, xX12_token_253, xX12_token_254, xX12_token_257, xX12_token_258, xX12_token_259, xX12_token_261, xX12_token_262, xX12_token_265, xX12_token_266, xX12_token_266I, xX12_token_267, xX12_token_270, xX12_token_271, xX12_token_272, xX12_token_275, xX12_token_278, xX12_token_279, xX12_token_282, kd_123, fi_123_0, kd_124, ln_124, kd_123, ↓reduceIte, gd_t, hK_p, hN_p, hF_p, hI_p, hJ_p, hR_p, stI_p, stJ_p, stR_p, stA_p, va_rf_s, va_rf_n, clr_i, clr_l, clr_r, clr_n, clr_o, w8_0, w8_1i, w8_1r, w8_2ii, w8_2ri, w8_2ir, w8_2rr, w8_3, beq_self_eq_true, Bool.and_self, Bool.and_true, Bool.true_and, decide_true, Option.toList_some, Option.toList_none, List.cons_append, List.nil_append, Option.bind_some, if_true, if_false, Nat.reduceLeDiff, Nat.reduceLT, Nat.reduceBEq, Bool.or_false, Bool.false_or, Bool.or_true, Bool.true_or, nI_leI, nI_ltI, nI_eq, nI_clamp, inb_n, up_s, up_n, bx_uu, nI_1, ix6, nI_0n, pk_us, pk_un, ge_0n, hdi, Option.getD_none]) (L - p) p 0 (by omega)
  have e0 : upd (upd (upd (Y 123) 8 3) 9 0) 7 (nI p) = upd (upd (Y 123) 8 3) 9 0 := upd_self (by rw [pk_un (by decide), pk_un (by decide)]; exact hat)
  have e1 : (srF (fun i (_ : Int32) => !(isD u i)) (nuM u) (L - p) p 0).1.getD L = skp (fun i => !(isD u i)) L p := by
    unfold skp
    rw [srF_u (c := fun i => !(isD u i)) (L - p) p 0]
  rw [e0, e1] at hs
  rw [← hs]
  simp (disch := omega) only [xX12_token_203, xX12_token_204, xX12_token_205, xX12_token_208, xX12_token_209, xX12_token_210, kd_123, fi_123_0, kd_124, ln_124, ↓reduceIte, gd_t, hK_p, hN_p, hF_p, hI_p, hJ_p, hR_p, stI_p, stJ_p, stR_p, stA_p, va_rf_s, va_rf_n, clr_i, clr_l, clr_r, clr_n, clr_o, w8_0, w8_1i, w8_1r, w8_2ii, w8_2ri, w8_2ir, w8_2rr, w8_3, beq_self_eq_true, Bool.and_self, Bool.and_true, Bool.true_and, decide_true, Option.toList_some, Option.toList_none, List.cons_append, List.nil_append, Option.bind_some, if_true, if_false, Nat.reduceLeDiff, Nat.reduceLT, Nat.reduceBEq, Bool.or_false, Bool.false_or, Bool.or_true, Bool.true_or, up_s, bx_uu]
end TOL

-- TEXT, 1: signs of the tape; blanks, numbers
def bq (q : Nat) : Int32 := (nI q).toInt8.toInt32
theorem bq_10 : ∀ q, q < 256 → ((bq q = 10 ↔ q = 10) ∧ (bq q = 32 ↔ q = 32)) := by decide +kernel
theorem bq_L : ∀ q, q < 256 → (97 ≤ q ∧ q ≤ 122 → ¬ bq q < 97 ∧ ¬ 122 < bq q) ∧ (¬ (97 ≤ q ∧ q ≤ 122) → bq q < 97 ∨ (¬ bq q < 97 ∧ 122 < bq q)) := by decide +kernel
theorem bq_D : ∀ q, q < 256 → (48 ≤ q ∧ q ≤ 57 → ¬ bq q < 48 ∧ ¬ 57 < bq q) ∧ (¬ (48 ≤ q ∧ q ≤ 57) → bq q < 48 ∨ (¬ bq q < 48 ∧ 57 < bq q)) := by decide +kernel
theorem bq_lo : ∀ q, q < 128 → bq q = nI q := by decide +kernel
theorem bq10 : bq 10 = 10 := by decide
theorem bq32 : bq 32 = 32 := by decide
/-- the tape of both, its first L signs -/
def tpR (X Y : Mem) (L : Nat) (u : Nat → Nat) : Prop := L ≤ 700 ∧ ∀ k, k < L → X 1 k = bq (u k) ∧ Y 124 k = nI (u k) ∧ u k < 256
def blk (u : Nat → Nat) (p : Nat) : Bool := decide (u p = 10) || decide (u p = 32)
def isL (u : Nat → Nat) (p : Nat) : Bool := decide (97 ≤ u p ∧ u p ≤ 122)
def isD (u : Nat → Nat) (p : Nat) : Bool := decide (48 ≤ u p ∧ u p ≤ 57)
/-- the first place from p on at which c holds; L: none -/
def skp (c : Nat → Bool) (L p : Nat) : Nat := (srF (fun i (_ : Unit) => c i) (fun _ s => s) (L - p) p ()).1.getD L
theorem skp_le {c : Nat → Bool} {L p : Nat} (h : p ≤ L) : p ≤ skp c L p ∧ skp c L p ≤ L := by
  unfold skp
  cases e : (srF (fun i (_ : Unit) => c i) (fun _ s => s) (L - p) p ()).1 with
  | none => exact ⟨h, Nat.le_refl L⟩
  | some j =>
    have := srF_lt e
    show p ≤ j ∧ j ≤ L
    omega
theorem srF_ne {c : Nat → Bool} : ∀ (k i j m : Nat), (srF (fun i (_ : Unit) => c i) (fun _ s => s) k i ()).1.getD (i + k) = m → i ≤ j → j < m → c j = false
  | 0, i, j, m, h, h1, h2 => by
    have : i + 0 = m := h
    omega
  | k + 1, i, j, m, h, h1, h2 => by
    unfold srF at h
    by_cases z : c i = true
    · rw [if_pos z] at h
      have : i = m := h
      omega
    · rw [if_neg z] at h
      by_cases e : j = i
      · rw [e]; simpa using z
      · exact srF_ne k (i + 1) j m (by rw [show i + 1 + k = i + (k + 1) by omega]; exact h) (by omega) h2
theorem skp_no {c : Nat → Bool} {L p j : Nat} (hpL : p ≤ L) (h1 : p ≤ j) (h2 : j < skp c L p) : c j = false := by
  unfold skp at h2
  exact srF_ne (L - p) p j _ (by rw [show p + (L - p) = L by omega]) h1 h2
theorem srF_is {c : Nat → Bool} : ∀ (k i m : Nat), (srF (fun i (_ : Unit) => c i) (fun _ s => s) k i ()).1 = some m → c m = true
  | 0, i, m, h => by simp [srF] at h
  | k + 1, i, m, h => by
    unfold srF at h
    by_cases z : c i = true
    · rw [if_pos z] at h
      have : i = m := by simpa using h
      rw [← this]; exact z
    · rw [if_neg z] at h
      exact srF_is k (i + 1) m h
theorem skp_at {c : Nat → Bool} {L p : Nat} (h : skp c L p < L) : c (skp c L p) = true := by
  unfold skp at h ⊢
  cases e : (srF (fun i (_ : Unit) => c i) (fun _ s => s) (L - p) p ()).1 with
  | none => rw [e] at h; exact absurd h (Nat.lt_irrefl L)
  | some j => exact srF_is _ _ _ e
/-- the class's tokens stand at p -/
def atC (X : Mem) (p : Nat) : Mem := va_up X 57 (upd (X 57) 3 (nI p))
def atM (Y : Mem) (p : Nat) : Mem := va_up Y 123 (upd (Y 123) 7 (nI p))
theorem atC_2 {X : Mem} {p q : Nat} : va_up (atC X p) 57 (upd (upd (X 57) 3 (nI p)) 3 (nI q)) = atC X q := by
  unfold atC
  rw [uu, bx_uu]
section TOK
variable {X Y : Mem} {J : MemL} {R : MemR} {L : Nat} {u : Nat → Nat}
theorem blk_c {d p : Nat} (h : tpR X Y L u) (hL : X 57 2 = nI L) (hpL : p ≤ L) : E (C d) MX10_next 0 [some (.ref 57)] [] (hp (atC X p) J R) = E (C d) MX10_next 52 [some (.ref 57)] [] (hp (atC X (skp (fun i => !(blk u i)) L p)) J R) := by
  obtain ⟨h7, ht⟩ := h
  have hs := for_s (P := fun i (_ : Unit) => E (C d) MX10_next 0 [some (.ref 57)] [] (hp (atC X i) J R)) (F := fun o => E (C d) MX10_next 52 [some (.ref 57)] [] (hp (atC X (o.1.getD L)) J R)) (c := fun i _ => !(blk u i)) (f := fun _ s => s) (n := L) (by
    intro i s hi
    obtain ⟨e1, e2, e3⟩ := ht i hi
    have c0 : ¬ L ≤ i := by omega
    obtain ⟨b1, b2⟩ := bq_10 (u i) e3
    rw [xX10_next_0]
    unfold atC blk
    by_cases z1 : u i = 10
    · have z1' : bq (u i) = 10 := b1.mpr z1
      simp (disch := omega) only [xX10_next_1, xX10_next_4, xX10_next_5, xX10_next_8, xX10_next_11, xX10_next_12, xX10_next_15, xX10_next_16, xX10_next_19, xX10_next_20, xX10_next_22, xX10_next_25, xX10_next_26, xX10_next_29, xX10_next_30, xX10_next_33, xX10_next_34, xX10_next_36, xX10_next_39, xX10_next_40, xX10_next_40I, xX10_next_41, xX10_next_44, xX10_next_45, xX10_next_46, xX10_next_49, kd_57, fi_57_0, kd_1, ln_1, ↓reduceIte, gd_t, hK_p, hN_p, hF_p, hI_p, hJ_p, hR_p, stI_p, stJ_p, stR_p, stA_p, va_rf_s, va_rf_n, clr_i, clr_l, clr_r, clr_n, clr_o, w8_0, w8_1i, w8_1r, w8_2ii, w8_2ri, w8_2ir, w8_2rr, w8_3, beq_self_eq_true, Bool.and_self, Bool.and_true, Bool.true_and, decide_true, Option.toList_some, Option.toList_none, List.cons_append, List.nil_append, Option.bind_some, if_true, if_false, Nat.reduceLeDiff, Nat.reduceLT, Nat.reduceBEq, Bool.or_false, Bool.false_or, Bool.or_true, Bool.true_or, nI_leI, nI_ltI, nI_eq, nI_clamp, inb_n, up_s, up_n, bx_uu, nI_1, ix6, nI_0n, pk_us, pk_un, ge_0n, uu, hL, c0, e1, z1, bq10, Bool.not_true, Bool.false_eq_true]
    · have z1' : ¬ bq (u i) = 10 := fun q => z1 (b1.mp q)
      by_cases z2 : u i = 32
      · have z2' : bq (u i) = 32 := b2.mpr z2
        have n1 : ¬ (32 : Int32) = 10 := by decide
        have n2 : ¬ (32 : Nat) = 10 := by decide
        simp (disch := omega) only [xX10_next_1, xX10_next_4, xX10_next_5, xX10_next_8, xX10_next_11, xX10_next_12, xX10_next_15, xX10_next_16, xX10_next_19, xX10_next_20, xX10_next_22, xX10_next_25, xX10_next_26, xX10_next_29, xX10_next_30, xX10_next_33, xX10_next_34, xX10_next_36, xX10_next_39, xX10_next_40, xX10_next_40I, xX10_next_41, xX10_next_44, xX10_next_45, xX10_next_46, xX10_next_49, kd_57, fi_57_0, kd_1, ln_1, ↓reduceIte, gd_t, hK_p, hN_p, hF_p, hI_p, hJ_p, hR_p, stI_p, stJ_p, stR_p, stA_p, va_rf_s, va_rf_n, clr_i, clr_l, clr_r, clr_n, clr_o, w8_0, w8_1i, w8_1r, w8_2ii, w8_2ri, w8_2ir, w8_2rr, w8_3, beq_self_eq_true, Bool.and_self, Bool.and_true, Bool.true_and, decide_true, Option.toList_some, Option.toList_none, List.cons_append, List.nil_append, Option.bind_some, if_true, if_false, Nat.reduceLeDiff, Nat.reduceLT, Nat.reduceBEq, Bool.or_false, Bool.false_or, Bool.or_true, Bool.true_or, nI_leI, nI_ltI, nI_eq, nI_clamp, inb_n, up_s, up_n, bx_uu, nI_1, ix6, nI_0n, pk_us, pk_un, ge_0n, uu, hL, c0, e1, z2, bq32, n1, n2, not_true_eq_false, decide_false, Bool.not_true, Bool.false_eq_true]
      · have z2' : ¬ bq (u i) = 32 := fun q => z2 (b2.mp q)
        simp (disch := omega) only [xX10_next_1, xX10_next_4, xX10_next_5, xX10_next_8, xX10_next_11, xX10_next_12, xX10_next_15, xX10_next_16, xX10_next_19, xX10_next_20, xX10_next_22, xX10_next_25, xX10_next_26, xX10_next_29, xX10_next_30, xX10_next_33, xX10_next_34, xX10_next_36, xX10_next_39, xX10_next_40, xX10_next_40I, xX10_next_41, xX10_next_44, xX10_next_45, xX10_next_46, xX10_next_49, kd_57, fi_57_0, kd_1, ln_1, ↓reduceIte, gd_t, hK_p, hN_p, hF_p, hI_p, hJ_p, hR_p, stI_p, stJ_p, stR_p, stA_p, va_rf_s, va_rf_n, clr_i, clr_l, clr_r, clr_n, clr_o, w8_0, w8_1i, w8_1r, w8_2ii, w8_2ri, w8_2ir, w8_2rr, w8_3, beq_self_eq_true, Bool.and_self, Bool.and_true, Bool.true_and, decide_true, Option.toList_some, Option.toList_none, List.cons_append, List.nil_append, Option.bind_some, if_true, if_false, Nat.reduceLeDiff, Nat.reduceLT, Nat.reduceBEq, Bool.or_false, Bool.false_or, Bool.or_true, Bool.true_or, nI_leI, nI_ltI, nI_eq, nI_clamp, inb_n, up_s, up_n, bx_uu, nI_1, ix6, nI_0n, pk_us, pk_un, ge_0n, hL, c0, e1, z1', z2', z1, z2, not_false_eq_true, decide_false, Bool.not_false, Option.getD_some]) (by
    intro s
    have c0 : L ≤ L := Nat.le_refl L
    rw [xX10_next_0]
    unfold atC
    simp (disch := omega) only [xX10_next_1, xX10_next_4, xX10_next_5, xX10_next_8, xX10_next_11, xX10_next_12, xX10_next_15, xX10_next_16, xX10_next_19, xX10_next_20, xX10_next_22, xX10_next_25, xX10_next_26, xX10_next_29, xX10_next_30, xX10_next_33, xX10_next_34, xX10_next_36, xX10_next_39, xX10_next_40, xX10_next_40I, xX10_next_41, xX10_next_44, xX10_next_45, xX10_next_46, xX10_next_49, kd_57, fi_57_0, kd_1, ln_1, ↓reduceIte, gd_t, hK_p, hN_p, hF_p, hI_p, hJ_p, hR_p, stI_p, stJ_p, stR_p, stA_p, va_rf_s, va_rf_n, clr_i, clr_l, clr_r, clr_n, clr_o, w8_0, w8_1i, w8_1r, w8_2ii, w8_2ri, w8_2ir, w8_2rr, w8_3, beq_self_eq_true, Bool.and_self, Bool.and_true, Bool.true_and, decide_true, Option.toList_some, Option.toList_none, List.cons_append, List.nil_append, Option.bind_some, if_true, if_false, Nat.reduceLeDiff, Nat.reduceLT, Nat.reduceBEq, Bool.or_false, Bool.false_or, Bool.or_true, Bool.true_or, nI_leI, nI_ltI, nI_eq, nI_clamp, inb_n, up_s, up_n, bx_uu, nI_1, ix6, nI_0n, pk_us, pk_un, ge_0n, hL, c0, Option.getD_none]) (L - p) p () (by omega)
  exact hs
theorem blk_m {d p : Nat} (h : tpR X Y L u) (hL : Y 123 6 = nI L) (hpL : p ≤ L) : E (C d) MX12_token 0 [some (.ref 123)] [] (hp (atM Y p) J R) = E (C d) MX12_token 52 [some (.ref 123)] [] (hp (atM Y (skp (fun i => !(blk u i)) L p)) J R) := by
  obtain ⟨h7, ht⟩ := h
  have hs := for_s (P := fun i (_ : Unit) => E (C d) MX12_token 0 [some (.ref 123)] [] (hp (atM Y i) J R)) (F := fun o => E (C d) MX12_token 52 [some (.ref 123)] [] (hp (atM Y (o.1.getD L)) J R)) (c := fun i _ => !(blk u i)) (f := fun _ s => s) (n := L) (by
    intro i s hi
    obtain ⟨e1, e2, e3⟩ := ht i hi
    have c0 : ¬ L ≤ i := by omega
    have b1 : nI (u i) = 10 ↔ u i = 10 := nI_eq (b := 10) (by omega) (by omega)
    have b2 : nI (u i) = 32 ↔ u i = 32 := nI_eq (b := 32) (by omega) (by omega)
    rw [xX12_token_0]
    unfold atM blk
    by_cases z1 : u i = 10
    · have z1' : nI (u i) = 10 := b1.mpr z1
      simp (disch := omega) only [xX12_token_1, xX12_token_4, xX12_token_5, xX12_token_8, xX12_token_11, xX12_token_12, xX12_token_15, xX12_token_16, xX12_token_19, xX12_token_20, xX12_token_22, xX12_token_25, xX12_token_26, xX12_token_29, xX12_token_30, xX12_token_33, xX12_token_34, xX12_token_36, xX12_token_39, xX12_token_40, xX12_token_40I, xX12_token_41, xX12_token_44, xX12_token_45, xX12_token_46, xX12_token_49, kd_123, fi_123_0, kd_124, ln_124, ↓reduceIte, gd_t, hK_p, hN_p, hF_p, hI_p, hJ_p, hR_p, stI_p, stJ_p, stR_p, stA_p, va_rf_s, va_rf_n, clr_i, clr_l, clr_r, clr_n, clr_o, w8_0, w8_1i, w8_1r, w8_2ii, w8_2ri, w8_2ir, w8_2rr, w8_3, beq_self_eq_true, Bool.and_self, Bool.and_true, Bool.true_and, decide_true, Option.toList_some, Option.toList_none, List.cons_append, List.nil_append, Option.bind_some, if_true, if_false, Nat.reduceLeDiff, Nat.reduceLT, Nat.reduceBEq, Bool.or_false, Bool.false_or, Bool.or_true, Bool.true_or, nI_leI, nI_ltI, nI_eq, nI_clamp, inb_n, up_s, up_n, bx_uu, nI_1, ix6, nI_0n, pk_us, pk_un, ge_0n, uu, hL, c0, e2, z1', z1, Bool.not_true, Bool.false_eq_true]
      simp (disch := omega) only [xX12_token_1, xX12_token_4, xX12_token_5, xX12_token_8, xX12_token_11, xX12_token_12, xX12_token_15, xX12_token_16, xX12_token_19, xX12_token_20, xX12_token_22, xX12_token_25, xX12_token_26, xX12_token_29, xX12_token_30, xX12_token_33, xX12_token_34, xX12_token_36, xX12_token_39, xX12_token_40, xX12_token_40I, xX12_token_41, xX12_token_44, xX12_token_45, xX12_token_46, xX12_token_49, kd_123, fi_123_0, kd_124, ln_124, ↓reduceIte, gd_t, hK_p, hN_p, hF_p, hI_p, hJ_p, hR_p, stI_p, stJ_p, stR_p, stA_p, va_rf_s, va_rf_n, clr_i, clr_l, clr_r, clr_n, clr_o, w8_0, w8_1i, w8_1r, w8_2ii, w8_2ri, w8_2ir, w8_2rr, w8_3, beq_self_eq_true, Bool.and_self, Bool.and_true, Bool.true_and, decide_true, Option.toList_some, Option.toList_none, List.cons_append, List.nil_append, Option.bind_some, if_true, if_false, Nat.reduceLeDiff, Nat.reduceLT, Nat.reduceBEq, Bool.or_false, Bool.false_or, Bool.or_true, Bool.true_or, nI_leI, nI_ltI, nI_eq, nI_clamp, inb_n, up_s, up_n, bx_uu, nI_1, ix6, nI_0n, pk_us, pk_un, ge_0n, uu, hL, c0, e2, show nI 10 = 10 from rfl, Bool.not_true, Bool.false_eq_true]
    · have z1' : ¬ nI (u i) = 10 := fun q => z1 (b1.mp q)
      by_cases z2 : u i = 32
      · have z2' : nI (u i) = 32 := b2.mpr z2
        have n1 : ¬ (32 : Int32) = 10 := by decide
        have n2 : ¬ (32 : Nat) = 10 := by decide
        simp (disch := omega) only [xX12_token_1, xX12_token_4, xX12_token_5, xX12_token_8, xX12_token_11, xX12_token_12, xX12_token_15, xX12_token_16, xX12_token_19, xX12_token_20, xX12_token_22, xX12_token_25, xX12_token_26, xX12_token_29, xX12_token_30, xX12_token_33, xX12_token_34, xX12_token_36, xX12_token_39, xX12_token_40, xX12_token_40I, xX12_token_41, xX12_token_44, xX12_token_45, xX12_token_46, xX12_token_49, kd_123, fi_123_0, kd_124, ln_124, ↓reduceIte, gd_t, hK_p, hN_p, hF_p, hI_p, hJ_p, hR_p, stI_p, stJ_p, stR_p, stA_p, va_rf_s, va_rf_n, clr_i, clr_l, clr_r, clr_n, clr_o, w8_0, w8_1i, w8_1r, w8_2ii, w8_2ri, w8_2ir, w8_2rr, w8_3, beq_self_eq_true, Bool.and_self, Bool.and_true, Bool.true_and, decide_true, Option.toList_some, Option.toList_none, List.cons_append, List.nil_append, Option.bind_some, if_true, if_false, Nat.reduceLeDiff, Nat.reduceLT, Nat.reduceBEq, Bool.or_false, Bool.false_or, Bool.or_true, Bool.true_or, nI_leI, nI_ltI, nI_eq, nI_clamp, inb_n, up_s, up_n, bx_uu, nI_1, ix6, nI_0n, pk_us, pk_un, ge_0n, uu, hL, c0, e2, z2, n2, show nI 32 = 32 from rfl, n1, not_true_eq_false, decide_false, Bool.not_true, Bool.false_eq_true]
      · have z2' : ¬ nI (u i) = 32 := fun q => z2 (b2.mp q)
        simp (disch := omega) only [xX12_token_1, xX12_token_4, xX12_token_5, xX12_token_8, xX12_token_11, xX12_token_12, xX12_token_15, xX12_token_16, xX12_token_19, xX12_token_20, xX12_token_22, xX12_token_25, xX12_token_26, xX12_token_29, xX12_token_30, xX12_token_33, xX12_token_34, xX12_token_36, xX12_token_39, xX12_token_40, xX12_token_40I, xX12_token_41, xX12_token_44, xX12_token_45, xX12_token_46, xX12_token_49, kd_123, fi_123_0, kd_124, ln_124, ↓reduceIte, gd_t, hK_p, hN_p, hF_p, hI_p, hJ_p, hR_p, stI_p, stJ_p, stR_p, stA_p, va_rf_s, va_rf_n, clr_i, clr_l, clr_r, clr_n, clr_o, w8_0, w8_1i, w8_1r, w8_2ii, w8_2ri, w8_2ir, w8_2rr, w8_3, beq_self_eq_true, Bool.and_self, Bool.and_true, Bool.true_and, decide_true, Option.toList_some, Option.toList_none, List.cons_append, List.nil_append, Option.bind_some, if_true, if_false, Nat.reduceLeDiff, Nat.reduceLT, Nat.reduceBEq, Bool.or_false, Bool.false_or, Bool.or_true, Bool.true_or, inb_n, nI_clamp, nI_leI, up_s, up_n, pk_us, pk_un, hL, c0, e2, z1', z2', z1, z2, not_false_eq_true, decide_false, Bool.not_false, Option.getD_some]) (by
    intro s
    have c0 : L ≤ L := Nat.le_refl L
    rw [xX12_token_0]
    unfold atM
    simp (disch := omega) only [xX12_token_1, xX12_token_4, xX12_token_5, xX12_token_8, xX12_token_11, xX12_token_12, xX12_token_15, xX12_token_16, xX12_token_19, xX12_token_20, xX12_token_22, xX12_token_25, xX12_token_26, xX12_token_29, xX12_token_30, xX12_token_33, xX12_token_34, xX12_token_36, xX12_token_39, xX12_token_40, xX12_token_40I, xX12_token_41, xX12_token_44, xX12_token_45, xX12_token_46, xX12_token_49, kd_123, fi_123_0, kd_124, ln_124, ↓reduceIte, gd_t, hK_p, hN_p, hF_p, hI_p, hJ_p, hR_p, stI_p, stJ_p, stR_p, stA_p, va_rf_s, va_rf_n, clr_i, clr_l, clr_r, clr_n, clr_o, w8_0, w8_1i, w8_1r, w8_2ii, w8_2ri, w8_2ir, w8_2rr, w8_3, beq_self_eq_true, Bool.and_self, Bool.and_true, Bool.true_and, decide_true, Option.toList_some, Option.toList_none, List.cons_append, List.nil_append, Option.bind_some, if_true, if_false, Nat.reduceLeDiff, Nat.reduceLT, Nat.reduceBEq, Bool.or_false, Bool.false_or, Bool.or_true, Bool.true_or, nI_leI, nI_ltI, nI_eq, nI_clamp, inb_n, up_s, up_n, bx_uu, nI_1, ix6, nI_0n, pk_us, pk_un, ge_0n, hL, c0, Option.getD_none]) (L - p) p () (by omega)
  exact hs
end TOK

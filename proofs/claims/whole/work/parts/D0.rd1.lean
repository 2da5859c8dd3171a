-- TEXT, 8: both read: refused, numbers, names
def faR (X Y : Mem) : Prop := X 56 2 = Y 123 4 ∧ X 56 3 = Y 123 5
/-- both read, and stand behind a token that ends at p -/
def psR (X Y : Mem) (L : Nat) (u : Nat → Nat) (p : Nat) : Prop := (tkB X Y L u ∧ faR X Y) ∧ ∃ pl, tkS X Y L p pl
/-- what a step of reading leaves, class and model -/
def cF (X X' : Mem) : Prop := (∀ a, a ≠ 56 → a ≠ 57 → X' a = X a) ∧ ∀ k, k ≠ 2 → k ≠ 3 → k ≠ 6 → X' 56 k = X 56 k
def mF (Y Y' : Mem) : Prop := (∀ a, a ≠ 123 → Y' a = Y a) ∧ ∀ k, k < 4 ∨ 11 < k → Y' 123 k = Y 123 k
theorem cF.rf {X : Mem} : cF X X := ⟨fun _ _ _ => rfl, fun _ _ _ _ => rfl⟩
theorem mF.rf {Y : Mem} : mF Y Y := ⟨fun _ _ => rfl, fun _ _ => rfl⟩
theorem cF.tr {X X' X'' : Mem} (h : cF X X') (g : cF X' X'') : cF X X'' := ⟨fun a h1 h2 => (g.1 a h1 h2).trans (h.1 a h1 h2), fun k h1 h2 h3 => (g.2 k h1 h2 h3).trans (h.2 k h1 h2 h3)⟩
theorem mF.tr {Y Y' Y'' : Mem} (h : mF Y Y') (g : mF Y' Y'') : mF Y Y'' := ⟨fun a h1 => (g.1 a h1).trans (h.1 a h1), fun k h1 => (g.2 k h1).trans (h.2 k h1)⟩
section RD
variable {X Y : Mem} {J J2 : MemL} {R R2 : MemR} {L p : Nat} {u : Nat → Nat}
theorem psR_c {X' : Mem} (h : psR X Y L u p) (o : ∀ a, a = 1 ∨ a = 57 ∨ a = 58 → X' a = X a) (o' : ∀ k, k = 2 ∨ k = 3 → X' 56 k = X 56 k) : psR X' Y L u p := by
  obtain ⟨⟨⟨⟨h1, h2⟩, h3, h4, h5, h6⟩, hf⟩, pl, h7⟩ := h
  unfold psR tkB tpR tkS faR
  rw [o 1 (by omega), o 57 (by omega), o 58 (by omega), o' 2 (by omega), o' 3 (by omega)]
  exact ⟨⟨⟨⟨h1, h2⟩, h3, h4, h5, h6⟩, hf⟩, pl, h7⟩
theorem psR_m {Y' : Mem} (h : psR X Y L u p) (o4 : Y' 124 = Y 124) (o5 : Y' 125 = Y 125) (o : ∀ k, 4 ≤ k → k ≤ 10 → Y' 123 k = Y 123 k) : psR X Y' L u p := by
  obtain ⟨⟨⟨⟨h1, h2⟩, h3, h4, h5, h6⟩, hf⟩, pl, h7⟩ := h
  unfold psR tkB tpR tkS faR
  rw [o4, o5, o 4 (by omega) (by omega), o 5 (by omega) (by omega), o 6 (by omega) (by omega), o 7 (by omega) (by omega), o 8 (by omega) (by omega), o 9 (by omega) (by omega), o 10 (by omega) (by omega)]
  exact ⟨⟨⟨⟨h1, h2⟩, h3, h4, h5, h6⟩, hf⟩, pl, h7⟩
theorem ref_c {d : Nat} {k : Int32} : C (d + 1) MX7_refuse [.ref 56, .int k] (hp X J R) = some (some (.int 0), hp (va_up X 56 (upd (upd (X 56) 2 k) 3 (X 57 5))) J R) := by
  rw [eX7_refuse]
  simp (disch := omega) only [xX7_refuse_0, xX7_refuse_1, xX7_refuse_2, xX7_refuse_5, xX7_refuse_6, xX7_refuse_7, xX7_refuse_10, xX7_refuse_13, xX7_refuse_16, xX7_refuse_17, kd_56, fi_56_0, kd_57, ↓reduceIte, gd_t, hK_p, hN_p, hF_p, hI_p, hJ_p, hR_p, stI_p, stJ_p, stR_p, stA_p, va_rf_s, va_rf_n, clr_i, clr_l, clr_r, clr_n, clr_o, w8_0, w8_1i, w8_1r, w8_2ii, w8_2ri, w8_2ir, w8_2rr, w8_3, beq_self_eq_true, Bool.and_self, Bool.and_true, Bool.true_and, decide_true, Option.toList_some, Option.toList_none, List.cons_append, List.nil_append, Option.bind_some, if_true, if_false, Nat.reduceLeDiff, Nat.reduceLT, Nat.reduceBEq, Bool.or_false, Bool.false_or, Bool.or_true, Bool.true_or, up_s, up_n, bx_uu, z01]
theorem wro_m {d : Nat} {k : Int32} : C (d + 1) MX12_wrong [.ref 123, .int k] (hp Y J2 R2) = some (some (.int 0), hp (va_up Y 123 (upd (upd (Y 123) 4 k) 5 (Y 123 10))) J2 R2) := by
  rw [eX12_wrong]
  simp (disch := omega) only [xX12_wrong_0, xX12_wrong_1, xX12_wrong_2, xX12_wrong_5, xX12_wrong_6, xX12_wrong_7, xX12_wrong_10, xX12_wrong_13, xX12_wrong_14, kd_123, ↓reduceIte, gd_t, hK_p, hN_p, hF_p, hI_p, hJ_p, hR_p, stI_p, stJ_p, stR_p, stA_p, va_rf_s, va_rf_n, clr_i, clr_l, clr_r, clr_n, clr_o, w8_0, w8_1i, w8_1r, w8_2ii, w8_2ri, w8_2ir, w8_2rr, w8_3, beq_self_eq_true, Bool.and_self, Bool.and_true, Bool.true_and, decide_true, Option.toList_some, Option.toList_none, List.cons_append, List.nil_append, Option.bind_some, if_true, if_false, Nat.reduceLeDiff, Nat.reduceLT, Nat.reduceBEq, Bool.or_false, Bool.false_or, Bool.or_true, Bool.true_or, up_s, up_n, bx_uu, pk_un, z01]
/-- both refuse -/
theorem ref_p {k : Int32} (h : psR X Y L u p) : faR (va_up X 56 (upd (upd (X 56) 2 k) 3 (X 57 5))) (va_up Y 123 (upd (upd (Y 123) 4 k) 5 (Y 123 10))) ∧ cF X (va_up X 56 (upd (upd (X 56) 2 k) 3 (X 57 5))) ∧ mF Y (va_up Y 123 (upd (upd (Y 123) 4 k) 5 (Y 123 10))) := by
  obtain ⟨-, pl, h1, h2, h3, h4, h5, -⟩ := h
  refine ⟨⟨?_, ?_⟩, ⟨fun a h1 h2 => up_n h1, fun k h1 h2 h3 => ?_⟩, fun a h1 => up_n h1, fun k h1 => ?_⟩
  · rw [up_s, up_s, pk_un (by decide), pk_us, pk_un (by decide), pk_us]
  · rw [up_s, up_s, pk_us, pk_us, h4, h5]
  · rw [up_s, pk_un h2, pk_un h1]
  · rw [up_s, pk_un (by omega), pk_un (by omega)]
/-- the next token of both -/
theorem nxt_p {d : Nat} (h : psR X Y L u p) : ∃ X' Y' p', C (d + 3) MX10_next [.ref 57] (hp X J R) = some (none, hp X' J R) ∧ C (d + 3) MX12_token [.ref 123] (hp Y J2 R2) = some (none, hp Y' J2 R2) ∧ psR X' Y' L u p' ∧ (X' 57 4 = 0 ∨ p < p') ∧ p ≤ p' ∧ (∀ a, a ≠ 57 → X' a = X a) ∧ (∀ a, a ≠ 123 → Y' a = Y a) ∧ ∀ k, k < 7 ∨ 10 < k → Y' 123 k = Y 123 k := by
  obtain ⟨⟨hB, hf⟩, pl, h1, h2, h3, -⟩ := h
  obtain ⟨X', Y', p', pl', e1, e2, hS, hpr, hle, o1, o2, o3, o4⟩ := tok_p (d := d) (J := J) (J2 := J2) (R := R) (R2 := R2) hB h1 h2 h3
  obtain ⟨⟨b1, b2⟩, b3, b4, b5, b6⟩ := hB
  refine ⟨X', Y', p', e1, e2, ⟨⟨⟨⟨b1, fun k hk => ?_⟩, o2.trans b3, (o4 6 (by decide) (by decide) (by decide) (by decide)).trans b4, ?_, ?_⟩, by unfold faR; rw [o1 56 (by decide), o4 4 (by decide) (by decide) (by decide) (by decide), o4 5 (by decide) (by decide) (by decide) (by decide)]; exact hf⟩, pl', hS⟩, hpr, hle, o1, o3, fun k hk => o4 k (by omega) (by omega) (by omega) (by omega)⟩
  · rw [o1 1 (by decide), o3 124 (by decide)]; exact b2 k hk
  · rw [o1 58 (by decide)]; exact b5
  · rw [o3 125 (by decide)]; exact b6
/-- is the token a number, a word, of both -/
theorem TR_num {kc nc lc km wm : Int32} (h : TR kc nc lc km wm) : (kc = 2 ↔ km = 3) ∧ (kc = 3 ↔ km = 2) ∧ (kc = 2 → numR nc wm) ∧ (kc = 3 → lc = wm) := by
  rcases h with ⟨rfl, rfl⟩ | ⟨rfl, h⟩ | ⟨rfl, rfl, h⟩ | ⟨rfl, rfl, h⟩ | ⟨rfl, h⟩ | ⟨rfl, c, hc, rfl, rfl⟩ | ⟨rfl, k, hk, rfl, rfl⟩
  · exact ⟨by decide, by decide, fun q => absurd q (by decide), fun q => absurd q (by decide)⟩
  · rcases h with rfl | ⟨rfl, rfl⟩ <;> exact ⟨by decide, by decide, fun q => absurd q (by decide), fun q => absurd q (by decide)⟩
  · exact ⟨by decide, by decide, fun _ => h, fun q => absurd q (by decide)⟩
  · exact ⟨by decide, by decide, fun q => absurd q (by decide), fun _ => h⟩
  · rcases h with ⟨rfl, rfl⟩ | ⟨rfl, rfl⟩ | ⟨rfl, rfl⟩ | ⟨rfl, rfl⟩ | ⟨rfl, rfl⟩ | ⟨rfl, rfl⟩ | ⟨rfl, rfl⟩ <;> exact ⟨by decide, by decide, fun q => absurd q (by decide), fun q => absurd q (by decide)⟩
  · have a2 : ¬ nI (11 + c) = 2 := fun q => absurd ((nI_eq (b := 2) (by omega) (by omega)).mp q) (by omega)
    have a3 : ¬ nI (11 + c) = 3 := fun q => absurd ((nI_eq (b := 3) (by omega) (by omega)).mp q) (by omega)
    exact ⟨⟨fun q => absurd q a2, fun q => absurd q (by decide)⟩, ⟨fun q => absurd q a3, fun q => absurd q (by decide)⟩, fun q => absurd q a2, fun q => absurd q a3⟩
  · have hk2 := (lng_k k hk).1
    have a2 : ¬ nI (17 + kcL.getD k 0) = 2 := fun q => absurd ((nI_eq (b := 2) (by omega) (by omega)).mp q) (by omega)
    have a3 : ¬ nI (17 + kcL.getD k 0) = 3 := fun q => absurd ((nI_eq (b := 3) (by omega) (by omega)).mp q) (by omega)
    exact ⟨⟨fun q => absurd q a2, fun q => absurd q (by decide)⟩, ⟨fun q => absurd q a3, fun q => absurd q (by decide)⟩, fun q => absurd q a2, fun q => absurd q a3⟩
/-- number(lo, hi): refused by both, or taken by both -/
theorem num_p {d lo hi : Nat} (h : psR X Y L u p) (hlo : lo ≤ hi) (hhi : hi ≤ 9999) : (∃ X' Y', C (d + 4) MX7_number [.ref 56, .int (nI lo), .int (nI hi)] (hp X J R) = some (some (.int 0), hp X' J R) ∧ C (d + 4) MX12_number [.ref 123, .int (nI lo), .int (nI hi)] (hp Y J2 R2) = some (some (.int 0), hp Y' J2 R2) ∧ faR X' Y' ∧ cF X X' ∧ mF Y Y') ∨ (∃ X' Y' p' v, C (d + 4) MX7_number [.ref 56, .int (nI lo), .int (nI hi)] (hp X J R) = some (some (.int 1), hp X' J R) ∧ C (d + 4) MX12_number [.ref 123, .int (nI lo), .int (nI hi)] (hp Y J2 R2) = some (some (.int 1), hp Y' J2 R2) ∧ psR X' Y' L u p' ∧ p ≤ p' ∧ cF X X' ∧ mF Y Y' ∧ lo ≤ v ∧ v ≤ hi ∧ X' 56 6 = nI v ∧ Y' 123 11 = nI v ∧ X 57 4 = 2 ∧ X 57 6 = nI v) := by
  have n1 : ¬ (1 : Int32) = 0 := by decide
  obtain ⟨pl, hT⟩ : ∃ pl, tkS X Y L p pl := h.2
  obtain ⟨t1, t2, t3, t4⟩ := TR_num hT.2.2.2.2.2.2
  by_cases zk : X 57 4 = 2
  · have zm : Y 123 8 = 3 := t1.mp zk
    have hn := t3 zk
    by_cases zv : ¬ X 57 6 < nI lo ∧ X 57 6 ≤ nI hi
    · -- taken
      have hsame : ∃ v, lo ≤ v ∧ v ≤ hi ∧ X 57 6 = nI v ∧ Y 123 9 = nI v := by
        rcases hn with ⟨e, v, v1, v2, v3⟩ | ⟨⟨v, v1, v2, v3⟩, -⟩
        · rw [v3] at zv
          refine ⟨v, ?_, (nI_leI (by omega) (by omega)).mp zv.2, v3, by rw [← e]; exact v3⟩
          rcases Nat.lt_or_ge v lo with w | w
          · exact absurd ((nI_ltI (by omega) (by omega)).mpr w) zv.1
          · exact w
        · rw [v3] at zv
          have := (nI_leI (by omega) (by omega)).mp zv.2
          omega
      obtain ⟨v, v1, v2, v3, v4⟩ := hsame
      have c1 : ¬ nI v < nI lo := fun q => absurd ((nI_ltI (by omega) (by omega)).mp q) (by omega)
      have c2 : nI v ≤ nI hi := (nI_leI (by omega) (by omega)).mpr v2
      have hb : bi (¬ nI v < nI lo ∧ ¬ nI hi < nI v) = 1 := if_pos ⟨c1, Int32.not_lt.mpr c2⟩
      have h' : psR (va_up X 56 (upd (X 56) 6 (nI v))) (va_up Y 123 (upd (Y 123) 11 (nI v))) L u p := psR_m (psR_c h (fun a ha => up_n (by omega)) (fun k hk => by rw [up_s, pk_un (by omega)])) (up_n (by decide)) (up_n (by decide)) (fun k h1 h2 => by rw [up_s, pk_un (by omega)])
      obtain ⟨X', Y', p', e1, e2, hs, -, hle, o1, o2, o3⟩ := nxt_p (d := d) (J := J) (J2 := J2) (R := R) (R2 := R2) h'
      refine Or.inr ⟨X', Y', p', v, ?_, ?_, hs, hle, ⟨fun a h1 h2 => ?_, fun k h1 h2 h3 => ?_⟩, ⟨fun a h1 => ?_, fun k hk => ?_⟩, v1, v2, ?_, ?_, zk, v3⟩
      · rw [eX7_number]
        simp (disch := omega) only [xX7_number_0, xX7_number_1, xX7_number_4, xX7_number_7, xX7_number_8, xX7_number_11, xX7_number_12, xX7_number_13, xX7_number_16, xX7_number_17, xX7_number_18, xX7_number_21, xX7_number_24, xX7_number_25, xX7_number_28, xX7_number_29, xX7_number_32, xX7_number_35, xX7_number_36, xX7_number_39, xX7_number_40, xX7_number_41, xX7_number_44, xX7_number_45, xX7_number_46, xX7_number_47, xX7_number_50, xX7_number_53, xX7_number_56, xX7_number_57, xX7_number_60, xX7_number_63, xX7_number_64, kd_56, fi_56_0, kd_57, kd_57, ↓reduceIte, gd_t, hK_p, hN_p, hF_p, hI_p, hJ_p, hR_p, stI_p, stJ_p, stR_p, stA_p, va_rf_s, va_rf_n, clr_i, clr_l, clr_r, clr_n, clr_o, w8_0, w8_1i, w8_1r, w8_2ii, w8_2ri, w8_2ir, w8_2rr, w8_3, beq_self_eq_true, Bool.and_self, Bool.and_true, Bool.true_and, decide_true, Option.toList_some, Option.toList_none, List.cons_append, List.nil_append, Option.bind_some, if_true, if_false, Nat.reduceLeDiff, Nat.reduceLT, Nat.reduceBEq, Bool.or_false, Bool.false_or, Bool.or_true, Bool.true_or, zk, v3, c1, c2, e1, z11]
      · rw [eX12_number]
        simp (disch := omega) only [xX12_number_0, xX12_number_1, xX12_number_4, xX12_number_5, xX12_number_8, xX12_number_9, xX12_number_10, xX12_number_13, xX12_number_14, xX12_number_15, xX12_number_18, xX12_number_19, xX12_number_20, xX12_number_23, xX12_number_26, xX12_number_27, xX12_number_28, xX12_number_31, xX12_number_32, xX12_number_33, xX12_number_34, xX12_number_37, xX12_number_40, xX12_number_41, xX12_number_44, xX12_number_45, kd_123, kd_123, ↓reduceIte, gd_t, hK_p, hN_p, hF_p, hI_p, hJ_p, hR_p, stI_p, stJ_p, stR_p, stA_p, va_rf_s, va_rf_n, clr_i, clr_l, clr_r, clr_n, clr_o, w8_0, w8_1i, w8_1r, w8_2ii, w8_2ri, w8_2ir, w8_2rr, w8_3, beq_self_eq_true, Bool.and_self, Bool.and_true, Bool.true_and, decide_true, Option.toList_some, Option.toList_none, List.cons_append, List.nil_append, Option.bind_some, if_true, if_false, Nat.reduceLeDiff, Nat.reduceLT, Nat.reduceBEq, Bool.or_false, Bool.false_or, Bool.or_true, Bool.true_or, zm, v4, isI_spec, hb, n1, e2, z11, not_false_eq_true]
      · rw [o1 a h2, up_n h1]
      · rw [o1 56 (by decide), up_s, pk_un h3]
      · rw [o2 a h1, up_n h1]
      · rw [o3 k (by omega), up_s, pk_un (by omega)]
      · rw [o1 56 (by decide), up_s, pk_us]
      · rw [o3 11 (by omega), up_s, pk_us]
    · -- too much
      have hbad : bi (¬ Y 123 9 < nI lo ∧ ¬ nI hi < Y 123 9) = 0 := if_neg (fun q => by
        rcases hn with ⟨e, -⟩ | ⟨-, v, v1, v2, v3⟩
        · rw [← e] at q
          exact zv ⟨q.1, Int32.not_lt.mp q.2⟩
        · rw [v3] at q
          exact q.2 ((nI_ltI (by omega) (by omega)).mpr (by omega)))
      obtain ⟨f1, f2, f3⟩ := ref_p (k := 2) h
      refine Or.inl ⟨_, _, ?_, ?_, f1, f2, f3⟩
      · rw [eX7_number]
        by_cases c1 : X 57 6 < nI lo
        · simp (disch := omega) only [xX7_number_0, xX7_number_1, xX7_number_4, xX7_number_7, xX7_number_8, xX7_number_11, xX7_number_12, xX7_number_13, xX7_number_16, xX7_number_17, xX7_number_18, xX7_number_21, xX7_number_24, xX7_number_25, xX7_number_28, xX7_number_29, xX7_number_32, xX7_number_35, xX7_number_36, xX7_number_39, xX7_number_40, xX7_number_41, xX7_number_44, xX7_number_45, xX7_number_46, xX7_number_47, xX7_number_50, xX7_number_53, xX7_number_56, xX7_number_57, xX7_number_60, xX7_number_63, xX7_number_64, kd_56, fi_56_0, kd_57, kd_56, ↓reduceIte, gd_t, hK_p, hN_p, hF_p, hI_p, hJ_p, hR_p, stI_p, stJ_p, stR_p, stA_p, va_rf_s, va_rf_n, clr_i, clr_l, clr_r, clr_n, clr_o, w8_0, w8_1i, w8_1r, w8_2ii, w8_2ri, w8_2ir, w8_2rr, w8_3, beq_self_eq_true, Bool.and_self, Bool.and_true, Bool.true_and, decide_true, Option.toList_some, Option.toList_none, List.cons_append, List.nil_append, Option.bind_some, if_true, if_false, Nat.reduceLeDiff, Nat.reduceLT, Nat.reduceBEq, Bool.or_false, Bool.false_or, Bool.or_true, Bool.true_or, zk, c1, ref_c, z01]
        · have c2 : ¬ X 57 6 ≤ nI hi := fun q => zv ⟨c1, q⟩
          simp (disch := omega) only [xX7_number_0, xX7_number_1, xX7_number_4, xX7_number_7, xX7_number_8, xX7_number_11, xX7_number_12, xX7_number_13, xX7_number_16, xX7_number_17, xX7_number_18, xX7_number_21, xX7_number_24, xX7_number_25, xX7_number_28, xX7_number_29, xX7_number_32, xX7_number_35, xX7_number_36, xX7_number_39, xX7_number_40, xX7_number_41, xX7_number_44, xX7_number_45, xX7_number_46, xX7_number_47, xX7_number_50, xX7_number_53, xX7_number_56, xX7_number_57, xX7_number_60, xX7_number_63, xX7_number_64, kd_56, fi_56_0, kd_57, kd_56, ↓reduceIte, gd_t, hK_p, hN_p, hF_p, hI_p, hJ_p, hR_p, stI_p, stJ_p, stR_p, stA_p, va_rf_s, va_rf_n, clr_i, clr_l, clr_r, clr_n, clr_o, w8_0, w8_1i, w8_1r, w8_2ii, w8_2ri, w8_2ir, w8_2rr, w8_3, beq_self_eq_true, Bool.and_self, Bool.and_true, Bool.true_and, decide_true, Option.toList_some, Option.toList_none, List.cons_append, List.nil_append, Option.bind_some, if_true, if_false, Nat.reduceLeDiff, Nat.reduceLT, Nat.reduceBEq, Bool.or_false, Bool.false_or, Bool.or_true, Bool.true_or, zk, c1, c2, ref_c, z01]
      · rw [eX12_number]
        simp (disch := omega) only [xX12_number_0, xX12_number_1, xX12_number_4, xX12_number_5, xX12_number_8, xX12_number_9, xX12_number_10, xX12_number_13, xX12_number_14, xX12_number_15, xX12_number_18, xX12_number_19, xX12_number_20, xX12_number_23, xX12_number_26, xX12_number_27, xX12_number_28, xX12_number_31, xX12_number_32, xX12_number_33, xX12_number_34, xX12_number_37, xX12_number_40, xX12_number_41, xX12_number_44, xX12_number_45, kd_123, kd_123, ↓reduceIte, gd_t, hK_p, hN_p, hF_p, hI_p, hJ_p, hR_p, stI_p, stJ_p, stR_p, stA_p, va_rf_s, va_rf_n, clr_i, clr_l, clr_r, clr_n, clr_o, w8_0, w8_1i, w8_1r, w8_2ii, w8_2ri, w8_2ir, w8_2rr, w8_3, beq_self_eq_true, Bool.and_self, Bool.and_true, Bool.true_and, decide_true, Option.toList_some, Option.toList_none, List.cons_append, List.nil_append, Option.bind_some, if_true, if_false, Nat.reduceLeDiff, Nat.reduceLT, Nat.reduceBEq, Bool.or_false, Bool.false_or, Bool.or_true, Bool.true_or, zm, isI_spec, hbad, wro_m, z01, not_true_eq_false]
  · have zm : ¬ Y 123 8 = 3 := fun q => zk (t1.mpr q)
    obtain ⟨f1, f2, f3⟩ := ref_p (k := 1) h
    refine Or.inl ⟨_, _, ?_, ?_, f1, f2, f3⟩
    · rw [eX7_number]
      simp (disch := omega) only [xX7_number_0, xX7_number_1, xX7_number_4, xX7_number_7, xX7_number_8, xX7_number_11, xX7_number_12, xX7_number_13, xX7_number_16, xX7_number_17, xX7_number_18, xX7_number_21, xX7_number_24, xX7_number_25, xX7_number_28, xX7_number_29, xX7_number_32, xX7_number_35, xX7_number_36, xX7_number_39, xX7_number_40, xX7_number_41, xX7_number_44, xX7_number_45, xX7_number_46, xX7_number_47, xX7_number_50, xX7_number_53, xX7_number_56, xX7_number_57, xX7_number_60, xX7_number_63, xX7_number_64, kd_56, fi_56_0, kd_57, kd_56, ↓reduceIte, gd_t, hK_p, hN_p, hF_p, hI_p, hJ_p, hR_p, stI_p, stJ_p, stR_p, stA_p, va_rf_s, va_rf_n, clr_i, clr_l, clr_r, clr_n, clr_o, w8_0, w8_1i, w8_1r, w8_2ii, w8_2ri, w8_2ir, w8_2rr, w8_3, beq_self_eq_true, Bool.and_self, Bool.and_true, Bool.true_and, decide_true, Option.toList_some, Option.toList_none, List.cons_append, List.nil_append, Option.bind_some, if_true, if_false, Nat.reduceLeDiff, Nat.reduceLT, Nat.reduceBEq, Bool.or_false, Bool.false_or, Bool.or_true, Bool.true_or, zk, ref_c, z01]
    · rw [eX12_number]
      simp (disch := omega) only [xX12_number_0, xX12_number_1, xX12_number_4, xX12_number_5, xX12_number_8, xX12_number_9, xX12_number_10, xX12_number_13, xX12_number_14, xX12_number_15, xX12_number_18, xX12_number_19, xX12_number_20, xX12_number_23, xX12_number_26, xX12_number_27, xX12_number_28, xX12_number_31, xX12_number_32, xX12_number_33, xX12_number_34, xX12_number_37, xX12_number_40, xX12_number_41, xX12_number_44, xX12_number_45, kd_123, kd_123, ↓reduceIte, gd_t, hK_p, hN_p, hF_p, hI_p, hJ_p, hR_p, stI_p, stJ_p, stR_p, stA_p, va_rf_s, va_rf_n, clr_i, clr_l, clr_r, clr_n, clr_o, w8_0, w8_1i, w8_1r, w8_2ii, w8_2ri, w8_2ir, w8_2rr, w8_3, beq_self_eq_true, Bool.and_self, Bool.and_true, Bool.true_and, decide_true, Option.toList_some, Option.toList_none, List.cons_append, List.nil_append, Option.bind_some, if_true, if_false, Nat.reduceLeDiff, Nat.reduceLT, Nat.reduceBEq, Bool.or_false, Bool.false_or, Bool.or_true, Bool.true_or, zm, wro_m, z01]
end RD

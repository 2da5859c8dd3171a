-- TEXT, 7: a token of both
/-- a token: class kind, number, letters; model kind, which -/
def TR (kc nc lc km wm : Int32) : Prop := (kc = 0 ∧ km = 0) ∨ (kc = 1 ∧ (km = 6 ∨ (km = 4 ∧ wm = 37))) ∨ (kc = 2 ∧ km = 3 ∧ numR nc wm) ∨ (kc = 3 ∧ km = 2 ∧ lc = wm) ∨ (km = 4 ∧ ((kc = 4 ∧ wm = 59) ∨ (kc = 5 ∧ wm = 40) ∨ (kc = 6 ∧ wm = 41) ∨ (kc = 7 ∧ wm = 42) ∨ (kc = 8 ∧ wm = 47) ∨ (kc = 9 ∧ wm = 43) ∨ (kc = 10 ∧ wm = 45))) ∨ (km = 5 ∧ ∃ c, c < 6 ∧ wm = nI c ∧ kc = nI (11 + c)) ∨ (km = 1 ∧ ∃ k, k < 21 ∧ wm = nI k ∧ kc = nI (17 + kcL.getD k 0))
theorem sg_TR {u : Nat → Nat} {L p : Nat} {nc lc : Int32} (hu : u p < 256) : TR (sgK u L p) nc lc (smK u p) (smW u L p) := by
  unfold TR sgK smK smW
  by_cases z60 : u p = 60
  · refine Or.inr (Or.inr (Or.inr (Or.inr (Or.inr (Or.inl ?_)))))
    by_cases g1 : fwS u L (p + 1) 61 = true
    · simp only [z60, g1]; exact ⟨rfl, 1, by omega, rfl, rfl⟩
    · by_cases g2 : fwS u L (p + 1) 62 = true
      · simp only [z60, g1, g2]; exact ⟨rfl, 3, by omega, rfl, rfl⟩
      · simp only [z60, g1, g2]; exact ⟨rfl, 0, by omega, rfl, rfl⟩
  by_cases z62 : u p = 62
  · refine Or.inr (Or.inr (Or.inr (Or.inr (Or.inr (Or.inl ?_)))))
    by_cases g1 : fwS u L (p + 1) 61 = true
    · simp only [z62, g1]; exact ⟨rfl, 4, by omega, rfl, rfl⟩
    · simp only [z62, g1]; exact ⟨rfl, 5, by omega, rfl, rfl⟩
  by_cases z61 : u p = 61
  · refine Or.inr (Or.inr (Or.inr (Or.inr (Or.inr (Or.inl ?_)))))
    simp only [z61]; exact ⟨rfl, 2, by omega, rfl, rfl⟩
  by_cases z59 : u p = 59
  · refine Or.inr (Or.inr (Or.inr (Or.inr (Or.inl ?_))))
    simp only [z59]; exact ⟨rfl, Or.inl ⟨rfl, rfl⟩⟩
  by_cases z40 : u p = 40
  · refine Or.inr (Or.inr (Or.inr (Or.inr (Or.inl ?_))))
    simp only [z40]; exact ⟨rfl, Or.inr (Or.inl ⟨rfl, rfl⟩)⟩
  by_cases z41 : u p = 41
  · refine Or.inr (Or.inr (Or.inr (Or.inr (Or.inl ?_))))
    simp only [z41]; exact ⟨rfl, Or.inr (Or.inr (Or.inl ⟨rfl, rfl⟩))⟩
  by_cases z42 : u p = 42
  · refine Or.inr (Or.inr (Or.inr (Or.inr (Or.inl ?_))))
    simp only [z42]; exact ⟨rfl, Or.inr (Or.inr (Or.inr (Or.inl ⟨rfl, rfl⟩)))⟩
  by_cases z47 : u p = 47
  · refine Or.inr (Or.inr (Or.inr (Or.inr (Or.inl ?_))))
    simp only [z47]; exact ⟨rfl, Or.inr (Or.inr (Or.inr (Or.inr (Or.inl ⟨rfl, rfl⟩))))⟩
  by_cases z43 : u p = 43
  · refine Or.inr (Or.inr (Or.inr (Or.inr (Or.inl ?_))))
    simp only [z43]; exact ⟨rfl, Or.inr (Or.inr (Or.inr (Or.inr (Or.inr (Or.inl ⟨rfl, rfl⟩)))))⟩
  by_cases z45 : u p = 45
  · refine Or.inr (Or.inr (Or.inr (Or.inr (Or.inl ?_))))
    simp only [z45]; exact ⟨rfl, Or.inr (Or.inr (Or.inr (Or.inr (Or.inr (Or.inr ⟨rfl, rfl⟩)))))⟩
  refine Or.inr (Or.inl ?_)
  by_cases z37 : u p = 37
  · simp only [z37]; exact ⟨rfl, Or.inr ⟨rfl, rfl⟩⟩
  · rw [if_neg z59, if_neg z40, if_neg z41, if_neg z42, if_neg z47, if_neg z43, if_neg z45, if_neg z61, if_neg z60, if_neg z62, if_neg (by omega), if_neg (by omega)]
    exact ⟨rfl, Or.inl rfl⟩
theorem nu_all {u : Nat → Nat} {L q : Nat} (h : q ≤ L) : numR (srF (fun i (_ : Int32) => !(isD u i)) (nuC u) (L - q) q 0).2 (srF (fun i (_ : Int32) => !(isD u i)) (nuM u) (L - q) q 0).2 :=
  srF_st (c := fun i => !(isD u i)) (f := nuC u) (g := nuM u) (Rl := numR) (n := L) (fun i s t _ hc hr => nu_st (by simpa using hc) hr) (L - q) q 0 0 (by omega) (Or.inl ⟨rfl, 0, Nat.le_refl 0, Nat.zero_le _, nI_0.symm⟩)
/-- both stand behind a token; p: the place behind it, pl: its own -/
def tkS (X Y : Mem) (L p pl : Nat) : Prop := X 57 3 = nI p ∧ Y 123 7 = nI p ∧ p ≤ L ∧ X 57 5 = nI pl ∧ Y 123 10 = nI pl ∧ pl ≤ L ∧ TR (X 57 4) (X 57 6) (X 57 7) (Y 123 8) (Y 123 9)
/-- what both keep while they read -/
def tkB (X Y : Mem) (L : Nat) (u : Nat → Nat) : Prop := tpR X Y L u ∧ X 57 2 = nI L ∧ Y 123 6 = nI L ∧ (∀ k, k < 21 → X 58 k = nI (lngL.getD k 0)) ∧ ∀ k, k < 107 → Y 125 k = nI (wrdL.getD k 0)
section TOR
variable {X Y : Mem} {J J2 : MemL} {R R2 : MemR} {L : Nat} {u : Nat → Nat}
theorem tok_p {d p : Nat} (h : tkB X Y L u) (hx : X 57 3 = nI p) (hy : Y 123 7 = nI p) (hpL : p ≤ L) : ∃ X' Y' p' pl, C (d + 3) MX10_next [.ref 57] (hp X J R) = some (none, hp X' J R) ∧ C (d + 3) MX12_token [.ref 123] (hp Y J2 R2) = some (none, hp Y' J2 R2) ∧ tkS X' Y' L p' pl ∧ (X' 57 4 = 0 ∨ p < p') ∧ p ≤ p' ∧ (∀ a, a ≠ 57 → X' a = X a) ∧ X' 57 2 = X 57 2 ∧ (∀ a, a ≠ 123 → Y' a = Y a) ∧ ∀ k, k ≠ 7 → k ≠ 8 → k ≠ 9 → k ≠ 10 → Y' 123 k = Y 123 k := by
  obtain ⟨ht, hX, hY, hlg, hwd⟩ := h
  have h700 := ht.1
  have n1 : ¬ (1 : Int32) = 0 := by decide
  have e1 := blk_c (d := d + 2) (J := J) (R := R) ht hX hpL
  have e2 := blk_m (d := d + 2) (J := J2) (R := R2) ht hY hpL
  have a1 : atC X p = X := by unfold atC; rw [upd_self hx, up_self]
  have a2 : atM Y p = Y := by unfold atM; rw [upd_self hy, up_self]
  rw [a1] at e1
  rw [a2] at e2
  obtain ⟨q1, q2⟩ := skp_le (c := fun i => !(blk u i)) hpL
  generalize hq : skp (fun i => !(blk u i)) L p = q at *
  unfold atC at e1
  unfold atM at e2
  -- the class from its place on
  have hXq : ∀ r : Nat → Int32, tpR (va_up X 57 r) Y L u := fun r => ⟨ht.1, fun k hk => by rw [up_n (by decide)]; exact ht.2 k hk⟩
  have hYq : ∀ r : Nat → Int32, tpR X (va_up Y 123 r) L u := fun r => ⟨ht.1, fun k hk => by rw [up_n (by decide)]; exact ht.2 k hk⟩
  generalize hrx : upd (upd (X 57) 3 (nI q)) 5 (nI q) = rx
  generalize hry : upd (upd (Y 123) 7 (nI q)) 10 (nI q) = ry
  have rx2 : rx 2 = nI L := by rw [← hrx, pk_un (by decide), pk_un (by decide)]; exact hX
  have rx3 : rx 3 = nI q := by rw [← hrx, pk_un (by decide), pk_us]
  have rx5 : rx 5 = nI q := by rw [← hrx, pk_us]
  have ry6 : ry 6 = nI L := by rw [← hry, pk_un (by decide), pk_un (by decide)]; exact hY
  have ry7 : ry 7 = nI q := by rw [← hry, pk_un (by decide), pk_us]
  have ry10 : ry 10 = nI q := by rw [← hry, pk_us]
  have ryo : ∀ k, k ≠ 7 → k ≠ 10 → ry k = Y 123 k := fun k h1 h2 => by rw [← hry, pk_un h2, pk_un h1]
  by_cases zL : q = L
  · -- the end
    have c0 : ¬ nI q < nI L := fun w => absurd ((nI_ltI (by omega) (by omega)).mp w) (by omega)
    have c1 : nI q = nI L := by rw [zL]
    refine ⟨va_up X 57 (upd rx 4 0), va_up Y 123 (upd ry 8 0), q, q, ?_, ?_, ⟨?_, ?_, q2, ?_, ?_, q2, ?_⟩, Or.inl ?_, q1, fun a ha => up_n ha, ?_, fun a ha => up_n ha, fun k k1 k2 k3 k4 => ?_⟩
    · rw [eX10_next, e1]
      simp (disch := omega) only [xX10_next_52, xX10_next_53, xX10_next_54, xX10_next_57, xX10_next_60, xX10_next_61, xX10_next_64, xX10_next_65, xX10_next_68, xX10_next_71, xX10_next_72, xX10_next_73, xX10_next_76, kd_57, fi_57_0, kd_1, ln_1, xX10_next_153, ↓reduceIte, gd_t, hK_p, hN_p, hF_p, hI_p, hJ_p, hR_p, stI_p, stJ_p, stR_p, stA_p, va_rf_s, va_rf_n, clr_i, clr_l, clr_r, clr_n, clr_o, w8_0, w8_1i, w8_1r, w8_2ii, w8_2ri, w8_2ir, w8_2rr, w8_3, beq_self_eq_true, Bool.and_self, Bool.and_true, Bool.true_and, decide_true, Option.toList_some, Option.toList_none, List.cons_append, List.nil_append, Option.bind_some, if_true, if_false, Nat.reduceLeDiff, Nat.reduceLT, Nat.reduceBEq, Bool.or_false, Bool.false_or, Bool.or_true, Bool.true_or, up_s, up_n, bx_uu, pk_us, pk_un, hrx, rx3, rx2, c0]
    · rw [eX12_token, e2]
      simp (disch := omega) only [xX12_token_52, xX12_token_53, xX12_token_54, xX12_token_57, xX12_token_60, xX12_token_61, xX12_token_64, xX12_token_65, xX12_token_68, xX12_token_71, xX12_token_72, xX12_token_73, xX12_token_76, kd_123, fi_123_0, kd_124, ln_124, xX12_token_282, ↓reduceIte, gd_t, hK_p, hN_p, hF_p, hI_p, hJ_p, hR_p, stI_p, stJ_p, stR_p, stA_p, va_rf_s, va_rf_n, clr_i, clr_l, clr_r, clr_n, clr_o, w8_0, w8_1i, w8_1r, w8_2ii, w8_2ri, w8_2ir, w8_2rr, w8_3, beq_self_eq_true, Bool.and_self, Bool.and_true, Bool.true_and, decide_true, Option.toList_some, Option.toList_none, List.cons_append, List.nil_append, Option.bind_some, if_true, if_false, Nat.reduceLeDiff, Nat.reduceLT, Nat.reduceBEq, Bool.or_false, Bool.false_or, Bool.or_true, Bool.true_or, up_s, up_n, bx_uu, pk_us, pk_un, hry, ry7, ry6, hY]
      rw [if_neg (fun w => w c1)]
    · rw [up_s, pk_un (by decide)]; exact rx3
    · rw [up_s, pk_un (by decide)]; exact ry7
    · rw [up_s, pk_un (by decide)]; exact rx5
    · rw [up_s, pk_un (by decide)]; exact ry10
    · rw [up_s, up_s, pk_us, pk_us]; exact Or.inl ⟨rfl, rfl⟩
    · rw [up_s, pk_us]
    · rw [up_s, pk_un (by decide), rx2]; exact hX.symm
    · rw [up_s, pk_un k2]; exact ryo k k1 k4
  · have hqL : q < L := by omega
    obtain ⟨t1, t2, t3⟩ := ht.2 q hqL
    have c0 : nI q < nI L := (nI_ltI (by omega) (by omega)).mpr hqL
    have c1 : ¬ nI q = nI L := fun w => zL ((nI_eq (by omega) (by omega)).mp w)
    obtain ⟨bl1, bl2⟩ := bq_L (u q) t3
    obtain ⟨bd1, bd2⟩ := bq_D (u q) t3
    have hs := iss_m (d := d + 1) (p := q) (X := X) (Y := va_up Y 123 ry) (J := J2) (R := R2) (L := L) (u := u) (hYq ry) (by rw [up_s]; exact ry6) (by omega)
    have hdg := isd_m (d := d + 1) (p := q) (X := X) (Y := va_up Y 123 ry) (J := J2) (R := R2) (L := L) (u := u) (hYq ry) (by rw [up_s]; exact ry6) (by omega)
    -- the model up to its kinds
    have hm : E (C (d + 2)) MX12_token 52 [some (.ref 123)] [] (hp (va_up Y 123 (upd (Y 123) 7 (nI q))) J2 R2) = E (C (d + 2)) MX12_token 79 [some (.ref 123)] [] (hp (va_up Y 123 ry) J2 R2) := by
      simp (disch := omega) only [xX12_token_52, xX12_token_53, xX12_token_54, xX12_token_57, xX12_token_60, xX12_token_61, xX12_token_64, xX12_token_65, xX12_token_68, kd_123, fi_123_0, kd_124, ln_124, ↓reduceIte, gd_t, hK_p, hN_p, hF_p, hI_p, hJ_p, hR_p, stI_p, stJ_p, stR_p, stA_p, va_rf_s, va_rf_n, clr_i, clr_l, clr_r, clr_n, clr_o, w8_0, w8_1i, w8_1r, w8_2ii, w8_2ri, w8_2ir, w8_2rr, w8_3, beq_self_eq_true, Bool.and_self, Bool.and_true, Bool.true_and, decide_true, Option.toList_some, Option.toList_none, List.cons_append, List.nil_append, Option.bind_some, if_true, if_false, Nat.reduceLeDiff, Nat.reduceLT, Nat.reduceBEq, Bool.or_false, Bool.false_or, Bool.or_true, Bool.true_or, up_s, up_n, bx_uu, pk_us, pk_un, hry, ry7, ry6, c1, not_false_eq_true]
    have hc : E (C (d + 2)) MX10_next 52 [some (.ref 57)] [] (hp (va_up X 57 (upd (X 57) 3 (nI q))) J R) = E (C (d + 2)) MX10_next 79 [some (.ref 57)] [] (hp (va_up X 57 rx) J R) := by
      simp (disch := omega) only [xX10_next_52, xX10_next_53, xX10_next_54, xX10_next_57, xX10_next_60, xX10_next_61, xX10_next_64, xX10_next_65, xX10_next_68, kd_57, fi_57_0, kd_1, ln_1, ↓reduceIte, gd_t, hK_p, hN_p, hF_p, hI_p, hJ_p, hR_p, stI_p, stJ_p, stR_p, stA_p, va_rf_s, va_rf_n, clr_i, clr_l, clr_r, clr_n, clr_o, w8_0, w8_1i, w8_1r, w8_2ii, w8_2ri, w8_2ir, w8_2rr, w8_3, beq_self_eq_true, Bool.and_self, Bool.and_true, Bool.true_and, decide_true, Option.toList_some, Option.toList_none, List.cons_append, List.nil_append, Option.bind_some, if_true, if_false, Nat.reduceLeDiff, Nat.reduceLT, Nat.reduceBEq, Bool.or_false, Bool.false_or, Bool.or_true, Bool.true_or, up_s, up_n, bx_uu, pk_us, pk_un, hrx, rx3, rx2, c0]
    by_cases zl : isL u q = true
    · -- a word
      obtain ⟨z1, z2⟩ := bl1 (of_decide_eq_true zl)
      rw [if_pos ⟨hqL, zl⟩] at hs
      obtain ⟨l, ew, hl⟩ := rwd_c (d := d + 1) (p := q) (X := va_up X 57 rx) (Y := Y) (J := J) (R := R) (L := L) (u := u) (hXq rx) (by rw [up_s]; exact rx2) (by omega) (by rw [up_s]; exact rx3) (by rw [up_s]; exact rx5) (by rw [up_n (by decide)]; exact hlg)
      rw [up_s, bx_uu] at ew
      obtain ⟨s1, s2⟩ := skp_le (c := fun i => !(isL u i)) (L := L) (p := q) (by omega)
      have hno : ∀ j, q ≤ j → j < skp (fun i => !(isL u i)) L q → isL u j = true := fun j h1 h2 => by
        have := skp_no (c := fun i => !(isL u i)) (by omega) h1 h2
        simpa using this
      have hgt : q < skp (fun i => !(isL u i)) L q := by
        rcases Nat.lt_or_ge q (skp (fun i => !(isL u i)) L q) with w | w
        · exact w
        · have heq : skp (fun i => !(isL u i)) L q = q := by omega
          have := skp_at (c := fun i => !(isL u i)) (L := L) (p := q) (by omega)
          rw [heq, zl] at this
          exact absurd this (by decide)
      -- the model's letters
      have hml := for_s (P := fun i (_ : Unit) => E (C (d + 2)) MX12_token 90 [some (.ref 123)] [] (hp (va_up Y 123 (upd ry 7 (nI i))) J2 R2)) (F := fun o => E (C (d + 2)) MX12_token 114 [some (.ref 123)] [] (hp (va_up Y 123 (upd ry 7 (nI (o.1.getD L)))) J2 R2)) (c := fun i _ => !(isL u i)) (f := fun _ s => s) (n := L) (by
        intro i s hi
        have hsi := iss_m (d := d + 1) (p := i) (X := X) (Y := va_up Y 123 (upd ry 7 (nI i))) (J := J2) (R := R2) (L := L) (u := u) (hYq _) (by rw [up_s, pk_un (by decide)]; exact ry6) (by omega)
        rw [xX12_token_90]
        by_cases z : isL u i = true
        · rw [if_pos ⟨hi, z⟩] at hsi
          simp (disch := omega) only [xX12_token_91, xX12_token_92, xX12_token_95, xX12_token_98, xX12_token_101, xX12_token_102, xX12_token_102I, xX12_token_103, xX12_token_106, xX12_token_107, xX12_token_108, xX12_token_111, kd_123, fi_123_0, kd_124, ln_124, kd_123, ↓reduceIte, gd_t, hK_p, hN_p, hF_p, hI_p, hJ_p, hR_p, stI_p, stJ_p, stR_p, stA_p, va_rf_s, va_rf_n, clr_i, clr_l, clr_r, clr_n, clr_o, w8_0, w8_1i, w8_1r, w8_2ii, w8_2ri, w8_2ir, w8_2rr, w8_3, beq_self_eq_true, Bool.and_self, Bool.and_true, Bool.true_and, decide_true, Option.toList_some, Option.toList_none, List.cons_append, List.nil_append, Option.bind_some, if_true, if_false, Nat.reduceLeDiff, Nat.reduceLT, Nat.reduceBEq, Bool.or_false, Bool.false_or, Bool.or_true, Bool.true_or, nI_leI, nI_ltI, nI_eq, nI_clamp, inb_n, up_s, up_n, bx_uu, nI_1, ix6, nI_0n, pk_us, pk_un, ge_0n, uu, hsi, n1, z, Bool.not_true, Bool.false_eq_true]
        · have z' : isL u i = false := by simpa using z
          rw [if_neg (fun w => z w.2)] at hsi
          simp (disch := omega) only [xX12_token_91, xX12_token_92, xX12_token_95, xX12_token_98, xX12_token_101, xX12_token_102, xX12_token_102I, xX12_token_103, xX12_token_106, xX12_token_107, xX12_token_108, xX12_token_111, kd_123, fi_123_0, kd_124, ln_124, kd_123, ↓reduceIte, gd_t, hK_p, hN_p, hF_p, hI_p, hJ_p, hR_p, stI_p, stJ_p, stR_p, stA_p, va_rf_s, va_rf_n, clr_i, clr_l, clr_r, clr_n, clr_o, w8_0, w8_1i, w8_1r, w8_2ii, w8_2ri, w8_2ir, w8_2rr, w8_3, beq_self_eq_true, Bool.and_self, Bool.and_true, Bool.true_and, decide_true, Option.toList_some, Option.toList_none, List.cons_append, List.nil_append, Option.bind_some, if_true, if_false, Nat.reduceLeDiff, Nat.reduceLT, Nat.reduceBEq, Bool.or_false, Bool.false_or, Bool.or_true, Bool.true_or, nI_leI, nI_ltI, nI_eq, nI_clamp, inb_n, up_s, up_n, bx_uu, nI_1, ix6, nI_0n, pk_us, pk_un, ge_0n, hsi, z', Bool.not_false, Option.getD_some]) (by
        intro s
        have hsi := iss_m (d := d + 1) (p := L) (X := X) (Y := va_up Y 123 (upd ry 7 (nI L))) (J := J2) (R := R2) (L := L) (u := u) (hYq _) (by rw [up_s, pk_un (by decide)]; exact ry6) (by omega)
        rw [if_neg (by omega)] at hsi
        rw [xX12_token_90]
        simp (disch := omega) only [xX12_token_91, xX12_token_92, xX12_token_95, xX12_token_98, xX12_token_101, xX12_token_102, xX12_token_102I, xX12_token_103, xX12_token_106, xX12_token_107, xX12_token_108, xX12_token_111, kd_123, fi_123_0, kd_124, ln_124, kd_123, ↓reduceIte, gd_t, hK_p, hN_p, hF_p, hI_p, hJ_p, hR_p, stI_p, stJ_p, stR_p, stA_p, va_rf_s, va_rf_n, clr_i, clr_l, clr_r, clr_n, clr_o, w8_0, w8_1i, w8_1r, w8_2ii, w8_2ri, w8_2ir, w8_2rr, w8_3, beq_self_eq_true, Bool.and_self, Bool.and_true, Bool.true_and, decide_true, Option.toList_some, Option.toList_none, List.cons_append, List.nil_append, Option.bind_some, if_true, if_false, Nat.reduceLeDiff, Nat.reduceLT, Nat.reduceBEq, Bool.or_false, Bool.false_or, Bool.or_true, Bool.true_or, nI_leI, nI_ltI, nI_eq, nI_clamp, inb_n, up_s, up_n, bx_uu, nI_1, ix6, nI_0n, pk_us, pk_un, ge_0n, hsi, Option.getD_none]) (L - q) q () (by omega)
      have hsk : (srF (fun i (_ : Unit) => !(isL u i)) (fun _ s => s) (L - q) q ()).1.getD L = skp (fun i => !(isL u i)) L q := rfl
      rw [hsk, upd_self ry7] at hml
      generalize skp (fun i => !(isL u i)) L q = e at *
      obtain ⟨o, eo, o1, o2⟩ := wat_m (d := d + 1) (p := q) (e := e) (X := X) (Y := va_up Y 123 (upd ry 7 (nI e))) (J := J2) (R := R2) (L := L) (u := u) (hYq _) (by omega) s2 (by rw [up_n (by decide)]; exact hwd)
      have hcl : C (d + 3) MX10_next [.ref 57] (hp X J R) = some (none, hp (va_up X 57 (upd (upd (upd rx 7 l) 3 (nI e)) 4 (if e - q ≤ 6 then lgK (lgO (pkW u q e)) else 1))) J R) := by
        rw [eX10_next, e1, hc]
        simp (disch := omega) only [xX10_next_79, xX10_next_80, xX10_next_83, xX10_next_84, xX10_next_87, xX10_next_88, xX10_next_90, xX10_next_93, xX10_next_94, xX10_next_97, xX10_next_98, xX10_next_101, xX10_next_102, xX10_next_104, xX10_next_107, xX10_next_108, xX10_next_111, kd_57, fi_57_0, kd_1, ln_1, xX10_next_153, kd_57, ↓reduceIte, gd_t, hK_p, hN_p, hF_p, hI_p, hJ_p, hR_p, stI_p, stJ_p, stR_p, stA_p, va_rf_s, va_rf_n, clr_i, clr_l, clr_r, clr_n, clr_o, w8_0, w8_1i, w8_1r, w8_2ii, w8_2ri, w8_2ir, w8_2rr, w8_3, beq_self_eq_true, Bool.and_self, Bool.and_true, Bool.true_and, decide_true, Option.toList_some, Option.toList_none, List.cons_append, List.nil_append, Option.bind_some, if_true, if_false, Nat.reduceLeDiff, Nat.reduceLT, Nat.reduceBEq, Bool.or_false, Bool.false_or, Bool.or_true, Bool.true_or, inb_n, nI_clamp, up_s, up_n, rx3, t1, z1, z2, ew]
      have hmd : C (d + 3) MX12_token [.ref 123] (hp Y J2 R2) = E (C (d + 2)) MX12_token 114 [some (.ref 123)] [] (hp (va_up Y 123 (upd ry 7 (nI e))) J2 R2) := by
        rw [eX12_token, e2, hm, ← hml]
        simp (disch := omega) only [xX12_token_79, xX12_token_80, xX12_token_81, xX12_token_84, xX12_token_87, kd_123, fi_123_0, kd_124, ln_124, kd_123, ↓reduceIte, gd_t, hK_p, hN_p, hF_p, hI_p, hJ_p, hR_p, stI_p, stJ_p, stR_p, stA_p, va_rf_s, va_rf_n, clr_i, clr_l, clr_r, clr_n, clr_o, w8_0, w8_1i, w8_1r, w8_2ii, w8_2ri, w8_2ir, w8_2rr, w8_3, beq_self_eq_true, Bool.and_self, Bool.and_true, Bool.true_and, decide_true, Option.toList_some, Option.toList_none, List.cons_append, List.nil_append, Option.bind_some, if_true, if_false, Nat.reduceLeDiff, Nat.reduceLT, Nat.reduceBEq, Bool.or_false, Bool.false_or, Bool.or_true, Bool.true_or, up_s, up_n, ry7, hs, n1]
      have es : nI e - nI q = nI (e - q) := pk_sub (by omega)
      -- what both know behind it
      have fin : ∀ (kc km wm : Int32), (if e - q ≤ 6 then lgK (lgO (pkW u q e)) else 1) = kc → TR kc (rx 6) l km wm → C (d + 3) MX12_token [.ref 123] (hp Y J2 R2) = some (none, hp (va_up Y 123 (upd (upd (upd ry 7 (nI e)) 9 wm) 8 km)) J2 R2) → ∃ X' Y' p' pl, C (d + 3) MX10_next [.ref 57] (hp X J R) = some (none, hp X' J R) ∧ C (d + 3) MX12_token [.ref 123] (hp Y J2 R2) = some (none, hp Y' J2 R2) ∧ tkS X' Y' L p' pl ∧ (X' 57 4 = 0 ∨ p < p') ∧ p ≤ p' ∧ (∀ a, a ≠ 57 → X' a = X a) ∧ X' 57 2 = X 57 2 ∧ (∀ a, a ≠ 123 → Y' a = Y a) ∧ ∀ k, k ≠ 7 → k ≠ 8 → k ≠ 9 → k ≠ 10 → Y' 123 k = Y 123 k := by
        intro kc km wm hk hT hM
        rw [hk] at hcl
        refine ⟨_, _, e, q, hcl, hM, ⟨?_, ?_, s2, ?_, ?_, by omega, ?_⟩, Or.inr (by omega), by omega, fun a ha => up_n ha, ?_, fun a ha => up_n ha, fun k k1 k2 k3 k4 => ?_⟩
        · rw [up_s]; simp (disch := omega) only [pk_us, pk_un]
        · rw [up_s]; simp (disch := omega) only [pk_us, pk_un]
        · rw [up_s]; simp (disch := omega) only [pk_un]; exact rx5
        · rw [up_s]; simp (disch := omega) only [pk_un]; exact ry10
        · rw [up_s, up_s]; simp (disch := omega) only [pk_us, pk_un]; exact hT
        · rw [up_s]; simp (disch := omega) only [pk_un]; rw [rx2]; exact hX.symm
        · rw [up_s]; simp (disch := omega) only [pk_un]; exact ryo k k1 k4
      cases o with
      | some k =>
        obtain ⟨k1, k2⟩ := o1 k rfl
        have h6 : e - q ≤ 6 := by rw [← k2.1]; exact (ws_next k k1).2.1
        have kn : ¬ nI k < 0 := nI_pos (by omega)
        have n12 : ¬ (1 : Int32) = 2 := by decide
        refine fin (nI (17 + kcL.getD k 0)) 1 (nI k) (by rw [if_pos h6, lgO_mt k1 k2]; rfl) (Or.inr (Or.inr (Or.inr (Or.inr (Or.inr (Or.inr ⟨rfl, k, k1, rfl, rfl⟩)))))) ?_
        rw [hmd]
        simp only [an] at eo
        simp (disch := omega) only [xX12_token_114, xX12_token_115, xX12_token_116, xX12_token_117, xX12_token_120, xX12_token_121, xX12_token_124, xX12_token_127, xX12_token_130, xX12_token_131, xX12_token_132, xX12_token_135, xX12_token_138, xX12_token_139, xX12_token_142, xX12_token_143, xX12_token_146, xX12_token_147, xX12_token_150, xX12_token_151, xX12_token_153, xX12_token_156, xX12_token_158, xX12_token_161, xX12_token_162, xX12_token_165, xX12_token_166, xX12_token_169, xX12_token_170, xX12_token_173, xX12_token_174, xX12_token_175, xX12_token_176, xX12_token_179, xX12_token_180, xX12_token_183, xX12_token_186, xX12_token_189, kd_123, fi_123_0, kd_124, ln_124, xX12_token_282, kd_123, ↓reduceIte, gd_t, hK_p, hN_p, hF_p, hI_p, hJ_p, hR_p, stI_p, stJ_p, stR_p, stA_p, va_rf_s, va_rf_n, clr_i, clr_l, clr_r, clr_n, clr_o, w8_0, w8_1i, w8_1r, w8_2ii, w8_2ri, w8_2ir, w8_2rr, w8_3, beq_self_eq_true, Bool.and_self, Bool.and_true, Bool.true_and, decide_true, Option.toList_some, Option.toList_none, List.cons_append, List.nil_append, Option.bind_some, if_true, if_false, Nat.reduceLeDiff, Nat.reduceLT, Nat.reduceBEq, Bool.or_false, Bool.false_or, Bool.or_true, Bool.true_or, up_s, up_n, bx_uu, pk_us, pk_un, ry10, eo, kn, n12, not_false_eq_true]
      | none =>
        have hn := o2 rfl
        have m1 : (-1 : Int32) < 0 := by decide
        simp only [an] at eo
        by_cases h6 : e - q ≤ 6
        · have h6' : nI (e - q) ≤ 6 := (nI_leI (b := 6) (by omega) (by omega)).mpr h6
          have ep := pac_m (d := d + 1) (p := q) (e := e) (X := X) (Y := va_up Y 123 (upd (upd (upd ry 7 (nI e)) 9 (-1)) 8 2)) (J := J2) (R := R2) (L := L) (u := u) (hYq _) (by omega) s2 hno h6
          have eu : upd (upd (upd (upd ry 7 (nI e)) 9 (-1)) 8 2) 9 (nI (pkW u q e)) = upd (upd (upd ry 7 (nI e)) 9 (nI (pkW u q e))) 8 2 := ud31 (by decide)
          refine fin 3 2 (nI (pkW u q e)) (by rw [if_pos h6, lgO_no hno h6 hn]; rfl) (Or.inr (Or.inr (Or.inr (Or.inl ⟨rfl, rfl, hl h6⟩)))) ?_
          rw [hmd]
          simp (disch := omega) only [xX12_token_114, xX12_token_115, xX12_token_116, xX12_token_117, xX12_token_120, xX12_token_121, xX12_token_124, xX12_token_127, xX12_token_130, xX12_token_131, xX12_token_132, xX12_token_135, xX12_token_138, xX12_token_139, xX12_token_142, xX12_token_143, xX12_token_146, xX12_token_147, xX12_token_150, xX12_token_151, xX12_token_153, xX12_token_156, xX12_token_158, xX12_token_161, xX12_token_162, xX12_token_165, xX12_token_166, xX12_token_169, xX12_token_170, xX12_token_173, xX12_token_174, xX12_token_175, xX12_token_176, xX12_token_179, xX12_token_180, xX12_token_183, xX12_token_186, xX12_token_189, kd_123, fi_123_0, kd_124, ln_124, xX12_token_282, kd_123, ↓reduceIte, gd_t, hK_p, hN_p, hF_p, hI_p, hJ_p, hR_p, stI_p, stJ_p, stR_p, stA_p, va_rf_s, va_rf_n, clr_i, clr_l, clr_r, clr_n, clr_o, w8_0, w8_1i, w8_1r, w8_2ii, w8_2ri, w8_2ir, w8_2rr, w8_3, beq_self_eq_true, Bool.and_self, Bool.and_true, Bool.true_and, decide_true, Option.toList_some, Option.toList_none, List.cons_append, List.nil_append, Option.bind_some, if_true, if_false, Nat.reduceLeDiff, Nat.reduceLT, Nat.reduceBEq, Bool.or_false, Bool.false_or, Bool.or_true, Bool.true_or, up_s, up_n, bx_uu, pk_us, pk_un, ry10, eo, m1, es, h6', ep, eu, not_true_eq_false]
        · have h6' : ¬ nI (e - q) ≤ 6 := fun w => h6 ((nI_leI (b := 6) (by omega) (by omega)).mp w)
          have n62 : ¬ (6 : Int32) = 2 := by decide
          refine fin 1 6 (-1) (by rw [if_neg h6]) (Or.inr (Or.inl ⟨rfl, Or.inl rfl⟩)) ?_
          rw [hmd]
          simp (disch := omega) only [xX12_token_114, xX12_token_115, xX12_token_116, xX12_token_117, xX12_token_120, xX12_token_121, xX12_token_124, xX12_token_127, xX12_token_130, xX12_token_131, xX12_token_132, xX12_token_135, xX12_token_138, xX12_token_139, xX12_token_142, xX12_token_143, xX12_token_146, xX12_token_147, xX12_token_150, xX12_token_151, xX12_token_153, xX12_token_156, xX12_token_158, xX12_token_161, xX12_token_162, xX12_token_165, xX12_token_166, xX12_token_169, xX12_token_170, xX12_token_173, xX12_token_174, xX12_token_175, xX12_token_176, xX12_token_179, xX12_token_180, xX12_token_183, xX12_token_186, xX12_token_189, kd_123, fi_123_0, kd_124, ln_124, xX12_token_282, kd_123, ↓reduceIte, gd_t, hK_p, hN_p, hF_p, hI_p, hJ_p, hR_p, stI_p, stJ_p, stR_p, stA_p, va_rf_s, va_rf_n, clr_i, clr_l, clr_r, clr_n, clr_o, w8_0, w8_1i, w8_1r, w8_2ii, w8_2ri, w8_2ir, w8_2rr, w8_3, beq_self_eq_true, Bool.and_self, Bool.and_true, Bool.true_and, decide_true, Option.toList_some, Option.toList_none, List.cons_append, List.nil_append, Option.bind_some, if_true, if_false, Nat.reduceLeDiff, Nat.reduceLT, Nat.reduceBEq, Bool.or_false, Bool.false_or, Bool.or_true, Bool.true_or, up_s, up_n, bx_uu, pk_us, pk_un, ry10, eo, m1, es, h6', n62, not_false_eq_true]
    · have zl' : ¬ (97 ≤ u q ∧ u q ≤ 122) := fun w => zl (decide_eq_true w)
      rw [if_neg (fun w => zl w.2)] at hs
      -- the class passes by words
      have hcn : E (C (d + 2)) MX10_next 79 [some (.ref 57)] [] (hp (va_up X 57 rx) J R) = E (C (d + 2)) MX10_next 114 [some (.ref 57)] [] (hp (va_up X 57 rx) J R) := by
        rcases bl2 zl' with z1 | ⟨z1, z2⟩
        · simp (disch := omega) only [xX10_next_79, xX10_next_80, xX10_next_83, xX10_next_84, xX10_next_87, xX10_next_88, xX10_next_90, xX10_next_93, xX10_next_94, xX10_next_97, xX10_next_98, xX10_next_101, xX10_next_102, xX10_next_104, kd_57, fi_57_0, kd_1, ln_1, ↓reduceIte, gd_t, hK_p, hN_p, hF_p, hI_p, hJ_p, hR_p, stI_p, stJ_p, stR_p, stA_p, va_rf_s, va_rf_n, clr_i, clr_l, clr_r, clr_n, clr_o, w8_0, w8_1i, w8_1r, w8_2ii, w8_2ri, w8_2ir, w8_2rr, w8_3, beq_self_eq_true, Bool.and_self, Bool.and_true, Bool.true_and, decide_true, Option.toList_some, Option.toList_none, List.cons_append, List.nil_append, Option.bind_some, if_true, if_false, Nat.reduceLeDiff, Nat.reduceLT, Nat.reduceBEq, Bool.or_false, Bool.false_or, Bool.or_true, Bool.true_or, inb_n, nI_clamp, up_s, up_n, rx3, t1, z1]
        · simp (disch := omega) only [xX10_next_79, xX10_next_80, xX10_next_83, xX10_next_84, xX10_next_87, xX10_next_88, xX10_next_90, xX10_next_93, xX10_next_94, xX10_next_97, xX10_next_98, xX10_next_101, xX10_next_102, xX10_next_104, kd_57, fi_57_0, kd_1, ln_1, ↓reduceIte, gd_t, hK_p, hN_p, hF_p, hI_p, hJ_p, hR_p, stI_p, stJ_p, stR_p, stA_p, va_rf_s, va_rf_n, clr_i, clr_l, clr_r, clr_n, clr_o, w8_0, w8_1i, w8_1r, w8_2ii, w8_2ri, w8_2ir, w8_2rr, w8_3, beq_self_eq_true, Bool.and_self, Bool.and_true, Bool.true_and, decide_true, Option.toList_some, Option.toList_none, List.cons_append, List.nil_append, Option.bind_some, if_true, if_false, Nat.reduceLeDiff, Nat.reduceLT, Nat.reduceBEq, Bool.or_false, Bool.false_or, Bool.or_true, Bool.true_or, inb_n, nI_clamp, up_s, up_n, rx3, t1, z1, z2]
      have hmn : E (C (d + 2)) MX12_token 79 [some (.ref 123)] [] (hp (va_up Y 123 ry) J2 R2) = E (C (d + 2)) MX12_token 192 [some (.ref 123)] [] (hp (va_up Y 123 ry) J2 R2) := by
        simp (disch := omega) only [xX12_token_79, xX12_token_80, xX12_token_81, xX12_token_84, xX12_token_87, kd_123, fi_123_0, kd_124, ln_124, kd_123, ↓reduceIte, gd_t, hK_p, hN_p, hF_p, hI_p, hJ_p, hR_p, stI_p, stJ_p, stR_p, stA_p, va_rf_s, va_rf_n, clr_i, clr_l, clr_r, clr_n, clr_o, w8_0, w8_1i, w8_1r, w8_2ii, w8_2ri, w8_2ir, w8_2rr, w8_3, beq_self_eq_true, Bool.and_self, Bool.and_true, Bool.true_and, decide_true, Option.toList_some, Option.toList_none, List.cons_append, List.nil_append, Option.bind_some, if_true, if_false, Nat.reduceLeDiff, Nat.reduceLT, Nat.reduceBEq, Bool.or_false, Bool.false_or, Bool.or_true, Bool.true_or, up_s, up_n, ry7, hs]
      by_cases zd : isD u q = true
      · -- a number
        obtain ⟨z1, z2⟩ := bd1 (of_decide_eq_true zd)
        rw [if_pos ⟨hqL, zd⟩] at hdg
        have en := rnu_c (d := d + 1) (p := q) (X := va_up X 57 rx) (Y := Y) (J := J) (R := R) (L := L) (u := u) (hXq rx) (by rw [up_s]; exact rx2) (by omega) (by rw [up_s]; exact rx3)
        rw [up_s, bx_uu] at en
        have em := rnu_m (d := d + 1) (p := q) (X := X) (Y := va_up Y 123 ry) (J := J2) (R := R2) (L := L) (u := u) (hYq ry) (by rw [up_s]; exact ry6) (by omega) (by rw [up_s]; exact ry7)
        rw [up_s, bx_uu] at em
        have hnr := nu_all (u := u) (L := L) (q := q) (by omega)
        obtain ⟨s1, s2⟩ := skp_le (c := fun i => !(isD u i)) (L := L) (p := q) (by omega)
        have hgt : q < skp (fun i => !(isD u i)) L q := by
          rcases Nat.lt_or_ge q (skp (fun i => !(isD u i)) L q) with w | w
          · exact w
          · have heq : skp (fun i => !(isD u i)) L q = q := by omega
            have := skp_at (c := fun i => !(isD u i)) (L := L) (p := q) (by omega)
            rw [heq, zd] at this
            exact absurd this (by decide)
        generalize skp (fun i => !(isD u i)) L q = e at *
        generalize (srF (fun i (_ : Int32) => !(isD u i)) (nuC u) (L - q) q 0).2 = vc at *
        generalize (srF (fun i (_ : Int32) => !(isD u i)) (nuM u) (L - q) q 0).2 = vm at *
        refine ⟨va_up X 57 (upd (upd (upd rx 4 2) 6 vc) 3 (nI e)), va_up Y 123 (upd (upd (upd ry 8 3) 9 vm) 7 (nI e)), e, q, ?_, ?_, ⟨?_, ?_, s2, ?_, ?_, by omega, ?_⟩, Or.inr (by omega), by omega, fun a ha => up_n ha, ?_, fun a ha => up_n ha, fun k k1 k2 k3 k4 => ?_⟩
        · rw [eX10_next, e1, hc, hcn]
          simp (disch := omega) only [xX10_next_114, xX10_next_115, xX10_next_118, xX10_next_119, xX10_next_122, xX10_next_123, xX10_next_125, xX10_next_128, xX10_next_129, xX10_next_132, xX10_next_133, xX10_next_136, xX10_next_137, xX10_next_139, xX10_next_142, xX10_next_143, xX10_next_146, kd_57, fi_57_0, kd_1, ln_1, xX10_next_153, kd_57, ↓reduceIte, gd_t, hK_p, hN_p, hF_p, hI_p, hJ_p, hR_p, stI_p, stJ_p, stR_p, stA_p, va_rf_s, va_rf_n, clr_i, clr_l, clr_r, clr_n, clr_o, w8_0, w8_1i, w8_1r, w8_2ii, w8_2ri, w8_2ir, w8_2rr, w8_3, beq_self_eq_true, Bool.and_self, Bool.and_true, Bool.true_and, decide_true, Option.toList_some, Option.toList_none, List.cons_append, List.nil_append, Option.bind_some, if_true, if_false, Nat.reduceLeDiff, Nat.reduceLT, Nat.reduceBEq, Bool.or_false, Bool.false_or, Bool.or_true, Bool.true_or, inb_n, nI_clamp, up_s, up_n, rx3, t1, z1, z2, en]
        · rw [eX12_token, e2, hm, hmn, ← em]
          simp (disch := omega) only [xX12_token_192, xX12_token_193, xX12_token_194, xX12_token_197, xX12_token_200, kd_123, fi_123_0, kd_124, ln_124, kd_123, ↓reduceIte, gd_t, hK_p, hN_p, hF_p, hI_p, hJ_p, hR_p, stI_p, stJ_p, stR_p, stA_p, va_rf_s, va_rf_n, clr_i, clr_l, clr_r, clr_n, clr_o, w8_0, w8_1i, w8_1r, w8_2ii, w8_2ri, w8_2ir, w8_2rr, w8_3, beq_self_eq_true, Bool.and_self, Bool.and_true, Bool.true_and, decide_true, Option.toList_some, Option.toList_none, List.cons_append, List.nil_append, Option.bind_some, if_true, if_false, Nat.reduceLeDiff, Nat.reduceLT, Nat.reduceBEq, Bool.or_false, Bool.false_or, Bool.or_true, Bool.true_or, up_s, up_n, ry7, hdg, n1]
        · rw [up_s]; simp (disch := omega) only [pk_us, pk_un]
        · rw [up_s]; simp (disch := omega) only [pk_us, pk_un]
        · rw [up_s]; simp (disch := omega) only [pk_un]; exact rx5
        · rw [up_s]; simp (disch := omega) only [pk_un]; exact ry10
        · rw [up_s, up_s]; simp (disch := omega) only [pk_us, pk_un]; exact Or.inr (Or.inr (Or.inl ⟨rfl, rfl, hnr⟩))
        · rw [up_s]; simp (disch := omega) only [pk_un]; rw [rx2]; exact hX.symm
        · rw [up_s]; simp (disch := omega) only [pk_un]; exact ryo k k1 k4
      · have zd' : ¬ (48 ≤ u q ∧ u q ≤ 57) := fun w => zd (decide_eq_true w)
        rw [if_neg (fun w => zd w.2)] at hdg
        have es := rsg_c (d := d) (p := q) (X := va_up X 57 rx) (Y := Y) (J := J) (R := R) (L := L) (u := u) (hXq rx) (by rw [up_s]; exact rx2) hqL (by rw [up_s]; exact rx3)
        rw [up_s, bx_uu] at es
        obtain ⟨r, em, r7, r8, r9, ro⟩ := sgt_m (d := d + 1) (p := q) (X := X) (Y := va_up Y 123 ry) (J := J2) (R := R2) (L := L) (u := u) (hYq ry) (by rw [up_s]; exact ry6) hqL (by rw [up_s]; exact ry7)
        rw [bx_uu] at em
        rw [up_s] at ro
        have hN : q < sgN u L q ∧ sgN u L q ≤ L := by
          have hfw : ∀ c, fwS u L (q + 1) c = true → q + 1 < L := fun c hc => (of_decide_eq_true hc).1
          unfold sgN
          split
          · split
            · next w => have := hfw _ w; omega
            · split
              · next w => have := hfw _ w; omega
              · omega
          · split
            · split
              · next w => have := hfw _ w; omega
              · omega
            · omega
        refine ⟨va_up X 57 (upd (upd rx 3 (nI (sgN u L q))) 4 (sgK u L q)), va_up Y 123 r, sgN u L q, q, ?_, ?_, ⟨?_, ?_, hN.2, ?_, ?_, by omega, ?_⟩, Or.inr (by omega), by omega, fun a ha => up_n ha, ?_, fun a ha => up_n ha, fun k k1 k2 k3 k4 => ?_⟩
        · rw [eX10_next, e1, hc, hcn]
          rcases bd2 zd' with z1 | ⟨z1, z2⟩
          · simp (disch := omega) only [xX10_next_114, xX10_next_115, xX10_next_118, xX10_next_119, xX10_next_122, xX10_next_123, xX10_next_125, xX10_next_128, xX10_next_129, xX10_next_132, xX10_next_133, xX10_next_136, xX10_next_137, xX10_next_139, xX10_next_142, xX10_next_143, xX10_next_146, xX10_next_149, xX10_next_150, xX10_next_153, kd_57, fi_57_0, kd_1, ln_1, kd_57, ↓reduceIte, gd_t, hK_p, hN_p, hF_p, hI_p, hJ_p, hR_p, stI_p, stJ_p, stR_p, stA_p, va_rf_s, va_rf_n, clr_i, clr_l, clr_r, clr_n, clr_o, w8_0, w8_1i, w8_1r, w8_2ii, w8_2ri, w8_2ir, w8_2rr, w8_3, beq_self_eq_true, Bool.and_self, Bool.and_true, Bool.true_and, decide_true, Option.toList_some, Option.toList_none, List.cons_append, List.nil_append, Option.bind_some, if_true, if_false, Nat.reduceLeDiff, Nat.reduceLT, Nat.reduceBEq, Bool.or_false, Bool.false_or, Bool.or_true, Bool.true_or, inb_n, nI_clamp, up_s, up_n, rx3, t1, z1, es]
          · simp (disch := omega) only [xX10_next_114, xX10_next_115, xX10_next_118, xX10_next_119, xX10_next_122, xX10_next_123, xX10_next_125, xX10_next_128, xX10_next_129, xX10_next_132, xX10_next_133, xX10_next_136, xX10_next_137, xX10_next_139, xX10_next_142, xX10_next_143, xX10_next_146, xX10_next_149, xX10_next_150, xX10_next_153, kd_57, fi_57_0, kd_1, ln_1, kd_57, ↓reduceIte, gd_t, hK_p, hN_p, hF_p, hI_p, hJ_p, hR_p, stI_p, stJ_p, stR_p, stA_p, va_rf_s, va_rf_n, clr_i, clr_l, clr_r, clr_n, clr_o, w8_0, w8_1i, w8_1r, w8_2ii, w8_2ri, w8_2ir, w8_2rr, w8_3, beq_self_eq_true, Bool.and_self, Bool.and_true, Bool.true_and, decide_true, Option.toList_some, Option.toList_none, List.cons_append, List.nil_append, Option.bind_some, if_true, if_false, Nat.reduceLeDiff, Nat.reduceLT, Nat.reduceBEq, Bool.or_false, Bool.false_or, Bool.or_true, Bool.true_or, inb_n, nI_clamp, up_s, up_n, rx3, t1, z1, z2, es]
        · rw [eX12_token, e2, hm, hmn]
          simp (disch := omega) only [xX12_token_192, xX12_token_193, xX12_token_194, xX12_token_197, xX12_token_200, kd_123, fi_123_0, kd_124, ln_124, xX12_token_278, xX12_token_279, xX12_token_282, kd_123, ↓reduceIte, gd_t, hK_p, hN_p, hF_p, hI_p, hJ_p, hR_p, stI_p, stJ_p, stR_p, stA_p, va_rf_s, va_rf_n, clr_i, clr_l, clr_r, clr_n, clr_o, w8_0, w8_1i, w8_1r, w8_2ii, w8_2ri, w8_2ir, w8_2rr, w8_3, beq_self_eq_true, Bool.and_self, Bool.and_true, Bool.true_and, decide_true, Option.toList_some, Option.toList_none, List.cons_append, List.nil_append, Option.bind_some, if_true, if_false, Nat.reduceLeDiff, Nat.reduceLT, Nat.reduceBEq, Bool.or_false, Bool.false_or, Bool.or_true, Bool.true_or, up_s, up_n, ry7, hdg, em]
        · rw [up_s]; simp (disch := omega) only [pk_us, pk_un]
        · rw [up_s]; exact r7
        · rw [up_s]; simp (disch := omega) only [pk_un]; exact rx5
        · rw [up_s, ro 10 (by decide) (by decide) (by decide)]; exact ry10
        · rw [up_s, up_s, r8, r9]; simp (disch := omega) only [pk_us, pk_un]; exact sg_TR t3
        · rw [up_s]; simp (disch := omega) only [pk_un]; rw [rx2]; exact hX.symm
        · rw [up_s, ro k k1 k2 k3]; exact ryo k k1 k4
end TOR

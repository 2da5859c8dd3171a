-- FITS, 2: both count the same
theorem itf_idb {σ : Type} {f : Nat → σ → σ} {a N : Nat} {s : σ} (h : ∀ j, a ≤ j → j < N → f j s = s) : ∀ (k i : Nat), i + k = N → a ≤ i → itf f k i s = s
  | 0, _, _, _ => rfl
  | k + 1, i, e, hi => by
    unfold itf
    rw [h i hi (by omega)]
    exact itf_idb h k (i + 1) (by omega) (by omega)
theorem dn_inv {σ : Type} {f : Nat → σ → σ} {Q : σ → Prop} {n : Nat} (h : ∀ i s, i < n → Q s → Q (f i s)) : ∀ k s, k ≤ n → Q s → Q (dn f k s)
  | 0, _, _, q => q
  | k + 1, s, hk, q => dn_inv h k _ (by omega) (h k s (by omega) q)
theorem stlC_0 {kd tg r : Nat → Int32} {i k : Nat} (h : r k = 0) : stlC kd tg i r k = 0 := by
  unfold stlC
  split
  · exact h
  · split
    · split
      · exact h
      · split
        · exact h
        · by_cases z : k = (tg i).toNatClampNeg
          · rw [z, pk_us]
          · rw [pk_un z]; exact h
    · exact h
theorem set_a {kd tg r : Nat → Int32} {a : Nat} (ha : a ≤ 40) : setF kd tg a r = dn (stlC kd tg) a (cpF (cntF a) r 40) := by
  unfold setF
  have h : ∀ q, a + q ≤ 40 → dn (stlC kd tg) (a + q) (cpF (cntF a) r 40) = dn (stlC kd tg) a (cpF (cntF a) r 40) := by
    intro q
    induction q with
    | zero => intro _; rfl
    | succ q ih =>
      intro hq
      have e : stlC kd tg (a + q) (cpF (cntF a) r 40) = cpF (cntF a) r 40 := by
        unfold stlC
        rw [if_pos]
        rw [cpF_at (by omega)]
        unfold cntF
        rw [if_neg (by omega)]
      show dn (stlC kd tg) (a + q) (stlC kd tg (a + q) (cpF (cntF a) r 40)) = _
      rw [e]
      exact ih (by omega)
  have := h (40 - a) (by omega)
  rw [show a + (40 - a) = 40 by omega] at this
  exact this
theorem set_0 {kd tg r : Nat → Int32} {a k : Nat} (ha : a ≤ 40) (hk : a ≤ k) (h40 : k < 40) : setF kd tg a r k = 0 := by
  rw [set_a ha]
  refine dn_inv (Q := fun (s : Nat → Int32) => s k = 0) (n := a) (fun i s _ q => stlC_0 q) a _ (Nat.le_refl a) ?_
  rw [cpF_at h40]
  unfold cntF
  rw [if_neg (by omega)]
/-- what both know of the notes -/
def ntR (kd tg nt : Nat → Int32) (a : Nat) : Prop := ∀ k, k < a → (kd k = 2 ∧ nt (3 * k) = -1 ∧ nt (3 * k + 1) = tg k ∧ ∃ x, x < k ∧ tg k = nI x) ∨ (¬ kd k = 2 ∧ nt (3 * k) = tg k ∧ inN (tg k) 0 1999)
theorem set_eq {kd tg nt r r' : Nat → Int32} {a : Nat} (ha : a ≤ 40) (hN : ntR kd tg nt a) : ∀ k, k < a → setF kd tg a r k = dn (stlM nt) a (cpF (fun _ => 1) r' a) k := by
  rw [set_a ha]
  refine dn_sim (Rl := fun (s t : Nat → Int32) => ∀ k, k < a → s k = t k) (n := a) (fun i s t hi q => ?_) a _ _ (Nat.le_refl a) (fun k hk => ?_)
  · intro k hk
    unfold stlC stlM
    rw [← q i hi]
    by_cases z0 : s i = 0
    · rw [if_pos z0, if_pos z0]; exact q k hk
    rw [if_neg z0, if_neg z0]
    rcases hN i hi with ⟨h1, h2, h3, x, hx, h4⟩ | ⟨h1, h2, p, p1, p2, p3⟩
    · have d1 : (-1 : Int32) < 0 := by decide
      have d2 : ¬ nI x < 0 := nI_pos (by omega)
      have d3 : ¬ nI i ≤ nI x := fun w => absurd ((nI_leI (by omega) (by omega)).mp w) (by omega)
      rw [if_pos h1, h2, h3, h4, if_neg d2, if_neg d3, if_pos d1, nI_clamp (by omega)]
      by_cases z : k = x
      · rw [z, pk_us, pk_us]
      · rw [pk_un z, pk_un z]; exact q k hk
    · rw [if_neg h1, h2, p3, if_neg (nI_pos (by omega))]
      exact q k hk
  · rw [cpF_at (by omega), cpF_at hk]
    unfold cntF
    rw [if_pos hk]
theorem cnt_eq {kd tg nt r r' : Nat → Int32} {a : Nat} (ha : a ≤ 40) (hN : ntR kd tg nt a) : ∃ E, E ≤ 2000 ∧ (layF nt a r').2 = nI E ∧ itf (lstS (setF kd tg a r) kd tg) 40 0 (-1) = nI E + (-1) ∧ (∀ k, k < a → (layF nt a r').1 k = if setF kd tg a r k = 0 then 0 else if kd k = 2 then 0 else 1) ∧ ∀ k, k < a → ¬ setF kd tg a r k = 0 → ¬ kd k = 2 → ∃ s, s < E ∧ tg k = nI s := by
  have hs := set_eq (r := r) (r' := r') ha hN
  have h0 : ∀ k, a ≤ k → k < 40 → setF kd tg a r k = 0 := fun k h1 h2 => set_0 ha h1 h2
  have e40 : itf (lstS (setF kd tg a r) kd tg) 40 0 (-1) = itf (lstS (setF kd tg a r) kd tg) a 0 (-1) := by
    have h1 := itf_add (f := lstS (setF kd tg a r) kd tg) a (40 - a) 0 (-1)
    rw [show a + (40 - a) = 40 by omega, Nat.zero_add] at h1
    rw [h1]
    refine itf_idb (a := a) (N := 40) (fun j j1 j2 => ?_) (40 - a) a (by omega) (Nat.le_refl a)
    unfold lstS
    rw [if_pos (h0 j j1 j2)]
  rw [e40]
  generalize setF kd tg a r = c at *
  unfold layF
  generalize dn (stlM nt) a (cpF (fun _ => 1) r' a) = m at *
  have h := itf_sim (f := lstS c kd tg) (g := layS nt) (n := a) (Rl := fun i (l : Int32) (s : (Nat → Int32) × Int32) => ∃ E, E ≤ 2000 ∧ s.2 = nI E ∧ l = nI E + (-1) ∧ (∀ k, k < i → s.1 k = if c k = 0 then 0 else if kd k = 2 then 0 else 1) ∧ (∀ k, i ≤ k → k < a → s.1 k = c k) ∧ ∀ k, k < i → ¬ c k = 0 → ¬ kd k = 2 → ∃ s, s < E ∧ tg k = nI s) (by
    intro i l s hi q
    obtain ⟨E, q1, q2, q3, q4, q5, q6⟩ := q
    have hU : ∀ (v : Int32), (v = if c i = 0 then 0 else if kd i = 2 then 0 else 1) → (∀ k, k < i + 1 → upd s.1 i v k = if c k = 0 then 0 else if kd k = 2 then 0 else 1) ∧ ∀ k, i + 1 ≤ k → k < a → upd s.1 i v k = c k := by
      intro v hv
      refine ⟨fun k hk => ?_, fun k k1 k2 => ?_⟩
      · by_cases z : k = i
        · rw [z, pk_us]; exact hv
        · rw [pk_un z]; exact q4 k (by omega)
      · rw [pk_un (by omega)]; exact q5 k (by omega) k2
    unfold lstS layS
    rw [q5 i (Nat.le_refl i) hi]
    by_cases z0 : c i = 0
    · obtain ⟨u1, u2⟩ := hU 0 (by rw [if_pos z0])
      rw [if_pos z0, if_pos z0]
      refine ⟨E, q1, q2, q3, u1, u2, fun k hk k1 k2 => ?_⟩
      by_cases z : k = i
      · rw [z] at k1; exact absurd z0 k1
      · exact q6 k (by omega) k1 k2
    rw [if_neg z0, if_neg z0]
    rcases hN i hi with ⟨h1, h2, -⟩ | ⟨h1, h2, p, p1, p2, p3⟩
    · obtain ⟨u1, u2⟩ := hU 0 (by rw [if_neg z0, if_pos h1])
      rw [if_pos h1, h2, if_pos (by decide)]
      refine ⟨E, q1, q2, q3, u1, u2, fun k hk k1 k2 => ?_⟩
      by_cases z : k = i
      · rw [z] at k2; exact absurd h1 k2
      · exact q6 k (by omega) k1 k2
    · obtain ⟨u1, u2⟩ := hU 1 (by rw [if_neg z0, if_neg h1])
      rw [if_neg h1, h2, p3, if_neg (nI_pos (by omega)), q2, q3]
      have hcmp : nI p ≤ nI E + (-1) ↔ p < E := by
        cases E with
        | zero =>
          have e : nI 0 + (-1) = (-1 : Int32) := by decide
          rw [e]
          constructor
          · intro w
            have := nI_pos (n := p) (by omega)
            exact absurd (Int32.lt_of_le_of_lt w (by decide)) this
          · intro w; omega
        | succ E =>
          rw [nI_pm, nI_leI (by omega) (by omega)]
          omega
      by_cases z : p < E
      · rw [if_pos (hcmp.mpr z), if_pos ((nI_ltI (by omega) (by omega)).mpr z)]
        refine ⟨E, q1, rfl, rfl, u1, u2, fun k hk k1 k2 => ?_⟩
        by_cases z2 : k = i
        · exact ⟨p, z, by rw [z2]; exact p3⟩
        · exact q6 k (by omega) k1 k2
      · rw [if_neg (fun w => z (hcmp.mp w)), if_neg (fun w => z ((nI_ltI (by omega) (by omega)).mp w))]
        refine ⟨p + 1, by omega, nI_1 p, (nI_pm p).symm, u1, u2, fun k hk k1 k2 => ?_⟩
        by_cases z2 : k = i
        · exact ⟨p, by omega, by rw [z2]; exact p3⟩
        · obtain ⟨s', s1, s2⟩ := q6 k (by omega) k1 k2
          exact ⟨s', by omega, s2⟩) a 0 (-1) (m, 0) (by omega) ⟨0, by omega, rfl, by decide, fun k hk => absurd hk (by omega), fun k _ hk => (hs k hk).symm, fun k hk => absurd hk (by omega)⟩
  obtain ⟨E, q1, q2, q3, q4, q5, q6⟩ := h
  exact ⟨E, q1, q2, q3, q4, q6⟩
theorem srF_some {c : Nat → Bool} : ∀ (k i : Nat), ((srF (fun i (_ : Unit) => c i) (fun _ s => s) k i ()).1.isSome = true) ↔ ∃ j, i ≤ j ∧ j < i + k ∧ c j = true
  | 0, i => by
    constructor
    · intro h; simp [srF] at h
    · rintro ⟨j, h1, h2, -⟩; omega
  | k + 1, i => by
    unfold srF
    by_cases z : c i = true
    · rw [if_pos z]
      exact ⟨fun _ => ⟨i, by omega, by omega, z⟩, fun _ => rfl⟩
    · rw [if_neg z, srF_some k (i + 1)]
      constructor
      · rintro ⟨j, h1, h2, h3⟩
        exact ⟨j, by omega, by omega, h3⟩
      · rintro ⟨j, h1, h2, h3⟩
        refine ⟨j, ?_, by omega, h3⟩
        rcases Nat.lt_or_ge i j with w | w
        · omega
        · have : j = i := by omega
          rw [this] at h3
          exact absurd h3 z
/-- whether a note is not so -/
def agC (c kd tg who S : Nat → Int32) (i : Nat) : Bool := decide (¬ c i = 0) && (decide (¬ kd i = 2) && (decide (¬ tg i < 0) && (decide (¬ 2000 ≤ tg i) && decide (¬ bi (¬ S (tg i).toNatClampNeg &&& who i = 0) = bi (kd i = 1)))))
theorem agr_c {d : Nat} {I : Mem} {J : MemL} {R : MemR} : C (d + 1) MX1_agrees [.ref 107, .ref 122] (hp I J R) = some (some (.int (tgV (srF (fun i (_ : Unit) => agC (I 111) (I 108) (I 109) (I 110) (I 122) i) (fun _ s => s) 40 0 ()).1)), hp I J R) := by
  have n1 : ¬ (1 : Int32) = 0 := by decide
  have h := for_s (P := fun i (s : Option Value × Option Value) => E (C d) MX1_agrees 2 [some (.ref 107), some (.ref 122), some (.int (nI i)), s.1, s.2] [] (hp I J R)) (F := fun o => some (some (.int (tgV o.1)), hp I J R)) (c := fun i _ => agC (I 111) (I 108) (I 109) (I 110) (I 122) i) (f := fun i s => (some (.int (I 109 i)), if I 111 i = 0 then s.2 else if I 108 i = 2 then s.2 else if I 109 i < 0 then s.2 else if 2000 ≤ I 109 i then s.2 else some (.int (bi (¬ I 122 (I 109 i).toNatClampNeg &&& I 110 i = 0))))) (n := 40) (by
    intro i s hi
    have c0 : ¬ (40 : Int32) ≤ nI i := fun q => absurd ((nI_leI (a := 40) (by omega) (by omega)).mp q) (by omega)
    rw [xX1_agrees_2]
    unfold agC
    by_cases z0 : I 111 i = 0
    · simp (disch := omega) only [xX1_agrees_3, xX1_agrees_5, xX1_agrees_8, xX1_agrees_9, xX1_agrees_12, xX1_agrees_13, xX1_agrees_14, xX1_agrees_15, xX1_agrees_16, xX1_agrees_19, xX1_agrees_20, xX1_agrees_21, xX1_agrees_24, xX1_agrees_25, xX1_agrees_28, xX1_agrees_29, xX1_agrees_30, xX1_agrees_31, xX1_agrees_34, xX1_agrees_35, xX1_agrees_38, xX1_agrees_39, xX1_agrees_40, xX1_agrees_41, xX1_agrees_44, xX1_agrees_45, xX1_agrees_46, xX1_agrees_47, xX1_agrees_48, xX1_agrees_51, xX1_agrees_52, xX1_agrees_53, xX1_agrees_54, xX1_agrees_57, xX1_agrees_58, xX1_agrees_61, xX1_agrees_62, xX1_agrees_64, xX1_agrees_66, xX1_agrees_67, xX1_agrees_70, xX1_agrees_71, xX1_agrees_72, xX1_agrees_73, xX1_agrees_76, xX1_agrees_77, xX1_agrees_80, xX1_agrees_81, xX1_agrees_84, xX1_agrees_85, xX1_agrees_86, xX1_agrees_89, xX1_agrees_92, xX1_agrees_93, kd_107, fi_107_0, kd_108, ln_108, fi_107_1, kd_109, ln_109, fi_107_2, kd_110, ln_110, fi_107_3, kd_111, ln_111, kd_122, ln_122, ↓reduceIte, gd_t, hK_p, hN_p, hF_p, hI_p, hJ_p, hR_p, stI_p, stJ_p, stR_p, stA_p, va_rf_s, va_rf_n, clr_i, clr_l, clr_r, clr_n, clr_o, w8_0, w8_1i, w8_1r, w8_2ii, w8_2ri, w8_2ir, w8_2rr, w8_3, beq_self_eq_true, Bool.and_self, Bool.and_true, Bool.true_and, decide_true, Option.toList_some, Option.toList_none, List.cons_append, List.nil_append, Option.bind_some, if_true, if_false, Nat.reduceLeDiff, Nat.reduceLT, Nat.reduceBEq, Bool.or_false, Bool.false_or, Bool.or_true, Bool.true_or, nI_leI, nI_ltI, nI_eq, nI_clamp, inb_n, up_s, up_n, bx_uu, nI_1, ix6, nI_0n, pk_us, pk_un, ge_0n, c0, z0, not_true_eq_false, decide_false, Bool.false_and, Bool.false_eq_true]
    by_cases z1 : I 108 i = 2
    · simp (disch := omega) only [xX1_agrees_3, xX1_agrees_5, xX1_agrees_8, xX1_agrees_9, xX1_agrees_12, xX1_agrees_13, xX1_agrees_14, xX1_agrees_15, xX1_agrees_16, xX1_agrees_19, xX1_agrees_20, xX1_agrees_21, xX1_agrees_24, xX1_agrees_25, xX1_agrees_28, xX1_agrees_29, xX1_agrees_30, xX1_agrees_31, xX1_agrees_34, xX1_agrees_35, xX1_agrees_38, xX1_agrees_39, xX1_agrees_40, xX1_agrees_41, xX1_agrees_44, xX1_agrees_45, xX1_agrees_46, xX1_agrees_47, xX1_agrees_48, xX1_agrees_51, xX1_agrees_52, xX1_agrees_53, xX1_agrees_54, xX1_agrees_57, xX1_agrees_58, xX1_agrees_61, xX1_agrees_62, xX1_agrees_64, xX1_agrees_66, xX1_agrees_67, xX1_agrees_70, xX1_agrees_71, xX1_agrees_72, xX1_agrees_73, xX1_agrees_76, xX1_agrees_77, xX1_agrees_80, xX1_agrees_81, xX1_agrees_84, xX1_agrees_85, xX1_agrees_86, xX1_agrees_89, xX1_agrees_92, xX1_agrees_93, kd_107, fi_107_0, kd_108, ln_108, fi_107_1, kd_109, ln_109, fi_107_2, kd_110, ln_110, fi_107_3, kd_111, ln_111, kd_122, ln_122, ↓reduceIte, gd_t, hK_p, hN_p, hF_p, hI_p, hJ_p, hR_p, stI_p, stJ_p, stR_p, stA_p, va_rf_s, va_rf_n, clr_i, clr_l, clr_r, clr_n, clr_o, w8_0, w8_1i, w8_1r, w8_2ii, w8_2ri, w8_2ir, w8_2rr, w8_3, beq_self_eq_true, Bool.and_self, Bool.and_true, Bool.true_and, decide_true, Option.toList_some, Option.toList_none, List.cons_append, List.nil_append, Option.bind_some, if_true, if_false, Nat.reduceLeDiff, Nat.reduceLT, Nat.reduceBEq, Bool.or_false, Bool.false_or, Bool.or_true, Bool.true_or, nI_leI, nI_ltI, nI_eq, nI_clamp, inb_n, up_s, up_n, bx_uu, nI_1, ix6, nI_0n, pk_us, pk_un, ge_0n, c0, z0, z1, not_true_eq_false, not_false_eq_true, decide_false, Bool.false_and, Bool.false_eq_true]
    by_cases z2 : I 109 i < 0
    · simp (disch := omega) only [xX1_agrees_3, xX1_agrees_5, xX1_agrees_8, xX1_agrees_9, xX1_agrees_12, xX1_agrees_13, xX1_agrees_14, xX1_agrees_15, xX1_agrees_16, xX1_agrees_19, xX1_agrees_20, xX1_agrees_21, xX1_agrees_24, xX1_agrees_25, xX1_agrees_28, xX1_agrees_29, xX1_agrees_30, xX1_agrees_31, xX1_agrees_34, xX1_agrees_35, xX1_agrees_38, xX1_agrees_39, xX1_agrees_40, xX1_agrees_41, xX1_agrees_44, xX1_agrees_45, xX1_agrees_46, xX1_agrees_47, xX1_agrees_48, xX1_agrees_51, xX1_agrees_52, xX1_agrees_53, xX1_agrees_54, xX1_agrees_57, xX1_agrees_58, xX1_agrees_61, xX1_agrees_62, xX1_agrees_64, xX1_agrees_66, xX1_agrees_67, xX1_agrees_70, xX1_agrees_71, xX1_agrees_72, xX1_agrees_73, xX1_agrees_76, xX1_agrees_77, xX1_agrees_80, xX1_agrees_81, xX1_agrees_84, xX1_agrees_85, xX1_agrees_86, xX1_agrees_89, xX1_agrees_92, xX1_agrees_93, kd_107, fi_107_0, kd_108, ln_108, fi_107_1, kd_109, ln_109, fi_107_2, kd_110, ln_110, fi_107_3, kd_111, ln_111, kd_122, ln_122, ↓reduceIte, gd_t, hK_p, hN_p, hF_p, hI_p, hJ_p, hR_p, stI_p, stJ_p, stR_p, stA_p, va_rf_s, va_rf_n, clr_i, clr_l, clr_r, clr_n, clr_o, w8_0, w8_1i, w8_1r, w8_2ii, w8_2ri, w8_2ir, w8_2rr, w8_3, beq_self_eq_true, Bool.and_self, Bool.and_true, Bool.true_and, decide_true, Option.toList_some, Option.toList_none, List.cons_append, List.nil_append, Option.bind_some, if_true, if_false, Nat.reduceLeDiff, Nat.reduceLT, Nat.reduceBEq, Bool.or_false, Bool.false_or, Bool.or_true, Bool.true_or, nI_leI, nI_ltI, nI_eq, nI_clamp, inb_n, up_s, up_n, bx_uu, nI_1, ix6, nI_0n, pk_us, pk_un, ge_0n, c0, z0, z1, z2, not_true_eq_false, not_false_eq_true, decide_false, Bool.false_and, Bool.false_eq_true]
    obtain ⟨y, hy, ey⟩ := nI_of z2
    rw [ey] at z2 ⊢
    have e2000 : nI 2000 = 2000 := rfl
    have n12 : ¬ (1 : Int32) = 2 := by decide
    have z6 : ¬ (0 : Int32) = 1 := by decide
    by_cases z3 : (2000 : Int32) ≤ nI y
    · simp (disch := omega) only [xX1_agrees_3, xX1_agrees_5, xX1_agrees_8, xX1_agrees_9, xX1_agrees_12, xX1_agrees_13, xX1_agrees_14, xX1_agrees_15, xX1_agrees_16, xX1_agrees_19, xX1_agrees_20, xX1_agrees_21, xX1_agrees_24, xX1_agrees_25, xX1_agrees_28, xX1_agrees_29, xX1_agrees_30, xX1_agrees_31, xX1_agrees_34, xX1_agrees_35, xX1_agrees_38, xX1_agrees_39, xX1_agrees_40, xX1_agrees_41, xX1_agrees_44, xX1_agrees_45, xX1_agrees_46, xX1_agrees_47, xX1_agrees_48, xX1_agrees_51, xX1_agrees_52, xX1_agrees_53, xX1_agrees_54, xX1_agrees_57, xX1_agrees_58, xX1_agrees_61, xX1_agrees_62, xX1_agrees_64, xX1_agrees_66, xX1_agrees_67, xX1_agrees_70, xX1_agrees_71, xX1_agrees_72, xX1_agrees_73, xX1_agrees_76, xX1_agrees_77, xX1_agrees_80, xX1_agrees_81, xX1_agrees_84, xX1_agrees_85, xX1_agrees_86, xX1_agrees_89, xX1_agrees_92, xX1_agrees_93, kd_107, fi_107_0, kd_108, ln_108, fi_107_1, kd_109, ln_109, fi_107_2, kd_110, ln_110, fi_107_3, kd_111, ln_111, kd_122, ln_122, ↓reduceIte, gd_t, hK_p, hN_p, hF_p, hI_p, hJ_p, hR_p, stI_p, stJ_p, stR_p, stA_p, va_rf_s, va_rf_n, clr_i, clr_l, clr_r, clr_n, clr_o, w8_0, w8_1i, w8_1r, w8_2ii, w8_2ri, w8_2ir, w8_2rr, w8_3, beq_self_eq_true, Bool.and_self, Bool.and_true, Bool.true_and, decide_true, Option.toList_some, Option.toList_none, List.cons_append, List.nil_append, Option.bind_some, if_true, if_false, Nat.reduceLeDiff, Nat.reduceLT, Nat.reduceBEq, Bool.or_false, Bool.false_or, Bool.or_true, Bool.true_or, ey, e2000, inb_n, nI_clamp, nI_1, c0, z0, z1, z2, z3, not_true_eq_false, not_false_eq_true, decide_false, Bool.false_and, Bool.false_eq_true]
    have hy2 : y < 2000 := by
      rcases Nat.lt_or_ge y 2000 with w | w
      · exact w
      · exact absurd (nI_le (a := 2000) w hy) z3
    unfold bi
    by_cases z4 : I 122 y &&& I 110 i = 0 <;> by_cases z5 : I 108 i = 1
    · simp (disch := omega) only [xX1_agrees_3, xX1_agrees_5, xX1_agrees_8, xX1_agrees_9, xX1_agrees_12, xX1_agrees_13, xX1_agrees_14, xX1_agrees_15, xX1_agrees_16, xX1_agrees_19, xX1_agrees_20, xX1_agrees_21, xX1_agrees_24, xX1_agrees_25, xX1_agrees_28, xX1_agrees_29, xX1_agrees_30, xX1_agrees_31, xX1_agrees_34, xX1_agrees_35, xX1_agrees_38, xX1_agrees_39, xX1_agrees_40, xX1_agrees_41, xX1_agrees_44, xX1_agrees_45, xX1_agrees_46, xX1_agrees_47, xX1_agrees_48, xX1_agrees_51, xX1_agrees_52, xX1_agrees_53, xX1_agrees_54, xX1_agrees_57, xX1_agrees_58, xX1_agrees_61, xX1_agrees_62, xX1_agrees_64, xX1_agrees_66, xX1_agrees_67, xX1_agrees_70, xX1_agrees_71, xX1_agrees_72, xX1_agrees_73, xX1_agrees_76, xX1_agrees_77, xX1_agrees_80, xX1_agrees_81, xX1_agrees_84, xX1_agrees_85, xX1_agrees_86, xX1_agrees_89, xX1_agrees_92, xX1_agrees_93, kd_107, fi_107_0, kd_108, ln_108, fi_107_1, kd_109, ln_109, fi_107_2, kd_110, ln_110, fi_107_3, kd_111, ln_111, kd_122, ln_122, ↓reduceIte, gd_t, hK_p, hN_p, hF_p, hI_p, hJ_p, hR_p, stI_p, stJ_p, stR_p, stA_p, va_rf_s, va_rf_n, clr_i, clr_l, clr_r, clr_n, clr_o, w8_0, w8_1i, w8_1r, w8_2ii, w8_2ri, w8_2ir, w8_2rr, w8_3, beq_self_eq_true, Bool.and_self, Bool.and_true, Bool.true_and, decide_true, Option.toList_some, Option.toList_none, List.cons_append, List.nil_append, Option.bind_some, if_true, if_false, Nat.reduceLeDiff, Nat.reduceLT, Nat.reduceBEq, Bool.or_false, Bool.false_or, Bool.or_true, Bool.true_or, ey, e2000, inb_n, nI_clamp, nI_1, c0, z0, z1, z2, z3, z4, z5, n12, z6, n1, tgV, z01, Option.isSome_some, not_true_eq_false, not_false_eq_true, decide_false]
    · simp (disch := omega) only [xX1_agrees_3, xX1_agrees_5, xX1_agrees_8, xX1_agrees_9, xX1_agrees_12, xX1_agrees_13, xX1_agrees_14, xX1_agrees_15, xX1_agrees_16, xX1_agrees_19, xX1_agrees_20, xX1_agrees_21, xX1_agrees_24, xX1_agrees_25, xX1_agrees_28, xX1_agrees_29, xX1_agrees_30, xX1_agrees_31, xX1_agrees_34, xX1_agrees_35, xX1_agrees_38, xX1_agrees_39, xX1_agrees_40, xX1_agrees_41, xX1_agrees_44, xX1_agrees_45, xX1_agrees_46, xX1_agrees_47, xX1_agrees_48, xX1_agrees_51, xX1_agrees_52, xX1_agrees_53, xX1_agrees_54, xX1_agrees_57, xX1_agrees_58, xX1_agrees_61, xX1_agrees_62, xX1_agrees_64, xX1_agrees_66, xX1_agrees_67, xX1_agrees_70, xX1_agrees_71, xX1_agrees_72, xX1_agrees_73, xX1_agrees_76, xX1_agrees_77, xX1_agrees_80, xX1_agrees_81, xX1_agrees_84, xX1_agrees_85, xX1_agrees_86, xX1_agrees_89, xX1_agrees_92, xX1_agrees_93, kd_107, fi_107_0, kd_108, ln_108, fi_107_1, kd_109, ln_109, fi_107_2, kd_110, ln_110, fi_107_3, kd_111, ln_111, kd_122, ln_122, ↓reduceIte, gd_t, hK_p, hN_p, hF_p, hI_p, hJ_p, hR_p, stI_p, stJ_p, stR_p, stA_p, va_rf_s, va_rf_n, clr_i, clr_l, clr_r, clr_n, clr_o, w8_0, w8_1i, w8_1r, w8_2ii, w8_2ri, w8_2ir, w8_2rr, w8_3, beq_self_eq_true, Bool.and_self, Bool.and_true, Bool.true_and, decide_true, Option.toList_some, Option.toList_none, List.cons_append, List.nil_append, Option.bind_some, if_true, if_false, Nat.reduceLeDiff, Nat.reduceLT, Nat.reduceBEq, Bool.or_false, Bool.false_or, Bool.or_true, Bool.true_or, ey, e2000, inb_n, nI_clamp, nI_1, c0, z0, z1, z2, z3, z4, z5, n12, z6, n1, not_true_eq_false, not_false_eq_true, decide_false, Bool.false_eq_true]
    · simp (disch := omega) only [xX1_agrees_3, xX1_agrees_5, xX1_agrees_8, xX1_agrees_9, xX1_agrees_12, xX1_agrees_13, xX1_agrees_14, xX1_agrees_15, xX1_agrees_16, xX1_agrees_19, xX1_agrees_20, xX1_agrees_21, xX1_agrees_24, xX1_agrees_25, xX1_agrees_28, xX1_agrees_29, xX1_agrees_30, xX1_agrees_31, xX1_agrees_34, xX1_agrees_35, xX1_agrees_38, xX1_agrees_39, xX1_agrees_40, xX1_agrees_41, xX1_agrees_44, xX1_agrees_45, xX1_agrees_46, xX1_agrees_47, xX1_agrees_48, xX1_agrees_51, xX1_agrees_52, xX1_agrees_53, xX1_agrees_54, xX1_agrees_57, xX1_agrees_58, xX1_agrees_61, xX1_agrees_62, xX1_agrees_64, xX1_agrees_66, xX1_agrees_67, xX1_agrees_70, xX1_agrees_71, xX1_agrees_72, xX1_agrees_73, xX1_agrees_76, xX1_agrees_77, xX1_agrees_80, xX1_agrees_81, xX1_agrees_84, xX1_agrees_85, xX1_agrees_86, xX1_agrees_89, xX1_agrees_92, xX1_agrees_93, kd_107, fi_107_0, kd_108, ln_108, fi_107_1, kd_109, ln_109, fi_107_2, kd_110, ln_110, fi_107_3, kd_111, ln_111, kd_122, ln_122, ↓reduceIte, gd_t, hK_p, hN_p, hF_p, hI_p, hJ_p, hR_p, stI_p, stJ_p, stR_p, stA_p, va_rf_s, va_rf_n, clr_i, clr_l, clr_r, clr_n, clr_o, w8_0, w8_1i, w8_1r, w8_2ii, w8_2ri, w8_2ir, w8_2rr, w8_3, beq_self_eq_true, Bool.and_self, Bool.and_true, Bool.true_and, decide_true, Option.toList_some, Option.toList_none, List.cons_append, List.nil_append, Option.bind_some, if_true, if_false, Nat.reduceLeDiff, Nat.reduceLT, Nat.reduceBEq, Bool.or_false, Bool.false_or, Bool.or_true, Bool.true_or, ey, e2000, inb_n, nI_clamp, nI_1, c0, z0, z1, z2, z3, z4, z5, n12, z6, n1, not_true_eq_false, not_false_eq_true, decide_false, Bool.false_eq_true]
    · simp (disch := omega) only [xX1_agrees_3, xX1_agrees_5, xX1_agrees_8, xX1_agrees_9, xX1_agrees_12, xX1_agrees_13, xX1_agrees_14, xX1_agrees_15, xX1_agrees_16, xX1_agrees_19, xX1_agrees_20, xX1_agrees_21, xX1_agrees_24, xX1_agrees_25, xX1_agrees_28, xX1_agrees_29, xX1_agrees_30, xX1_agrees_31, xX1_agrees_34, xX1_agrees_35, xX1_agrees_38, xX1_agrees_39, xX1_agrees_40, xX1_agrees_41, xX1_agrees_44, xX1_agrees_45, xX1_agrees_46, xX1_agrees_47, xX1_agrees_48, xX1_agrees_51, xX1_agrees_52, xX1_agrees_53, xX1_agrees_54, xX1_agrees_57, xX1_agrees_58, xX1_agrees_61, xX1_agrees_62, xX1_agrees_64, xX1_agrees_66, xX1_agrees_67, xX1_agrees_70, xX1_agrees_71, xX1_agrees_72, xX1_agrees_73, xX1_agrees_76, xX1_agrees_77, xX1_agrees_80, xX1_agrees_81, xX1_agrees_84, xX1_agrees_85, xX1_agrees_86, xX1_agrees_89, xX1_agrees_92, xX1_agrees_93, kd_107, fi_107_0, kd_108, ln_108, fi_107_1, kd_109, ln_109, fi_107_2, kd_110, ln_110, fi_107_3, kd_111, ln_111, kd_122, ln_122, ↓reduceIte, gd_t, hK_p, hN_p, hF_p, hI_p, hJ_p, hR_p, stI_p, stJ_p, stR_p, stA_p, va_rf_s, va_rf_n, clr_i, clr_l, clr_r, clr_n, clr_o, w8_0, w8_1i, w8_1r, w8_2ii, w8_2ri, w8_2ir, w8_2rr, w8_3, beq_self_eq_true, Bool.and_self, Bool.and_true, Bool.true_and, decide_true, Option.toList_some, Option.toList_none, List.cons_append, List.nil_append, Option.bind_some, if_true, if_false, Nat.reduceLeDiff, Nat.reduceLT, Nat.reduceBEq, Bool.or_false, Bool.false_or, Bool.or_true, Bool.true_or, ey, e2000, inb_n, nI_clamp, nI_1, c0, z0, z1, z2, z3, z4, z5, n12, z6, n1, tgV, z01, Option.isSome_some, not_true_eq_false, not_false_eq_true, decide_false]) (by
    intro s
    have c0 : (40 : Int32) ≤ nI 40 := by decide
    rw [xX1_agrees_2]
    simp (disch := omega) only [xX1_agrees_3, xX1_agrees_5, xX1_agrees_8, xX1_agrees_9, xX1_agrees_12, xX1_agrees_13, xX1_agrees_14, xX1_agrees_15, xX1_agrees_16, xX1_agrees_19, xX1_agrees_20, xX1_agrees_21, xX1_agrees_24, xX1_agrees_25, xX1_agrees_28, xX1_agrees_29, xX1_agrees_30, xX1_agrees_31, xX1_agrees_34, xX1_agrees_35, xX1_agrees_38, xX1_agrees_39, xX1_agrees_40, xX1_agrees_41, xX1_agrees_44, xX1_agrees_45, xX1_agrees_46, xX1_agrees_47, xX1_agrees_48, xX1_agrees_51, xX1_agrees_52, xX1_agrees_53, xX1_agrees_54, xX1_agrees_57, xX1_agrees_58, xX1_agrees_61, xX1_agrees_62, xX1_agrees_64, xX1_agrees_66, xX1_agrees_67, xX1_agrees_70, xX1_agrees_71, xX1_agrees_72, xX1_agrees_73, xX1_agrees_76, xX1_agrees_77, xX1_agrees_80, xX1_agrees_81, xX1_agrees_84, xX1_agrees_85, xX1_agrees_86, xX1_agrees_89, xX1_agrees_92, xX1_agrees_93, kd_107, fi_107_0, kd_108, ln_108, fi_107_1, kd_109, ln_109, fi_107_2, kd_110, ln_110, fi_107_3, kd_111, ln_111, ↓reduceIte, gd_t, hK_p, hN_p, hF_p, hI_p, hJ_p, hR_p, stI_p, stJ_p, stR_p, stA_p, va_rf_s, va_rf_n, clr_i, clr_l, clr_r, clr_n, clr_o, w8_0, w8_1i, w8_1r, w8_2ii, w8_2ri, w8_2ir, w8_2rr, w8_3, beq_self_eq_true, Bool.and_self, Bool.and_true, Bool.true_and, decide_true, Option.toList_some, Option.toList_none, List.cons_append, List.nil_append, Option.bind_some, if_true, if_false, Nat.reduceLeDiff, Nat.reduceLT, Nat.reduceBEq, Bool.or_false, Bool.false_or, Bool.or_true, Bool.true_or, nI_leI, nI_ltI, nI_eq, nI_clamp, inb_n, up_s, up_n, bx_uu, nI_1, ix6, nI_0n, pk_us, pk_un, ge_0n, c0, tgV, z11, Option.isSome_none, Bool.false_eq_true]) 40 0 (none, none) (by omega)
  rw [nI_0, srF_u (c := fun i => agC (I 111) (I 108) (I 109) (I 110) (I 122) i) 40 0 (none, none)] at h
  rw [eX1_agrees]
  simp only [xX1_agrees_0, xX1_agrees_1, ↓reduceIte, gd_t, hK_p, hN_p, hF_p, hI_p, hJ_p, hR_p, stI_p, stJ_p, stR_p, stA_p, va_rf_s, va_rf_n, clr_i, clr_l, clr_r, clr_n, clr_o, w8_0, w8_1i, w8_1r, w8_2ii, w8_2ri, w8_2ir, w8_2rr, w8_3, beq_self_eq_true, Bool.and_self, Bool.and_true, Bool.true_and, decide_true, Option.toList_some, Option.toList_none, List.cons_append, List.nil_append, Option.bind_some, if_true, if_false, Nat.reduceLeDiff, Nat.reduceLT, Nat.reduceBEq, Bool.or_false, Bool.false_or, Bool.or_true, Bool.true_or]
  exact h

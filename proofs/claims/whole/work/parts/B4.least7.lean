-- LEAST, 7: the model moves two; the pair
section LEO
variable {I I2 X : Mem} {J : MemL} {R R1 : MemR} {t t' n nb nm fL lL fG lG st : Nat}
def fn2 (r : Nat → Int32) (q : Nat × Nat × Nat × Nat) : Nat → Int32 := upd (upd (upd (upd (upd (upd (upd r 0 2) 1 (nI q.1)) 2 (nI (q.2.1 / 10))) 3 (nI (q.2.1 % 10))) 4 (nI q.2.2.1)) 5 (nI (q.2.2.2 / 10))) 6 (nI (q.2.2.2 % 10))
theorem otk_l {d N k a to b : Nat} {bits : Int32} (h : cAll I R t t' n nb nm fL lL fG lG st) (hN : N ≤ 60) (ha : a < n) (hb : b < n) (ht : to < nb * 10) : ∀ (q to2 : Nat) (X : Mem) (J : MemL), to2 + q = nb * 10 → mL I t lL lG n N bits X → ∃ X1 J1, mL I t lL lG n N bits X1 ∧ match sT (fun to2 => if ok2 I t lL lG n N k bits a to b to2 = true then some (a, to, b, to2) else none) q to2 with
    | some r => E (C (d + 7)) MX12_otherKeeps 3 [some (.ref 123), some (.int bits), some (.int (nI N)), some (.int (nI k)), some (.int (nI a)), some (.int (nI to)), some (.int (nI b)), some (.int (nI to2))] [] (hp X J R1) = some (some (.int 1), hp X1 J1 R1) ∧ X1 164 = fn2 (X 164) r
    | none => E (C (d + 7)) MX12_otherKeeps 3 [some (.ref 123), some (.int bits), some (.int (nI N)), some (.int (nI k)), some (.int (nI a)), some (.int (nI to)), some (.int (nI b)), some (.int (nI to2))] [] (hp X J R1) = some (some (.int 0), hp X1 J1 R1) ∧ X1 164 = X 164 := by
  have hb3 := h.txt.1.2.2
  intro q
  induction q with
  | zero =>
    intro to2 X J hq m
    obtain rfl : to2 = nb * 10 := by omega
    have y12 : X 123 12 = nI nb := by rw [m.1.1.2.1 12 (by unfold kpK; omega)]; exact h.txt.1.2.1
    have c0 : nb * 10 ≤ nb * 10 := Nat.le_refl _
    refine ⟨X, J, m, ?_⟩
    unfold sT
    dsimp only
    refine ⟨?_, rfl⟩
    rw [xX12_otherKeeps_3]
    simp (disch := omega) only [xX12_otherKeeps_5, xX12_otherKeeps_7, xX12_otherKeeps_8, xX12_otherKeeps_11, xX12_otherKeeps_12, kd_123, fi_123_76, kd_164, ln_164, xX12_otherKeeps_99, xX12_otherKeeps_100, ↓reduceIte, gd_t, hK_p, hN_p, hF_p, hI_p, hJ_p, hR_p, stI_p, stJ_p, stR_p, stA_p, va_rf_s, va_rf_n, clr_i, clr_l, clr_r, clr_n, clr_o, w8_0, w8_1i, w8_1r, w8_2ii, w8_2ri, w8_2ir, w8_2rr, w8_3, beq_self_eq_true, Bool.and_self, Bool.and_true, Bool.true_and, decide_true, Option.toList_some, Option.toList_none, List.cons_append, List.nil_append, Option.bind_some, if_true, if_false, Nat.reduceLeDiff, Nat.reduceLT, Nat.reduceBEq, Bool.or_false, Bool.false_or, Bool.or_true, Bool.true_or, y12, i10nb, nI_leI, c0, z01]
  | succ q ih =>
    intro to2 X J hq m
    have y12 : X 123 12 = nI nb := by rw [m.1.1.2.1 12 (by unfold kpK; omega)]; exact h.txt.1.2.1
    have c0 : ¬ nb * 10 ≤ to2 := by omega
    have eh : E (C (d + 7)) MX12_otherKeeps 3 [some (.ref 123), some (.int bits), some (.int (nI N)), some (.int (nI k)), some (.int (nI a)), some (.int (nI to)), some (.int (nI b)), some (.int (nI to2))] [] (hp X J R1) = E (C (d + 7)) MX12_otherKeeps 15 [some (.ref 123), some (.int bits), some (.int (nI N)), some (.int (nI k)), some (.int (nI a)), some (.int (nI to)), some (.int (nI b)), some (.int (nI to2))] [] (hp X J R1) := by
      rw [xX12_otherKeeps_3]
      simp (disch := omega) only [xX12_otherKeeps_5, xX12_otherKeeps_7, xX12_otherKeeps_8, xX12_otherKeeps_11, xX12_otherKeeps_12, kd_123, fi_123_76, kd_164, ln_164, ↓reduceIte, gd_t, hK_p, hN_p, hF_p, hI_p, hJ_p, hR_p, stI_p, stJ_p, stR_p, stA_p, va_rf_s, va_rf_n, clr_i, clr_l, clr_r, clr_n, clr_o, w8_0, w8_1i, w8_1r, w8_2ii, w8_2ri, w8_2ir, w8_2rr, w8_3, beq_self_eq_true, Bool.and_self, Bool.and_true, Bool.true_and, decide_true, Option.toList_some, Option.toList_none, List.cons_append, List.nil_append, Option.bind_some, if_true, if_false, Nat.reduceLeDiff, Nat.reduceLT, Nat.reduceBEq, Bool.or_false, Bool.false_or, Bool.or_true, Bool.true_or, y12, i10nb, nI_leI, c0]
    obtain ⟨X1, J1, m1, e1⟩ := two_m' (d := d) (k := k) (J := J) (R1 := R1) h m hN ha hb ht (to2 := to2) (by omega)
    unfold sT
    by_cases z : ok2 I t lL lG n N k bits a to b to2 = true
    · rw [if_pos z] at e1
      simp only [z, if_true]
      exact ⟨X1, J1, m1, eh.trans e1.1, e1.2⟩
    · rw [if_neg z] at e1
      rw [if_neg z]
      obtain ⟨X2, J2, m2, e2⟩ := ih (to2 + 1) X1 J1 (by omega) m1
      rw [e1.2] at e2
      refine ⟨X2, J2, m2, ?_⟩
      have en : E (C (d + 7)) MX12_otherKeeps 3 [some (.ref 123), some (.int bits), some (.int (nI N)), some (.int (nI k)), some (.int (nI a)), some (.int (nI to)), some (.int (nI b)), some (.int (nI to2))] [] (hp X J R1) = E (C (d + 7)) MX12_otherKeeps 3 [some (.ref 123), some (.int bits), some (.int (nI N)), some (.int (nI k)), some (.int (nI a)), some (.int (nI to)), some (.int (nI b)), some (.int (nI (to2 + 1)))] [] (hp X1 J1 R1) := by
        rw [eh, e1.1]
        simp (disch := omega) only [xX12_otherKeeps_93, xX12_otherKeeps_96, ↓reduceIte, gd_t, hK_p, hN_p, hF_p, hI_p, hJ_p, hR_p, stI_p, stJ_p, stR_p, stA_p, va_rf_s, va_rf_n, clr_i, clr_l, clr_r, clr_n, clr_o, w8_0, w8_1i, w8_1r, w8_2ii, w8_2ri, w8_2ir, w8_2rr, w8_3, beq_self_eq_true, Bool.and_self, Bool.and_true, Bool.true_and, decide_true, Option.toList_some, Option.toList_none, List.cons_append, List.nil_append, Option.bind_some, if_true, if_false, Nat.reduceLeDiff, Nat.reduceLT, Nat.reduceBEq, Bool.or_false, Bool.false_or, Bool.or_true, Bool.true_or, nI_1]
      dsimp only
      rw [en]
      exact e2
theorem otk_m {d N k a to b : Nat} {bits : Int32} (h : cAll I R t t' n nb nm fL lL fG lG st) (m : mL I t lL lG n N bits X) (hN : N ≤ 60) (ha : a < n) (hb : b < n) (ht : to < nb * 10) : ∃ X1 J1, mL I t lL lG n N bits X1 ∧ match sT (fun to2 => if ok2 I t lL lG n N k bits a to b to2 = true then some (a, to, b, to2) else none) (nb * 10) 0 with
    | some r => C (d + 8) MX12_otherKeeps [.ref 123, .int bits, .int (nI N), .int (nI k), .int (nI a), .int (nI to), .int (nI b)] (hp X J R1) = some (some (.int 1), hp X1 J1 R1) ∧ X1 164 = fn2 (X 164) r
    | none => C (d + 8) MX12_otherKeeps [.ref 123, .int bits, .int (nI N), .int (nI k), .int (nI a), .int (nI to), .int (nI b)] (hp X J R1) = some (some (.int 0), hp X1 J1 R1) ∧ X1 164 = X 164 := by
  obtain ⟨X1, J1, m1, e1⟩ := otk_l (d := d) (k := k) (R1 := R1) h hN ha hb ht (nb * 10) 0 X J (by omega) m
  rw [nI_0] at e1
  have eh : C (d + 8) MX12_otherKeeps [.ref 123, .int bits, .int (nI N), .int (nI k), .int (nI a), .int (nI to), .int (nI b)] (hp X J R1) = E (C (d + 7)) MX12_otherKeeps 3 [some (.ref 123), some (.int bits), some (.int (nI N)), some (.int (nI k)), some (.int (nI a)), some (.int (nI to)), some (.int (nI b)), some (.int 0)] [] (hp X J R1) := by
    rw [eX12_otherKeeps]
    simp only [xX12_otherKeeps_0, xX12_otherKeeps_1, ↓reduceIte, gd_t, hK_p, hN_p, hF_p, hI_p, hJ_p, hR_p, stI_p, stJ_p, stR_p, stA_p, va_rf_s, va_rf_n, clr_i, clr_l, clr_r, clr_n, clr_o, w8_0, w8_1i, w8_1r, w8_2ii, w8_2ri, w8_2ir, w8_2rr, w8_3, beq_self_eq_true, Bool.and_self, Bool.and_true, Bool.true_and, decide_true, Option.toList_some, Option.toList_none, List.cons_append, List.nil_append, Option.bind_some, if_true, if_false, Nat.reduceLeDiff, Nat.reduceLT, Nat.reduceBEq, Bool.or_false, Bool.false_or, Bool.or_true, Bool.true_or]
  rw [eh]
  exact ⟨X1, J1, m1, e1⟩
theorem twk_b {d N k a to : Nat} {bits : Int32} (h : cAll I R t t' n nb nm fL lL fG lG st) (hN : N ≤ 60) (ha : a < n) (ht : to < nb * 10) : ∀ (q b : Nat) (X : Mem) (J : MemL), b + q = n → mL I t lL lG n N bits X → ∃ X1 J1 l6, mL I t lL lG n N bits X1 ∧ match sT (fun b => sT (ok2C I t lL lG n N k bits a to b) (nb * 10) 0) q b with
    | some r => E (C (d + 8)) MX12_twoKeep 33 [some (.ref 123), some (.int bits), some (.int (nI N)), some (.int (nI k)), some (.int (nI a)), some (.int (nI to)), some (.int (nI b))] [] (hp X J R1) = some (some (.int 1), hp X1 J1 R1) ∧ X1 164 = fn2 (X 164) r
    | none => E (C (d + 8)) MX12_twoKeep 33 [some (.ref 123), some (.int bits), some (.int (nI N)), some (.int (nI k)), some (.int (nI a)), some (.int (nI to)), some (.int (nI b))] [] (hp X J R1) = E (C (d + 8)) MX12_twoKeep 15 [some (.ref 123), some (.int bits), some (.int (nI N)), some (.int (nI k)), some (.int (nI a)), some (.int (nI (to + 1))), l6] [] (hp X1 J1 R1) ∧ X1 164 = X 164 := by
  have hn6 := h.n6
  have hb3 := h.txt.1.2.2
  have n1 : ¬ (1 : Int32) = 0 := by decide
  intro q
  induction q with
  | zero =>
    intro b X J hq m
    obtain rfl : b = n := by omega
    have y13 : X 123 13 = nI b := by rw [m.1.1.2.1 13 (by unfold kpK; omega)]; exact h.nd
    have c0 : b ≤ b := Nat.le_refl b
    refine ⟨X, J, some (.int (nI b)), m, ?_⟩
    unfold sT
    dsimp only
    refine ⟨?_, rfl⟩
    rw [xX12_twoKeep_33]
    simp (disch := omega) only [xX12_twoKeep_35, xX12_twoKeep_36, xX12_twoKeep_39, kd_123, xX12_twoKeep_77, xX12_twoKeep_80, ↓reduceIte, gd_t, hK_p, hN_p, hF_p, hI_p, hJ_p, hR_p, stI_p, stJ_p, stR_p, stA_p, va_rf_s, va_rf_n, clr_i, clr_l, clr_r, clr_n, clr_o, w8_0, w8_1i, w8_1r, w8_2ii, w8_2ri, w8_2ir, w8_2rr, w8_3, beq_self_eq_true, Bool.and_self, Bool.and_true, Bool.true_and, decide_true, Option.toList_some, Option.toList_none, List.cons_append, List.nil_append, Option.bind_some, if_true, if_false, Nat.reduceLeDiff, Nat.reduceLT, Nat.reduceBEq, Bool.or_false, Bool.false_or, Bool.or_true, Bool.true_or, nI_leI, nI_ltI, nI_eq, nI_clamp, inb_n, up_s, up_n, bx_uu, nI_1, ix6, nI_0n, pk_us, pk_un, ge_0n, y13, c0]
  | succ q ih =>
    intro b X J hq m
    have y13 : X 123 13 = nI n := by rw [m.1.1.2.1 13 (by unfold kpK; omega)]; exact h.nd
    have c0 : ¬ n ≤ b := by omega
    have hw : X 151 a = I 62 a ∧ X 152 a = I 63 a := by
      obtain ⟨a1, -, a3, -⟩ := h.now.2.2.2.2.2.2.2.2.1.1 a ha
      rw [Nat.zero_add] at a1 a3
      rw [m.1.1.2.2 151 a (by omega) (by omega) (by omega), m.1.1.2.2 152 a (by omega) (by omega) (by omega)]
      exact ⟨a1.symm, a3.symm⟩
    have e3 := imv_m (d := d + 7) (c := a) (to := to) (I := I) (X := X) (J := J) (R1 := R1) (by omega) (by omega) hw.1 hw.2
    by_cases zm : mvd I a to = true
    · rw [if_pos zm] at e3
      have hC : ∀ b, ok2C I t lL lG n N k bits a to b = fun to2 => if ok2 I t lL lG n N k bits a to b to2 = true then some (a, to, b, to2) else none := fun b => by
        funext to2
        unfold ok2C
        rw [zm, Bool.true_and]
      obtain ⟨X1, J1, m1, e1⟩ := otk_m (d := d) (k := k) (J := J) (R1 := R1) h m hN ha (b := b) (by omega) ht
      rw [← hC b] at e1
      unfold sT
      cases hs : sT (ok2C I t lL lG n N k bits a to b) (nb * 10) 0 with
      | some r =>
        rw [hs] at e1
        dsimp only at e1 ⊢
        refine ⟨X1, J1, none, m1, ?_, e1.2⟩
        rw [xX12_twoKeep_33]
        simp (disch := omega) only [xX12_twoKeep_35, xX12_twoKeep_36, xX12_twoKeep_39, xX12_twoKeep_42, xX12_twoKeep_43, xX12_twoKeep_45, xX12_twoKeep_47, xX12_twoKeep_50, xX12_twoKeep_53, xX12_twoKeep_54, xX12_twoKeep_55, xX12_twoKeep_56, xX12_twoKeep_57, xX12_twoKeep_59, xX12_twoKeep_61, xX12_twoKeep_63, xX12_twoKeep_66, xX12_twoKeep_69, xX12_twoKeep_70, kd_123, kd_123, ↓reduceIte, gd_t, hK_p, hN_p, hF_p, hI_p, hJ_p, hR_p, stI_p, stJ_p, stR_p, stA_p, va_rf_s, va_rf_n, clr_i, clr_l, clr_r, clr_n, clr_o, w8_0, w8_1i, w8_1r, w8_2ii, w8_2ri, w8_2ir, w8_2rr, w8_3, beq_self_eq_true, Bool.and_self, Bool.and_true, Bool.true_and, decide_true, Option.toList_some, Option.toList_none, List.cons_append, List.nil_append, Option.bind_some, if_true, if_false, Nat.reduceLeDiff, Nat.reduceLT, Nat.reduceBEq, Bool.or_false, Bool.false_or, Bool.or_true, Bool.true_or, nI_leI, nI_ltI, nI_eq, nI_clamp, inb_n, up_s, up_n, bx_uu, nI_1, ix6, nI_0n, pk_us, pk_un, ge_0n, w8_4, y13, c0, e3, n1, e1.1, z11]
      | none =>
        rw [hs] at e1
        dsimp only at e1 ⊢
        obtain ⟨X2, J2, l6, m2, e2⟩ := ih (b + 1) X1 J1 (by omega) m1
        rw [e1.2] at e2
        refine ⟨X2, J2, l6, m2, ?_⟩
        have en : E (C (d + 8)) MX12_twoKeep 33 [some (.ref 123), some (.int bits), some (.int (nI N)), some (.int (nI k)), some (.int (nI a)), some (.int (nI to)), some (.int (nI b))] [] (hp X J R1) = E (C (d + 8)) MX12_twoKeep 33 [some (.ref 123), some (.int bits), some (.int (nI N)), some (.int (nI k)), some (.int (nI a)), some (.int (nI to)), some (.int (nI (b + 1)))] [] (hp X1 J1 R1) := by
          rw [xX12_twoKeep_33]
          simp (disch := omega) only [xX12_twoKeep_35, xX12_twoKeep_36, xX12_twoKeep_39, xX12_twoKeep_42, xX12_twoKeep_43, xX12_twoKeep_45, xX12_twoKeep_47, xX12_twoKeep_50, xX12_twoKeep_53, xX12_twoKeep_54, xX12_twoKeep_55, xX12_twoKeep_56, xX12_twoKeep_57, xX12_twoKeep_59, xX12_twoKeep_61, xX12_twoKeep_63, xX12_twoKeep_66, xX12_twoKeep_69, xX12_twoKeep_70, xX12_twoKeep_71, xX12_twoKeep_74, kd_123, kd_123, ↓reduceIte, gd_t, hK_p, hN_p, hF_p, hI_p, hJ_p, hR_p, stI_p, stJ_p, stR_p, stA_p, va_rf_s, va_rf_n, clr_i, clr_l, clr_r, clr_n, clr_o, w8_0, w8_1i, w8_1r, w8_2ii, w8_2ri, w8_2ir, w8_2rr, w8_3, beq_self_eq_true, Bool.and_self, Bool.and_true, Bool.true_and, decide_true, Option.toList_some, Option.toList_none, List.cons_append, List.nil_append, Option.bind_some, if_true, if_false, Nat.reduceLeDiff, Nat.reduceLT, Nat.reduceBEq, Bool.or_false, Bool.false_or, Bool.or_true, Bool.true_or, nI_leI, nI_ltI, nI_eq, nI_clamp, inb_n, up_s, up_n, bx_uu, nI_1, ix6, nI_0n, pk_us, pk_un, ge_0n, w8_4, y13, c0, e3, n1, e1.1]
        rw [en]
        exact e2
    · rw [if_neg zm] at e3
      have zm' : mvd I a to = false := by simpa using zm
      have hno : ∀ i, sT (ok2C I t lL lG n N k bits a to i) (nb * 10) 0 = none := fun i => sT_none (fun j => by unfold ok2C; rw [zm', Bool.false_and]; rfl) _ _
      rw [sT_none hno]
      dsimp only
      refine ⟨X, J, some (.int (nI b)), m, ?_, rfl⟩
      rw [xX12_twoKeep_33]
      simp (disch := omega) only [xX12_twoKeep_35, xX12_twoKeep_36, xX12_twoKeep_39, xX12_twoKeep_42, xX12_twoKeep_43, xX12_twoKeep_45, xX12_twoKeep_47, xX12_twoKeep_50, kd_123, xX12_twoKeep_77, xX12_twoKeep_80, kd_123, ↓reduceIte, gd_t, hK_p, hN_p, hF_p, hI_p, hJ_p, hR_p, stI_p, stJ_p, stR_p, stA_p, va_rf_s, va_rf_n, clr_i, clr_l, clr_r, clr_n, clr_o, w8_0, w8_1i, w8_1r, w8_2ii, w8_2ri, w8_2ir, w8_2rr, w8_3, beq_self_eq_true, Bool.and_self, Bool.and_true, Bool.true_and, decide_true, Option.toList_some, Option.toList_none, List.cons_append, List.nil_append, Option.bind_some, if_true, if_false, Nat.reduceLeDiff, Nat.reduceLT, Nat.reduceBEq, Bool.or_false, Bool.false_or, Bool.or_true, Bool.true_or, nI_leI, nI_ltI, nI_eq, nI_clamp, inb_n, up_s, up_n, bx_uu, nI_1, ix6, nI_0n, pk_us, pk_un, ge_0n, y13, c0, e3]
theorem twk_t {d N k a : Nat} {bits : Int32} (h : cAll I R t t' n nb nm fL lL fG lG st) (hN : N ≤ 60) (ha : a < n) : ∀ (q to : Nat) (X : Mem) (J : MemL) (l6 : Option Value), to + q = nb * 10 → mL I t lL lG n N bits X → ∃ X1 J1 l5 l6', mL I t lL lG n N bits X1 ∧ match sT (fun to => sT (fun b => sT (ok2C I t lL lG n N k bits a to b) (nb * 10) 0) (n - (a + 1)) (a + 1)) q to with
    | some r => E (C (d + 8)) MX12_twoKeep 15 [some (.ref 123), some (.int bits), some (.int (nI N)), some (.int (nI k)), some (.int (nI a)), some (.int (nI to)), l6] [] (hp X J R1) = some (some (.int 1), hp X1 J1 R1) ∧ X1 164 = fn2 (X 164) r
    | none => E (C (d + 8)) MX12_twoKeep 15 [some (.ref 123), some (.int bits), some (.int (nI N)), some (.int (nI k)), some (.int (nI a)), some (.int (nI to)), l6] [] (hp X J R1) = E (C (d + 8)) MX12_twoKeep 3 [some (.ref 123), some (.int bits), some (.int (nI N)), some (.int (nI k)), some (.int (nI (a + 1))), l5, l6'] [] (hp X1 J1 R1) ∧ X1 164 = X 164 := by
  have hn6 := h.n6
  have hb3 := h.txt.1.2.2
  intro q
  induction q with
  | zero =>
    intro to X J l6 hq m
    obtain rfl : to = nb * 10 := by omega
    have y12 : X 123 12 = nI nb := by rw [m.1.1.2.1 12 (by unfold kpK; omega)]; exact h.txt.1.2.1
    have c0 : nb * 10 ≤ nb * 10 := Nat.le_refl _
    refine ⟨X, J, some (.int (nI (nb * 10))), l6, m, ?_⟩
    unfold sT
    dsimp only
    refine ⟨?_, rfl⟩
    rw [xX12_twoKeep_15]
    simp (disch := omega) only [xX12_twoKeep_17, xX12_twoKeep_19, xX12_twoKeep_20, xX12_twoKeep_23, xX12_twoKeep_24, kd_123, xX12_twoKeep_83, xX12_twoKeep_86, ↓reduceIte, gd_t, hK_p, hN_p, hF_p, hI_p, hJ_p, hR_p, stI_p, stJ_p, stR_p, stA_p, va_rf_s, va_rf_n, clr_i, clr_l, clr_r, clr_n, clr_o, w8_0, w8_1i, w8_1r, w8_2ii, w8_2ri, w8_2ir, w8_2rr, w8_3, beq_self_eq_true, Bool.and_self, Bool.and_true, Bool.true_and, decide_true, Option.toList_some, Option.toList_none, List.cons_append, List.nil_append, Option.bind_some, if_true, if_false, Nat.reduceLeDiff, Nat.reduceLT, Nat.reduceBEq, Bool.or_false, Bool.false_or, Bool.or_true, Bool.true_or, y12, i10nb, nI_leI, nI_1, c0]
  | succ q ih =>
    intro to X J l6 hq m
    have y12 : X 123 12 = nI nb := by rw [m.1.1.2.1 12 (by unfold kpK; omega)]; exact h.txt.1.2.1
    have c0 : ¬ nb * 10 ≤ to := by omega
    have eh : E (C (d + 8)) MX12_twoKeep 15 [some (.ref 123), some (.int bits), some (.int (nI N)), some (.int (nI k)), some (.int (nI a)), some (.int (nI to)), l6] [] (hp X J R1) = E (C (d + 8)) MX12_twoKeep 33 [some (.ref 123), some (.int bits), some (.int (nI N)), some (.int (nI k)), some (.int (nI a)), some (.int (nI to)), some (.int (nI (a + 1)))] [] (hp X J R1) := by
      rw [xX12_twoKeep_15]
      simp (disch := omega) only [xX12_twoKeep_17, xX12_twoKeep_19, xX12_twoKeep_20, xX12_twoKeep_23, xX12_twoKeep_24, xX12_twoKeep_27, xX12_twoKeep_29, xX12_twoKeep_30, xX12_twoKeep_31, kd_123, ↓reduceIte, gd_t, hK_p, hN_p, hF_p, hI_p, hJ_p, hR_p, stI_p, stJ_p, stR_p, stA_p, va_rf_s, va_rf_n, clr_i, clr_l, clr_r, clr_n, clr_o, w8_0, w8_1i, w8_1r, w8_2ii, w8_2ri, w8_2ir, w8_2rr, w8_3, beq_self_eq_true, Bool.and_self, Bool.and_true, Bool.true_and, decide_true, Option.toList_some, Option.toList_none, List.cons_append, List.nil_append, Option.bind_some, if_true, if_false, Nat.reduceLeDiff, Nat.reduceLT, Nat.reduceBEq, Bool.or_false, Bool.false_or, Bool.or_true, Bool.true_or, y12, i10nb, nI_leI, nI_1, c0]
    obtain ⟨X1, J1, m6, m1, e1⟩ := twk_b (d := d) (k := k) (R1 := R1) h hN ha (to := to) (by omega) (n - (a + 1)) (a + 1) X J (by omega) m
    unfold sT
    cases hs : sT (fun b => sT (ok2C I t lL lG n N k bits a to b) (nb * 10) 0) (n - (a + 1)) (a + 1) with
    | some r =>
      rw [hs] at e1
      exact ⟨X1, J1, none, none, m1, eh.trans e1.1, e1.2⟩
    | none =>
      rw [hs] at e1
      dsimp only at e1 ⊢
      obtain ⟨X2, J2, p5, p6, m2, e2⟩ := ih (to + 1) X1 J1 m6 (by omega) m1
      rw [e1.2] at e2
      refine ⟨X2, J2, p5, p6, m2, ?_⟩
      rw [eh, e1.1]
      exact e2
theorem twk_a {d N k : Nat} {bits : Int32} (h : cAll I R t t' n nb nm fL lL fG lG st) (hN : N ≤ 60) : ∀ (q a : Nat) (X : Mem) (J : MemL) (l5 l6 : Option Value), a + q = n → mL I t lL lG n N bits X → ∃ X1 J1, mL I t lL lG n N bits X1 ∧ match sT (fun a => sT (fun to => sT (fun b => sT (ok2C I t lL lG n N k bits a to b) (nb * 10) 0) (n - (a + 1)) (a + 1)) (nb * 10) 0) q a with
    | some r => E (C (d + 8)) MX12_twoKeep 3 [some (.ref 123), some (.int bits), some (.int (nI N)), some (.int (nI k)), some (.int (nI a)), l5, l6] [] (hp X J R1) = some (some (.int 1), hp X1 J1 R1) ∧ X1 164 = fn2 (X 164) r
    | none => E (C (d + 8)) MX12_twoKeep 3 [some (.ref 123), some (.int bits), some (.int (nI N)), some (.int (nI k)), some (.int (nI a)), l5, l6] [] (hp X J R1) = some (some (.int 0), hp X1 J1 R1) ∧ X1 164 = X 164 := by
  have hn6 := h.n6
  intro q
  induction q with
  | zero =>
    intro a X J l5 l6 hq m
    obtain rfl : a = n := by omega
    have y13 : X 123 13 = nI a := by rw [m.1.1.2.1 13 (by unfold kpK; omega)]; exact h.nd
    have c0 : a ≤ a := Nat.le_refl a
    refine ⟨X, J, m, ?_⟩
    unfold sT
    dsimp only
    refine ⟨?_, rfl⟩
    rw [xX12_twoKeep_3]
    simp (disch := omega) only [xX12_twoKeep_5, xX12_twoKeep_6, xX12_twoKeep_9, xX12_twoKeep_12, xX12_twoKeep_13, kd_123, xX12_twoKeep_89, xX12_twoKeep_90, ↓reduceIte, gd_t, hK_p, hN_p, hF_p, hI_p, hJ_p, hR_p, stI_p, stJ_p, stR_p, stA_p, va_rf_s, va_rf_n, clr_i, clr_l, clr_r, clr_n, clr_o, w8_0, w8_1i, w8_1r, w8_2ii, w8_2ri, w8_2ir, w8_2rr, w8_3, beq_self_eq_true, Bool.and_self, Bool.and_true, Bool.true_and, decide_true, Option.toList_some, Option.toList_none, List.cons_append, List.nil_append, Option.bind_some, if_true, if_false, Nat.reduceLeDiff, Nat.reduceLT, Nat.reduceBEq, Bool.or_false, Bool.false_or, Bool.or_true, Bool.true_or, nI_leI, nI_ltI, nI_eq, nI_clamp, inb_n, up_s, up_n, bx_uu, nI_1, ix6, nI_0n, pk_us, pk_un, ge_0n, y13, c0, z01]
  | succ q ih =>
    intro a X J l5 l6 hq m
    have y13 : X 123 13 = nI n := by rw [m.1.1.2.1 13 (by unfold kpK; omega)]; exact h.nd
    have c0 : ¬ n ≤ a := by omega
    obtain ⟨X1, J1, m5, m6, m1, e1⟩ := twk_t (d := d) (k := k) (R1 := R1) h hN (a := a) (by omega) (nb * 10) 0 X J l6 (by omega) m
    rw [nI_0] at e1
    have eh : E (C (d + 8)) MX12_twoKeep 3 [some (.ref 123), some (.int bits), some (.int (nI N)), some (.int (nI k)), some (.int (nI a)), l5, l6] [] (hp X J R1) = E (C (d + 8)) MX12_twoKeep 15 [some (.ref 123), some (.int bits), some (.int (nI N)), some (.int (nI k)), some (.int (nI a)), some (.int 0), l6] [] (hp X J R1) := by
      rw [xX12_twoKeep_3]
      simp (disch := omega) only [xX12_twoKeep_5, xX12_twoKeep_6, xX12_twoKeep_9, xX12_twoKeep_12, xX12_twoKeep_13, kd_123, ↓reduceIte, gd_t, hK_p, hN_p, hF_p, hI_p, hJ_p, hR_p, stI_p, stJ_p, stR_p, stA_p, va_rf_s, va_rf_n, clr_i, clr_l, clr_r, clr_n, clr_o, w8_0, w8_1i, w8_1r, w8_2ii, w8_2ri, w8_2ir, w8_2rr, w8_3, beq_self_eq_true, Bool.and_self, Bool.and_true, Bool.true_and, decide_true, Option.toList_some, Option.toList_none, List.cons_append, List.nil_append, Option.bind_some, if_true, if_false, Nat.reduceLeDiff, Nat.reduceLT, Nat.reduceBEq, Bool.or_false, Bool.false_or, Bool.or_true, Bool.true_or, nI_leI, nI_ltI, nI_eq, nI_clamp, inb_n, up_s, up_n, bx_uu, nI_1, ix6, nI_0n, pk_us, pk_un, ge_0n, y13, c0]
    unfold sT
    cases hs : sT (fun to => sT (fun b => sT (ok2C I t lL lG n N k bits a to b) (nb * 10) 0) (n - (a + 1)) (a + 1)) (nb * 10) 0 with
    | some r =>
      rw [hs] at e1
      exact ⟨X1, J1, m1, eh.trans e1.1, e1.2⟩
    | none =>
      rw [hs] at e1
      dsimp only at e1 ⊢
      obtain ⟨X2, J2, m2, e2⟩ := ih (a + 1) X1 J1 m5 m6 (by omega) m1
      rw [e1.2] at e2
      refine ⟨X2, J2, m2, ?_⟩
      rw [eh, e1.1]
      exact e2
end LEO

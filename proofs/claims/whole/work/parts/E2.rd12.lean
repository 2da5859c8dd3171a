-- TEXT, 19: a clock's line, both
theorem C_le {d e : Nat} {M : Mth} {as : List Value} {h : Hp} {r : Rs} (g : C d M as h = some r) : C (d + e) M as h = some r := by
  induction e with
  | zero => exact g
  | succ e ih => exact C_up _ _ _ _ _ ih
/-- clocks that both have read -/
def ckR (X Y : Mem) (s b n : Nat) : Prop := nmR X Y (s + 5) 129 6 n ∧ Y 123 18 = nI n ∧ n ≤ 6 ∧ (∀ i, i < n → (X (s + 7) i = Y 130 (6 + i) ∧ ∃ x, x < b ∧ X (s + 7) i = nI x) ∧ (X (s + 8) i = Y 131 (6 + i) ∧ inN (X (s + 8) i) 0 30) ∧ (X (s + 9) i = Y 132 (6 + i) ∧ inN (X (s + 9) i) 1 9) ∧ (X (s + 10) i = Y 133 (6 + i) ∧ inN (X (s + 10) i) 1 99) ∧ exR X Y s i) ∧ ∀ i, n ≤ i → i < 6 → X (s + 7) i = -1 ∧ X (s + 11) i = 0 ∧ X (s + 12) i = 0 ∧ X (s + 13) i = 500 ∧ X (s + 14) i = 0
/-- what a line of clocks leaves alone -/
def clF (s : Nat) (X X' Y Y' : Mem) : Prop := (∀ c, c ≠ 56 → c ≠ 57 → c < s + 5 ∨ s + 14 < c → X' c = X c) ∧ (∀ k, k ≠ 2 → k ≠ 3 → k ≠ 6 → X' 56 k = X 56 k) ∧ (∀ c, c ≠ 123 → c < 129 ∨ 137 < c → Y' c = Y c) ∧ ∀ k, k < 4 ∨ 11 < k → k ≠ 18 → Y' 123 k = Y 123 k
section CL
variable {X Y : Mem} {J J2 : MemL} {R R2 : MemR} {L p s b n : Nat} {u : Nat → Nat}
theorem nxt_fr {X' Y' : Mem} (o1 : ∀ a, a ≠ 57 → X' a = X a) (o2 : ∀ a, a ≠ 123 → Y' a = Y a) (o3 : ∀ k, k < 7 ∨ 10 < k → Y' 123 k = Y 123 k) : fC s X X' ∧ fM Y Y' := ⟨fun a _ _ h3 _ => o1 a h3, fun a h1 => o2 a (by omega), fun a k h1 h2 _ => by rw [o2 a (by omega)], fun k hk => o3 k (by omega)⟩
theorem ckl_p {d : Nat} (h : psR X Y L u p) (ht : isTe s) (hR : R 56 1 = some s) (hb : bmR X Y s b) (hc : ckR X Y s b n) :
    (∃ X' Y', C (d + 6) MX7_clockLine [.ref 56] (hp X J R) = some (some (.int 0), hp X' J R) ∧ C (d + 5) MX12_clockLine [.ref 123] (hp Y J2 R2) = some (some (.int 0), hp Y' J2 R2) ∧ faR X' Y' ∧ fC s X X' ∧ fM Y Y') ∨
    (∃ X' Y' p', C (d + 6) MX7_clockLine [.ref 56] (hp X J R) = some (some (.int 1), hp X' J R) ∧ C (d + 5) MX12_clockLine [.ref 123] (hp Y J2 R2) = some (some (.int 1), hp Y' J2 R2) ∧ psR X' Y' L u p' ∧ p ≤ p' ∧ ckR X' Y' s b (n + 1) ∧ clF s X X' Y Y' ∧ fC s X X' ∧ fM Y Y') := by
  have ht2 := te_hi ht
  obtain ⟨c1, c2, c3, c4, c5⟩ := hc
  obtain ⟨b1, b2, b3, b4⟩ := hb
  have n1 : ¬ (1 : Int32) = 0 := by decide
  by_cases c6 : n = 6
  · subst c6
    obtain ⟨f1, f2, f3⟩ := ref_p (k := 2) h
    have c1' := c1.1
    refine Or.inl ⟨_, _, ?_, ?_, f1, f2.fc, f3.fm⟩
    · have c0 : ¬ nI 6 < 6 := by decide
      rw [eX7_clockLine]
      simp (disch := omega) only [xX7_clockLine_0, xX7_clockLine_1, xX7_clockLine_4, xX7_clockLine_7, xX7_clockLine_10, xX7_clockLine_11, xX7_clockLine_12, xX7_clockLine_14, xX7_clockLine_17, xX7_clockLine_18, xX7_clockLine_19, xX7_clockLine_22, xX7_clockLine_23, xX7_clockLine_24, xX7_clockLine_27, xX7_clockLine_30, kd_56, fi_56_0, kd_57, te_k0 ht, te_f0_0 ht, te_k1 ht, te_f0_3 ht, te_k5 ht, te_f0_4 ht, te_k7 ht, te_n7 ht, te_f0_5 ht, te_k8 ht, te_n8 ht, te_f0_6 ht, te_k9 ht, te_n9 ht, te_f0_7 ht, te_k10 ht, te_n10 ht, te_k15 ht, kd_56, ↓reduceIte, gd_t, hK_p, hN_p, hF_p, hI_p, hJ_p, hR_p, stI_p, stJ_p, stR_p, stA_p, va_rf_s, va_rf_n, clr_i, clr_l, clr_r, clr_n, clr_o, w8_0, w8_1i, w8_1r, w8_2ii, w8_2ri, w8_2ir, w8_2rr, w8_3, beq_self_eq_true, Bool.and_self, Bool.and_true, Bool.true_and, decide_true, Option.toList_some, Option.toList_none, List.cons_append, List.nil_append, Option.bind_some, if_true, if_false, Nat.reduceLeDiff, Nat.reduceLT, Nat.reduceBEq, Bool.or_false, Bool.false_or, Bool.or_true, Bool.true_or, hR, c1', c0, ref_c, z01]
    · have c0 : nI 6 = 6 := rfl
      rw [eX12_clockLine]
      simp (disch := omega) only [xX12_clockLine_0, xX12_clockLine_1, xX12_clockLine_4, xX12_clockLine_6, xX12_clockLine_9, xX12_clockLine_10, xX12_clockLine_11, xX12_clockLine_14, xX12_clockLine_15, xX12_clockLine_16, xX12_clockLine_19, kd_123, fi_123_23, kd_126, ln_126, fi_123_26, kd_129, ln_129, fi_123_27, kd_130, ln_130, fi_123_28, kd_131, ln_131, fi_123_29, kd_132, ln_132, fi_123_30, kd_133, ln_133, fi_123_31, kd_134, ln_134, fi_123_32, kd_135, ln_135, fi_123_33, kd_136, ln_136, fi_123_34, kd_137, ln_137, kd_123, ↓reduceIte, gd_t, hK_p, hN_p, hF_p, hI_p, hJ_p, hR_p, stI_p, stJ_p, stR_p, stA_p, va_rf_s, va_rf_n, clr_i, clr_l, clr_r, clr_n, clr_o, w8_0, w8_1i, w8_1r, w8_2ii, w8_2ri, w8_2ir, w8_2rr, w8_3, beq_self_eq_true, Bool.and_self, Bool.and_true, Bool.true_and, decide_true, Option.toList_some, Option.toList_none, List.cons_append, List.nil_append, Option.bind_some, if_true, if_false, Nat.reduceLeDiff, Nat.reduceLT, Nat.reduceBEq, Bool.or_false, Bool.false_or, Bool.or_true, Bool.true_or, c2, c0, wro_m, z01, not_true_eq_false]
  · have hn6 : n < 6 := by omega
    have d0 : nI n < 6 := (nI_ltI (a := n) (b := 6) (by omega) (by omega)).mpr hn6
    have d1 : ¬ nI n = 6 := fun q => c6 ((nI_eq (b := 6) (by omega) (by omega)).mp q)
    have hcc : X (s + 5) 1 = nI n := c1.1
    obtain ⟨X1, Y1, p1, e1, g1, s1, -, l1, o1, m1, m1'⟩ := nxt_p (d := d + 1) (J := J) (J2 := J2) (R := R) (R2 := R2) h
    have e1 := C_up _ _ _ _ _ e1
    obtain ⟨fc1, fm1⟩ := nxt_fr (s := s) o1 m1 m1'
    have hn1 : nmR X1 Y1 (s + 5) 129 6 n := ⟨by rw [o1 _ (by omega)]; exact c1.1, fun i hi => by rw [o1 _ (by omega), m1 _ (by omega)]; exact c1.2 i hi⟩
    have y18 : Y1 123 18 = nI n := by rw [m1' 18 (by omega)]; exact c2
    have q6 : nI 6 = 6 := rfl
    have q3 : nI 3 = 3 := rfl
    have q0 : nI 0 = 0 := rfl
    have q6n : (6 : Int32) + nI n = nI (6 + n) := by rw [← q6, nI_add]
    have hN := new_p (d := d) (J := J) (J2 := J2) (R := R) (R2 := R2) s1 ht (Or.inr (Or.inl ⟨rfl, rfl, rfl⟩)) hn1 hn6
    rw [q6] at hN
    rcases hN with ⟨X2, Y2, e2, g2, f1, f2, f3⟩ | ⟨X2, Y2, p2, e2, g2, s2, l2, hn2, o2, m2, m2', m2h⟩
    · have e2 := C_up _ _ _ _ _ e2
      refine Or.inl ⟨X2, Y2, ?_, ?_, f1, fc1.tr f2.fc, fm1.tr f3.fm⟩
      · rw [eX7_clockLine]
        simp (disch := omega) only [xX7_clockLine_0, xX7_clockLine_1, xX7_clockLine_4, xX7_clockLine_7, xX7_clockLine_10, xX7_clockLine_11, xX7_clockLine_12, xX7_clockLine_14, xX7_clockLine_17, xX7_clockLine_18, xX7_clockLine_19, xX7_clockLine_22, xX7_clockLine_23, xX7_clockLine_24, xX7_clockLine_27, xX7_clockLine_30, xX7_clockLine_31, xX7_clockLine_32, xX7_clockLine_35, xX7_clockLine_38, xX7_clockLine_41, xX7_clockLine_44, xX7_clockLine_45, xX7_clockLine_46, xX7_clockLine_49, xX7_clockLine_52, xX7_clockLine_55, xX7_clockLine_58, xX7_clockLine_59, xX7_clockLine_60, kd_56, fi_56_0, kd_57, te_k0 ht, te_f0_0 ht, te_k1 ht, te_f0_3 ht, te_k5 ht, te_f0_4 ht, te_k7 ht, te_n7 ht, te_f0_5 ht, te_k8 ht, te_n8 ht, te_f0_6 ht, te_k9 ht, te_n9 ht, te_f0_7 ht, te_k10 ht, te_n10 ht, te_k15 ht, kd_56, kd_57, te_k5 ht, ↓reduceIte, gd_t, hK_p, hN_p, hF_p, hI_p, hJ_p, hR_p, stI_p, stJ_p, stR_p, stA_p, va_rf_s, va_rf_n, clr_i, clr_l, clr_r, clr_n, clr_o, w8_0, w8_1i, w8_1r, w8_2ii, w8_2ri, w8_2ir, w8_2rr, w8_3, beq_self_eq_true, Bool.and_self, Bool.and_true, Bool.true_and, decide_true, Option.toList_some, Option.toList_none, List.cons_append, List.nil_append, Option.bind_some, if_true, if_false, Nat.reduceLeDiff, Nat.reduceLT, Nat.reduceBEq, Bool.or_false, Bool.false_or, Bool.or_true, Bool.true_or, hR, hcc, d0, e1, e2, z01]
      · rw [eX12_clockLine]
        simp (disch := omega) only [xX12_clockLine_0, xX12_clockLine_1, xX12_clockLine_4, xX12_clockLine_6, xX12_clockLine_9, xX12_clockLine_10, xX12_clockLine_11, xX12_clockLine_14, xX12_clockLine_15, xX12_clockLine_16, xX12_clockLine_19, xX12_clockLine_21, xX12_clockLine_22, xX12_clockLine_25, xX12_clockLine_26, xX12_clockLine_27, xX12_clockLine_28, xX12_clockLine_29, xX12_clockLine_32, xX12_clockLine_34, xX12_clockLine_35, xX12_clockLine_38, xX12_clockLine_41, xX12_clockLine_44, xX12_clockLine_45, xX12_clockLine_46, xX12_clockLine_49, xX12_clockLine_50, xX12_clockLine_51, xX12_clockLine_54, xX12_clockLine_57, xX12_clockLine_60, xX12_clockLine_61, xX12_clockLine_62, kd_123, fi_123_23, kd_126, ln_126, fi_123_26, kd_129, ln_129, fi_123_27, kd_130, ln_130, fi_123_28, kd_131, ln_131, fi_123_29, kd_132, ln_132, fi_123_30, kd_133, ln_133, fi_123_31, kd_134, ln_134, fi_123_32, kd_135, ln_135, fi_123_33, kd_136, ln_136, fi_123_34, kd_137, ln_137, kd_123, kd_129, ↓reduceIte, gd_t, hK_p, hN_p, hF_p, hI_p, hJ_p, hR_p, stI_p, stJ_p, stR_p, stA_p, va_rf_s, va_rf_n, clr_i, clr_l, clr_r, clr_n, clr_o, w8_0, w8_1i, w8_1r, w8_2ii, w8_2ri, w8_2ir, w8_2rr, w8_3, beq_self_eq_true, Bool.and_self, Bool.and_true, Bool.true_and, decide_true, Option.toList_some, Option.toList_none, List.cons_append, List.nil_append, Option.bind_some, if_true, if_false, Nat.reduceLeDiff, Nat.reduceLT, Nat.reduceBEq, Bool.or_false, Bool.false_or, Bool.or_true, Bool.true_or, c2, d1, g1, y18, q6n, g2, z01, not_false_eq_true, not_true_eq_false]
    · have e2 := C_up _ _ _ _ _ e2
      have fc2 : fC s X X2 := fc1.tr (fun a h1 _ h3 _ => o2 a h3 (by omega) (by omega))
      have fm2 : fM Y Y2 := fm1.tr ⟨fun a h1 => m2 a (by omega) (by omega), fun a k h1 h2 hk => by
        by_cases w : a = 129
        · subst w
          exact m2h k hk
        · rw [m2 a (by omega) w], fun k hk => m2' k (by omega)⟩
      have y17 : Y2 123 17 = nI b := by rw [m2' 17 (by omega), m1' 17 (by omega)]; exact b2
      have hnb : nmR X2 Y2 (s + 1) 126 3 b := ⟨by rw [o2 _ (by omega) (by omega) (by omega), o1 _ (by omega)]; exact b1.1, fun i hi => by rw [o2 _ (by omega) (by omega) (by omega), o1 _ (by omega), m2 _ (by omega) (by omega), m1 _ (by omega)]; exact b1.2 i hi⟩
      have hO := old_p (d := d) (J := J) (J2 := J2) (R := R) (R2 := R2) s2 ht (Or.inl ⟨rfl, rfl, rfl⟩) hnb b3
      rw [q3] at hO
      rcases hO with ⟨X3, Y3, e3, g3, f1, f2, f3⟩ | ⟨X3, Y3, p3, xb, e3, g3, s3, l3, xb1, xb2, xb3, f2, f3⟩
      · have e3 := C_up _ _ _ _ _ e3
        refine Or.inl ⟨X3, Y3, ?_, ?_, f1, fc2.tr f2.fc, fm2.tr f3.fm⟩
        · rw [eX7_clockLine]
          simp (disch := omega) only [xX7_clockLine_0, xX7_clockLine_1, xX7_clockLine_4, xX7_clockLine_7, xX7_clockLine_10, xX7_clockLine_11, xX7_clockLine_12, xX7_clockLine_14, xX7_clockLine_17, xX7_clockLine_18, xX7_clockLine_19, xX7_clockLine_22, xX7_clockLine_23, xX7_clockLine_24, xX7_clockLine_27, xX7_clockLine_30, xX7_clockLine_31, xX7_clockLine_32, xX7_clockLine_35, xX7_clockLine_38, xX7_clockLine_41, xX7_clockLine_44, xX7_clockLine_45, xX7_clockLine_46, xX7_clockLine_49, xX7_clockLine_52, xX7_clockLine_55, xX7_clockLine_58, xX7_clockLine_59, xX7_clockLine_60, kd_56, fi_56_0, kd_57, te_k0 ht, te_f0_0 ht, te_k1 ht, te_f0_3 ht, te_k5 ht, te_f0_4 ht, te_k7 ht, te_n7 ht, te_f0_5 ht, te_k8 ht, te_n8 ht, te_f0_6 ht, te_k9 ht, te_n9 ht, te_f0_7 ht, te_k10 ht, te_n10 ht, te_k15 ht, kd_56, kd_57, te_k5 ht, te_k1 ht, ↓reduceIte, gd_t, hK_p, hN_p, hF_p, hI_p, hJ_p, hR_p, stI_p, stJ_p, stR_p, stA_p, va_rf_s, va_rf_n, clr_i, clr_l, clr_r, clr_n, clr_o, w8_0, w8_1i, w8_1r, w8_2ii, w8_2ri, w8_2ir, w8_2rr, w8_3, beq_self_eq_true, Bool.and_self, Bool.and_true, Bool.true_and, decide_true, Option.toList_some, Option.toList_none, List.cons_append, List.nil_append, Option.bind_some, if_true, if_false, Nat.reduceLeDiff, Nat.reduceLT, Nat.reduceBEq, Bool.or_false, Bool.false_or, Bool.or_true, Bool.true_or, hR, hcc, d0, e1, e2, e3, n1, z01, not_true_eq_false]
        · rw [eX12_clockLine]
          simp (disch := omega) only [xX12_clockLine_0, xX12_clockLine_1, xX12_clockLine_4, xX12_clockLine_6, xX12_clockLine_9, xX12_clockLine_10, xX12_clockLine_11, xX12_clockLine_14, xX12_clockLine_15, xX12_clockLine_16, xX12_clockLine_19, xX12_clockLine_21, xX12_clockLine_22, xX12_clockLine_25, xX12_clockLine_26, xX12_clockLine_27, xX12_clockLine_28, xX12_clockLine_29, xX12_clockLine_32, xX12_clockLine_34, xX12_clockLine_35, xX12_clockLine_38, xX12_clockLine_41, xX12_clockLine_44, xX12_clockLine_45, xX12_clockLine_46, xX12_clockLine_49, xX12_clockLine_50, xX12_clockLine_51, xX12_clockLine_54, xX12_clockLine_57, xX12_clockLine_60, xX12_clockLine_61, xX12_clockLine_62, kd_123, fi_123_23, kd_126, ln_126, fi_123_26, kd_129, ln_129, fi_123_27, kd_130, ln_130, fi_123_28, kd_131, ln_131, fi_123_29, kd_132, ln_132, fi_123_30, kd_133, ln_133, fi_123_31, kd_134, ln_134, fi_123_32, kd_135, ln_135, fi_123_33, kd_136, ln_136, fi_123_34, kd_137, ln_137, kd_123, kd_129, kd_126, ↓reduceIte, gd_t, hK_p, hN_p, hF_p, hI_p, hJ_p, hR_p, stI_p, stJ_p, stR_p, stA_p, va_rf_s, va_rf_n, clr_i, clr_l, clr_r, clr_n, clr_o, w8_0, w8_1i, w8_1r, w8_2ii, w8_2ri, w8_2ir, w8_2rr, w8_3, beq_self_eq_true, Bool.and_self, Bool.and_true, Bool.true_and, decide_true, Option.toList_some, Option.toList_none, List.cons_append, List.nil_append, Option.bind_some, if_true, if_false, Nat.reduceLeDiff, Nat.reduceLT, Nat.reduceBEq, Bool.or_false, Bool.false_or, Bool.or_true, Bool.true_or, c2, d1, g1, y18, q6n, g2, y17, g3, n1, z01, not_false_eq_true, not_true_eq_false]
      · have e3 := C_up _ _ _ _ _ e3
        generalize hY4 : va_up Y3 130 (upd (Y3 130) (6 + n) (nI xb)) = Y4
        have y4o : ∀ c, c ≠ 130 → Y4 c = Y3 c := fun c hc => by rw [← hY4, up_n hc]
        have fc3 : fC s X X3 := fc2.tr f2.fc
        have fm4 : fM Y Y4 := (fm2.tr f3.fm).tr (by rw [← hY4]; exact fM_up (by omega) (by omega) (Nat.le_add_right 6 n))
        have s4 : psR X3 Y4 L u p3 := psR_m s3 (y4o 124 (by omega)) (y4o 125 (by omega)) (fun k _ _ => by rw [y4o 123 (by omega)])
        have x3o : ∀ c, c ≠ 56 → c ≠ 57 → c ≠ s + 5 → c ≠ s + 6 → X3 c = X c := fun c h1 h2 h3 h4 => by rw [f2.1 c h1 h2, o2 c h2 h3 (by omega), o1 c h2]
        have y3o : ∀ c, c ≠ 123 → c ≠ 129 → Y3 c = Y c := fun c h1 h2 => by rw [f3.1 c h1, m2 c h1 h2, m1 c h1]
        have hT : ∀ i, i < 6 → X3 (s + 7) (0 + i) = -1 ∨ inN (X3 (s + 8) (0 + i)) 0 30 := by
          intro i hi
          rw [Nat.zero_add, x3o _ (by omega) (by omega) (by omega) (by omega), x3o _ (by omega) (by omega) (by omega) (by omega)]
          rcases Nat.lt_or_ge i n with w | w
          · exact Or.inr (c4 i w).2.1.2
          · exact Or.inl (c5 i w hi).1
        have hF := fpl_p (d := d) (J := J) (J2 := J2) (R := R) (R2 := R2) (a := s + 7) (b := s + 8) (fr := 0) (la := 6) (lb := 6) (xb := xb) s4 (te_k7 ht) (te_k8 ht) (te_n7 ht) (te_n8 ht) (by omega) (by omega) (by omega) (by omega) (by omega) hT
        rw [q0] at hF
        -- what the model does up to its number, and the class up to its place
        have hcl : C (d + 6) MX7_clockLine [.ref 56] (hp X J R) = (C (d + 5) MX7_freePlace [.ref 56, .ref (s + 7), .ref (s + 8), .int 0, .int (nI xb)] (hp X3 J R)).bind fun r => E (C (d + 5)) MX7_clockLine 85 [some (.ref 56), some (.int (nI n)), some (.int (nI xb))] (r.1.toList ++ []) r.2 := by
          rw [eX7_clockLine]
          simp (disch := omega) only [xX7_clockLine_0, xX7_clockLine_1, xX7_clockLine_4, xX7_clockLine_7, xX7_clockLine_10, xX7_clockLine_11, xX7_clockLine_12, xX7_clockLine_14, xX7_clockLine_17, xX7_clockLine_18, xX7_clockLine_19, xX7_clockLine_22, xX7_clockLine_23, xX7_clockLine_24, xX7_clockLine_27, xX7_clockLine_30, xX7_clockLine_31, xX7_clockLine_32, xX7_clockLine_35, xX7_clockLine_38, xX7_clockLine_41, xX7_clockLine_44, xX7_clockLine_45, xX7_clockLine_46, xX7_clockLine_49, xX7_clockLine_52, xX7_clockLine_55, xX7_clockLine_58, xX7_clockLine_59, xX7_clockLine_60, xX7_clockLine_61, xX7_clockLine_64, xX7_clockLine_65, xX7_clockLine_66, xX7_clockLine_67, xX7_clockLine_70, xX7_clockLine_73, xX7_clockLine_74, xX7_clockLine_77, xX7_clockLine_80, xX7_clockLine_81, xX7_clockLine_82, kd_56, fi_56_0, kd_57, te_k0 ht, te_f0_0 ht, te_k1 ht, te_f0_3 ht, te_k5 ht, te_f0_4 ht, te_k7 ht, te_n7 ht, te_f0_5 ht, te_k8 ht, te_n8 ht, te_f0_6 ht, te_k9 ht, te_n9 ht, te_f0_7 ht, te_k10 ht, te_n10 ht, te_k15 ht, kd_56, kd_57, te_k5 ht, te_k1 ht, w8_4, ↓reduceIte, gd_t, hK_p, hN_p, hF_p, hI_p, hJ_p, hR_p, stI_p, stJ_p, stR_p, stA_p, va_rf_s, va_rf_n, clr_i, clr_l, clr_r, clr_n, clr_o, w8_0, w8_1i, w8_1r, w8_2ii, w8_2ri, w8_2ir, w8_2rr, w8_3, beq_self_eq_true, Bool.and_self, Bool.and_true, Bool.true_and, decide_true, Option.toList_some, Option.toList_none, List.cons_append, List.nil_append, Option.bind_some, if_true, if_false, Nat.reduceLeDiff, Nat.reduceLT, Nat.reduceBEq, Bool.or_false, Bool.false_or, Bool.or_true, Bool.true_or, hR, hcc, d0, e1, e2, e3, xb2, n1, not_false_eq_true]
        have hmo : C (d + 5) MX12_clockLine [.ref 123] (hp Y J2 R2) = (C (d + 4) MX12_number [.ref 123, .int 0, .int 30] (hp Y4 J2 R2)).bind fun r => E (C (d + 4)) MX12_clockLine 84 [some (.ref 123), some (.int (nI (6 + n))), some (.int (Y4 123 10)), none, none] (r.1.toList ++ []) r.2 := by
          rw [eX12_clockLine]
          simp (disch := omega) only [xX12_clockLine_0, xX12_clockLine_1, xX12_clockLine_4, xX12_clockLine_6, xX12_clockLine_9, xX12_clockLine_10, xX12_clockLine_11, xX12_clockLine_14, xX12_clockLine_15, xX12_clockLine_16, xX12_clockLine_19, xX12_clockLine_21, xX12_clockLine_22, xX12_clockLine_25, xX12_clockLine_26, xX12_clockLine_27, xX12_clockLine_28, xX12_clockLine_29, xX12_clockLine_32, xX12_clockLine_34, xX12_clockLine_35, xX12_clockLine_38, xX12_clockLine_41, xX12_clockLine_44, xX12_clockLine_45, xX12_clockLine_46, xX12_clockLine_49, xX12_clockLine_50, xX12_clockLine_51, xX12_clockLine_54, xX12_clockLine_57, xX12_clockLine_60, xX12_clockLine_61, xX12_clockLine_62, xX12_clockLine_63, xX12_clockLine_66, xX12_clockLine_67, xX12_clockLine_68, xX12_clockLine_71, xX12_clockLine_72, xX12_clockLine_73, xX12_clockLine_76, xX12_clockLine_77, xX12_clockLine_78, xX12_clockLine_79, xX12_clockLine_81, kd_123, fi_123_23, kd_126, ln_126, fi_123_26, kd_129, ln_129, fi_123_27, kd_130, ln_130, fi_123_28, kd_131, ln_131, fi_123_29, kd_132, ln_132, fi_123_30, kd_133, ln_133, fi_123_31, kd_134, ln_134, fi_123_32, kd_135, ln_135, fi_123_33, kd_136, ln_136, fi_123_34, kd_137, ln_137, kd_123, kd_129, kd_126, kd_130, ln_130, ↓reduceIte, gd_t, hK_p, hN_p, hF_p, hI_p, hJ_p, hR_p, stI_p, stJ_p, stR_p, stA_p, va_rf_s, va_rf_n, clr_i, clr_l, clr_r, clr_n, clr_o, w8_0, w8_1i, w8_1r, w8_2ii, w8_2ri, w8_2ir, w8_2rr, w8_3, beq_self_eq_true, Bool.and_self, Bool.and_true, Bool.true_and, decide_true, Option.toList_some, Option.toList_none, List.cons_append, List.nil_append, Option.bind_some, if_true, if_false, Nat.reduceLeDiff, Nat.reduceLT, Nat.reduceBEq, Bool.or_false, Bool.false_or, Bool.or_true, Bool.true_or, inb_n, nI_clamp, c2, d1, g1, y18, q6n, g2, y17, g3, xb3, hY4, n1, not_false_eq_true]
        rcases hF with ⟨X5, Y5, e5, g5, f1, f4, f5⟩ | ⟨X5, Y5, v, e5, g5, f4, f5, v1, v2, v3, v4, v5⟩ | ⟨X5, Y5, p5, v, e5, g5, s5, l5, f4, f5, v1, v2, v3, v4⟩
        · refine Or.inl ⟨X5, Y5, ?_, ?_, f1, fc3.tr f4.fc, fm4.tr f5.fm⟩
          · rw [hcl, e5]
            simp only [xX7_clockLine_85, xX7_clockLine_88, xX7_clockLine_89, ↓reduceIte, gd_t, hK_p, hN_p, hF_p, hI_p, hJ_p, hR_p, stI_p, stJ_p, stR_p, stA_p, va_rf_s, va_rf_n, clr_i, clr_l, clr_r, clr_n, clr_o, w8_0, w8_1i, w8_1r, w8_2ii, w8_2ri, w8_2ir, w8_2rr, w8_3, beq_self_eq_true, Bool.and_self, Bool.and_true, Bool.true_and, decide_true, Option.toList_some, Option.toList_none, List.cons_append, List.nil_append, Option.bind_some, if_true, if_false, Nat.reduceLeDiff, Nat.reduceLT, Nat.reduceBEq, Bool.or_false, Bool.false_or, Bool.or_true, Bool.true_or, z01, not_true_eq_false]
          · rw [hmo, g5]
            simp only [xX12_clockLine_84, xX12_clockLine_87, xX12_clockLine_88, ↓reduceIte, gd_t, hK_p, hN_p, hF_p, hI_p, hJ_p, hR_p, stI_p, stJ_p, stR_p, stA_p, va_rf_s, va_rf_n, clr_i, clr_l, clr_r, clr_n, clr_o, w8_0, w8_1i, w8_1r, w8_2ii, w8_2ri, w8_2ir, w8_2rr, w8_3, beq_self_eq_true, Bool.and_self, Bool.and_true, Bool.true_and, decide_true, Option.toList_some, Option.toList_none, List.cons_append, List.nil_append, Option.bind_some, if_true, if_false, Nat.reduceLeDiff, Nat.reduceLT, Nat.reduceBEq, Bool.or_false, Bool.false_or, Bool.or_true, Bool.true_or, z01, not_true_eq_false]
        · -- taken
          generalize hY6 : va_up Y5 131 (upd (Y5 131) (6 + n) (nI v)) = Y6
          have y6o : ∀ c, c ≠ 131 → Y6 c = Y5 c := fun c hc => by rw [← hY6, up_n hc]
          have fm6 : fM Y Y6 := (fm4.tr f5.fm).tr (by rw [← hY6]; exact fM_up (by omega) (by omega) (Nat.le_add_right 6 n))
          have hsr : ¬ (srF (fun i (_ : Unit) => tkP (fun i => Y6 130 (6 + i)) (fun i => Y6 131 (6 + i)) (Y6 130 (6 + n)) (Y6 123 11) i) (fun _ s => s) n 0 ()).1 = none := by
            intro q
            obtain ⟨i, i1, i2, i3⟩ := v3
            rw [Nat.zero_add, x3o _ (by omega) (by omega) (by omega) (by omega)] at i2
            rw [Nat.zero_add, x3o _ (by omega) (by omega) (by omega) (by omega)] at i3
            have hin : i < n := by
              rcases Nat.lt_or_ge i n with w | w
              · exact w
              · rw [(c5 i w i1).1] at i2
                exact absurd i2 (nI_nm (j := xb) (by omega))
            have hq := sr_none.mp q i (by omega) (by omega)
            have hy130 : Y6 130 = upd (Y 130) (6 + n) (nI xb) := by rw [y6o _ (by omega), f5.1 _ (by omega), ← hY4, up_s, y3o _ (by omega) (by omega)]
            have hy131 : Y6 131 = upd (Y 131) (6 + n) (nI v) := by rw [← hY6, up_s, f5.1 _ (by omega), y4o _ (by omega), y3o _ (by omega) (by omega)]
            rw [tkP_t.mpr ⟨?_, ?_⟩] at hq
            · exact absurd hq (by decide)
            · try dsimp only
              rw [hy130, pk_un (by omega), pk_us, ← i2]
              exact ((c4 i hin).1.1).symm
            · try dsimp only
              rw [hy131, pk_un (by omega), y6o 123 (by omega), v2, ← i3]
              exact ((c4 i hin).2.1.1).symm
          refine Or.inl ⟨X5, va_up Y6 123 (upd (upd (upd (Y6 123) 10 (Y4 123 10)) 4 5) 5 (Y4 123 10)), ?_, ?_, ⟨?_, ?_⟩, fc3.tr f4.fc, fm6.tr ⟨fun a h1 => up_n (by omega), fun a k h1 h2 _ => by rw [up_n (by omega)], fun k hk => by rw [up_s, pk_un (by omega), pk_un (by omega), pk_un (by omega)]⟩⟩
          · rw [hcl, e5]
            simp only [xX7_clockLine_85, xX7_clockLine_88, xX7_clockLine_89, ↓reduceIte, gd_t, hK_p, hN_p, hF_p, hI_p, hJ_p, hR_p, stI_p, stJ_p, stR_p, stA_p, va_rf_s, va_rf_n, clr_i, clr_l, clr_r, clr_n, clr_o, w8_0, w8_1i, w8_1r, w8_2ii, w8_2ri, w8_2ir, w8_2rr, w8_3, beq_self_eq_true, Bool.and_self, Bool.and_true, Bool.true_and, decide_true, Option.toList_some, Option.toList_none, List.cons_append, List.nil_append, Option.bind_some, if_true, if_false, Nat.reduceLeDiff, Nat.reduceLT, Nat.reduceBEq, Bool.or_false, Bool.false_or, Bool.or_true, Bool.true_or, z01, not_true_eq_false]
          · rw [hmo, g5]
            have := ckl_m (d := d + 3) (Y := Y6) (J2 := J2) (R2 := R2) (at1 := Y4 123 10) (l4 := none) hn6
            rw [if_neg hsr] at this
            rw [← this]
            simp (disch := omega) only [xX12_clockLine_84, xX12_clockLine_87, xX12_clockLine_88, xX12_clockLine_89, xX12_clockLine_90, xX12_clockLine_93, xX12_clockLine_94, xX12_clockLine_95, xX12_clockLine_98, xX12_clockLine_99, xX12_clockLine_101, kd_123, fi_123_23, kd_126, ln_126, fi_123_26, kd_129, ln_129, fi_123_27, kd_130, ln_130, fi_123_28, kd_131, ln_131, fi_123_29, kd_132, ln_132, fi_123_30, kd_133, ln_133, fi_123_31, kd_134, ln_134, fi_123_32, kd_135, ln_135, fi_123_33, kd_136, ln_136, fi_123_34, kd_137, ln_137, kd_131, ln_131, ↓reduceIte, gd_t, hK_p, hN_p, hF_p, hI_p, hJ_p, hR_p, stI_p, stJ_p, stR_p, stA_p, va_rf_s, va_rf_n, clr_i, clr_l, clr_r, clr_n, clr_o, w8_0, w8_1i, w8_1r, w8_2ii, w8_2ri, w8_2ir, w8_2rr, w8_3, beq_self_eq_true, Bool.and_self, Bool.and_true, Bool.true_and, decide_true, Option.toList_some, Option.toList_none, List.cons_append, List.nil_append, Option.bind_some, if_true, if_false, Nat.reduceLeDiff, Nat.reduceLT, Nat.reduceBEq, Bool.or_false, Bool.false_or, Bool.or_true, Bool.true_or, inb_n, nI_clamp, v2, hY6, n1, not_false_eq_true]
          · rw [up_s, pk_un (by decide), pk_us, v4]
          · rw [up_s, pk_us, v5]
        · -- free
          generalize hY6 : va_up Y5 131 (upd (Y5 131) (6 + n) (nI v)) = Y6
          have y6o : ∀ c, c ≠ 131 → Y6 c = Y5 c := fun c hc => by rw [← hY6, up_n hc]
          generalize hX6 : va_up (va_up X5 (s + 7) (upd (X5 (s + 7)) n (nI xb))) (s + 8) (upd (X5 (s + 8)) n (nI v)) = X6
          have x6o : ∀ c, c ≠ s + 7 → c ≠ s + 8 → X6 c = X5 c := fun c h1 h2 => by rw [← hX6, up_n h2, up_n h1]
          have fm6 : fM Y Y6 := (fm4.tr f5.fm).tr (by rw [← hY6]; exact fM_up (by omega) (by omega) (Nat.le_add_right 6 n))
          have fc6 : fC s X X6 := (fc3.tr f4.fc).tr (fun a h1 _ _ _ => x6o a (by omega) (by omega))
          have hy130 : Y6 130 = upd (Y 130) (6 + n) (nI xb) := by rw [y6o _ (by omega), f5.1 _ (by omega), ← hY4, up_s, y3o _ (by omega) (by omega)]
          have hy131 : Y6 131 = upd (Y 131) (6 + n) (nI v) := by rw [← hY6, up_s, f5.1 _ (by omega), y4o _ (by omega), y3o _ (by omega) (by omega)]
          have hx7 : X6 (s + 7) = upd (X (s + 7)) n (nI xb) := by rw [← hX6, up_n (by omega), up_s, f4.1 _ (by omega) (by omega), x3o _ (by omega) (by omega) (by omega) (by omega)]
          have hx8 : X6 (s + 8) = upd (X (s + 8)) n (nI v) := by rw [← hX6, up_s, f4.1 _ (by omega) (by omega), x3o _ (by omega) (by omega) (by omega) (by omega)]
          have hx : ∀ c, c ≠ 56 → c ≠ 57 → c ≠ s + 5 → c ≠ s + 6 → c ≠ s + 7 → c ≠ s + 8 → X6 c = X c := fun c h1 h2 h3 h4 h5 h6 => by rw [x6o c h5 h6, f4.1 c h1 h2, x3o c h1 h2 h3 h4]
          have hy : ∀ c, c ≠ 123 → c ≠ 129 → c ≠ 130 → c ≠ 131 → Y6 c = Y c := fun c h1 h2 h3 h4 => by rw [y6o c h4, f5.1 c h1, y4o c h3, y3o c h1 h2]
          have hsr : (srF (fun i (_ : Unit) => tkP (fun i => Y6 130 (6 + i)) (fun i => Y6 131 (6 + i)) (Y6 130 (6 + n)) (Y6 123 11) i) (fun _ s => s) n 0 ()).1 = none := by
            refine sr_none.mpr (fun i _ h2 => ?_)
            rw [← Bool.not_eq_true]
            intro q
            obtain ⟨q1, q2⟩ := tkP_t.mp q
            try dsimp only at q1 q2
            have hin : i < n := by omega
            rw [hy130, pk_un (by omega), pk_us, ← (c4 i hin).1.1] at q1
            rw [hy131, pk_un (by omega), y6o 123 (by omega), v3, ← (c4 i hin).2.1.1] at q2
            refine v4 ⟨i, by omega, ?_, ?_⟩
            · rw [Nat.zero_add, x3o _ (by omega) (by omega) (by omega) (by omega)]; exact q1
            · rw [Nat.zero_add, x3o _ (by omega) (by omega) (by omega) (by omega)]; exact q2
          have s6 : psR X6 Y6 L u p5 := psR_m (psR_c s5 (fun c hc => x6o c (by omega) (by omega)) (fun k _ => by rw [x6o 56 (by omega) (by omega)])) (y6o 124 (by omega)) (y6o 125 (by omega)) (fun k _ _ => by rw [y6o 123 (by omega)])
          have y618 : Y6 123 18 = nI n := by rw [y6o 123 (by omega), f5.2 18 (by omega), y4o 123 (by omega), f3.2 18 (by omega), m2' 18 (by omega)]; exact y18
          obtain ⟨a7, a11, a12, a13, a14⟩ := c5 n (Nat.le_refl n) hn6
          have hB := ckb_p (d := d) (J := J) (J2 := J2) (R := R) (R2 := R2) (x := nI xb) (at1 := Y4 123 10) (l3 := some (.int (nI (6 + n)))) (l4 := none) s6 hn6 ht hR y618 (by rw [hx _ (by omega) (by omega) (by omega) (by omega) (by omega) (by omega)]; exact a11) (by rw [hx _ (by omega) (by omega) (by omega) (by omega) (by omega) (by omega)]; exact a12) (by rw [hx _ (by omega) (by omega) (by omega) (by omega) (by omega) (by omega)]; exact a13) (by rw [hx _ (by omega) (by omega) (by omega) (by omega) (by omega) (by omega)]; exact a14)
          have ec : C (d + 6) MX7_clockLine [.ref 56] (hp X J R) = E (C (d + 5)) MX7_clockLine 113 [some (.ref 56), some (.int (nI n)), some (.int (nI xb))] [] (hp X6 J R) := by
            have n78 : s + 8 ≠ s + 7 := by omega
            rw [hcl, e5]
            simp (disch := omega) only [xX7_clockLine_85, xX7_clockLine_88, xX7_clockLine_89, xX7_clockLine_90, xX7_clockLine_91, xX7_clockLine_94, xX7_clockLine_97, xX7_clockLine_98, xX7_clockLine_99, xX7_clockLine_100, xX7_clockLine_101, xX7_clockLine_104, xX7_clockLine_107, xX7_clockLine_108, xX7_clockLine_109, xX7_clockLine_112, kd_56, fi_56_0, kd_57, te_k0 ht, te_f0_0 ht, te_k1 ht, te_f0_3 ht, te_k5 ht, te_f0_4 ht, te_k7 ht, te_n7 ht, te_f0_5 ht, te_k8 ht, te_n8 ht, te_f0_6 ht, te_k9 ht, te_n9 ht, te_f0_7 ht, te_k10 ht, te_n10 ht, te_k15 ht, kd_56, ↓reduceIte, gd_t, hK_p, hN_p, hF_p, hI_p, hJ_p, hR_p, stI_p, stJ_p, stR_p, stA_p, va_rf_s, va_rf_n, clr_i, clr_l, clr_r, clr_n, clr_o, w8_0, w8_1i, w8_1r, w8_2ii, w8_2ri, w8_2ir, w8_2rr, w8_3, beq_self_eq_true, Bool.and_self, Bool.and_true, Bool.true_and, decide_true, Option.toList_some, Option.toList_none, List.cons_append, List.nil_append, Option.bind_some, if_true, if_false, Nat.reduceLeDiff, Nat.reduceLT, Nat.reduceBEq, Bool.or_false, Bool.false_or, Bool.or_true, Bool.true_or, inb_n, nI_clamp, hR, up_n, n78, v2, hX6, n1, not_false_eq_true, ne_eq]
          have em : C (d + 5) MX12_clockLine [.ref 123] (hp Y J2 R2) = E (C (d + 4)) MX12_clockLine 155 [some (.ref 123), some (.int (nI (6 + n))), some (.int (Y4 123 10)), some (.int (nI (6 + n))), none] [] (hp Y6 J2 R2) := by
            rw [hmo, g5]
            have := ckl_m (d := d + 3) (Y := Y6) (J2 := J2) (R2 := R2) (at1 := Y4 123 10) (l4 := none) hn6
            rw [if_pos hsr] at this
            rw [← this]
            simp (disch := omega) only [xX12_clockLine_84, xX12_clockLine_87, xX12_clockLine_88, xX12_clockLine_89, xX12_clockLine_90, xX12_clockLine_93, xX12_clockLine_94, xX12_clockLine_95, xX12_clockLine_98, xX12_clockLine_99, xX12_clockLine_101, kd_123, fi_123_23, kd_126, ln_126, fi_123_26, kd_129, ln_129, fi_123_27, kd_130, ln_130, fi_123_28, kd_131, ln_131, fi_123_29, kd_132, ln_132, fi_123_30, kd_133, ln_133, fi_123_31, kd_134, ln_134, fi_123_32, kd_135, ln_135, fi_123_33, kd_136, ln_136, fi_123_34, kd_137, ln_137, kd_131, ln_131, ↓reduceIte, gd_t, hK_p, hN_p, hF_p, hI_p, hJ_p, hR_p, stI_p, stJ_p, stR_p, stA_p, va_rf_s, va_rf_n, clr_i, clr_l, clr_r, clr_n, clr_o, w8_0, w8_1i, w8_1r, w8_2ii, w8_2ri, w8_2ir, w8_2rr, w8_3, beq_self_eq_true, Bool.and_self, Bool.and_true, Bool.true_and, decide_true, Option.toList_some, Option.toList_none, List.cons_append, List.nil_append, Option.bind_some, if_true, if_false, Nat.reduceLeDiff, Nat.reduceLT, Nat.reduceBEq, Bool.or_false, Bool.false_or, Bool.or_true, Bool.true_or, inb_n, nI_clamp, v3, hY6, n1, not_false_eq_true]
          rw [ec, em]
          rcases hB with ⟨X', Y', z1, z2, z3, z4⟩ | ⟨X', Y', p', z1, z2, z3, z4, z5, z6, z7, z8, z9⟩
          · exact Or.inl ⟨X', Y', z1, z2, z3, fc6.tr z4.fc, fm6.tr z4.fm⟩
          · have fc' := fc6.tr z9.fc
            have fm' := fm6.tr z9.fm
            obtain ⟨k1, k2, k3, k4, k5, k6⟩ := z9
            refine Or.inr ⟨X', Y', p', z1, z2, z3, by omega, ⟨⟨?_, fun i hi => ?_⟩, z8, by omega, fun i hi => ?_, fun i h1 h2 => ?_⟩, ⟨fun c h1 h2 h3 => ?_, fun k h1 h2 h3 => ?_, fun c h1 h2 => ?_, fun k h1 h2 => ?_⟩, fc', fm'⟩
            · rw [k1 _ (by omega) (by omega) (by omega), x6o _ (by omega) (by omega), f4.1 _ (by omega) (by omega), f2.1 _ (by omega) (by omega)]; exact hn2.1
            · rw [k1 _ (by omega) (by omega) (by omega), x6o _ (by omega) (by omega), f4.1 _ (by omega) (by omega), f2.1 _ (by omega) (by omega), k4 _ (by omega) (by omega), y6o _ (by omega), f5.1 _ (by omega), y4o _ (by omega), f3.1 _ (by omega)]; exact hn2.2 i hi
            · rw [k1 (s + 7) (by omega) (by omega) (by omega), k1 (s + 8) (by omega) (by omega) (by omega), k4 130 (by omega) (by omega), k4 131 (by omega) (by omega), hx7, hx8, hy130, hy131]
              by_cases w : i = n
              · subst w
                rw [pk_us, pk_us, pk_us, pk_us]
                exact ⟨⟨rfl, xb, xb1, rfl⟩, ⟨rfl, v, by omega, v1, rfl⟩, z5, z6, z7⟩
              · rw [pk_un w, pk_un w, pk_un (by omega), pk_un (by omega)]
                obtain ⟨r1, r2, r3, r4, r5⟩ := c4 i (by omega)
                refine ⟨r1, r2, ?_, ?_, ?_⟩
                · rw [k2 _ _ (by omega) (by omega) w, k5 _ _ (by omega) (by omega) (by omega), hx _ (by omega) (by omega) (by omega) (by omega) (by omega) (by omega), hy _ (by omega) (by omega) (by omega) (by omega)]; exact r3
                · rw [k2 _ _ (by omega) (by omega) w, k5 _ _ (by omega) (by omega) (by omega), hx _ (by omega) (by omega) (by omega) (by omega) (by omega) (by omega), hy _ (by omega) (by omega) (by omega) (by omega)]; exact r4
                · unfold exR at r5 ⊢
                  rw [k2 (s + 11) _ (by omega) (by omega) w, k2 (s + 12) _ (by omega) (by omega) w, k2 (s + 13) _ (by omega) (by omega) w, k2 (s + 14) _ (by omega) (by omega) w, k5 134 _ (by omega) (by omega) (by omega), k5 135 _ (by omega) (by omega) (by omega), k5 136 _ (by omega) (by omega) (by omega), k5 137 _ (by omega) (by omega) (by omega), hx (s + 11) (by omega) (by omega) (by omega) (by omega) (by omega) (by omega), hx (s + 12) (by omega) (by omega) (by omega) (by omega) (by omega) (by omega), hx (s + 13) (by omega) (by omega) (by omega) (by omega) (by omega) (by omega), hx (s + 14) (by omega) (by omega) (by omega) (by omega) (by omega) (by omega), hy 134 (by omega) (by omega) (by omega) (by omega), hy 135 (by omega) (by omega) (by omega) (by omega), hy 136 (by omega) (by omega) (by omega) (by omega), hy 137 (by omega) (by omega) (by omega) (by omega)]
                  exact r5
            · have w : i ≠ n := by omega
              rw [k1 (s + 7) (by omega) (by omega) (by omega), hx7, pk_un w, k2 (s + 11) _ (by omega) (by omega) w, k2 (s + 12) _ (by omega) (by omega) w, k2 (s + 13) _ (by omega) (by omega) w, k2 (s + 14) _ (by omega) (by omega) w, hx (s + 11) (by omega) (by omega) (by omega) (by omega) (by omega) (by omega), hx (s + 12) (by omega) (by omega) (by omega) (by omega) (by omega) (by omega), hx (s + 13) (by omega) (by omega) (by omega) (by omega) (by omega) (by omega), hx (s + 14) (by omega) (by omega) (by omega) (by omega) (by omega) (by omega)]
              exact c5 i (by omega) h2
            · rw [k1 c h1 h2 (by omega), hx c h1 h2 (by omega) (by omega) (by omega) (by omega)]
            · rw [k3 k h1 h2 h3, x6o 56 (by omega) (by omega), f4.2 k h1 h2 h3, f2.2 k h1 h2 h3, o2 56 (by omega) (by omega) (by omega), o1 56 (by omega)]
            · rw [k4 c h1 (by omega), hy c h1 (by omega) (by omega) (by omega)]
            · rw [k6 k h1 h2, y6o 123 (by omega), f5.2 k h1, y4o 123 (by omega), f3.2 k h1, m2' k (by omega), m1' k (by omega)]
end CL

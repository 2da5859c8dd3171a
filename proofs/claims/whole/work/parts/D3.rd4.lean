-- TEXT, 11: a free place
def tkn (I : Mem) (a b fr : Nat) (x y : Int32) : Prop := ∃ i, i < 6 ∧ I a (fr + i) = x ∧ I b (fr + i) = y
theorem tkP_t {b p : Nat → Int32} {x y : Int32} {i : Nat} : tkP b p x y i = true ↔ b i = x ∧ p i = y := by
  unfold tkP
  rw [Bool.and_eq_true, decide_eq_true_eq, decide_eq_true_eq]
section FP
variable {X Y : Mem} {J J2 : MemL} {R R2 : MemR} {L p : Nat} {u : Nat → Nat}
theorem tak_y {d a b fr la lb : Nat} {x y : Int32} (ka : kd0 a = 14) (kb : kd0 b = 14) (na : ln0 a = la) (nb : ln0 b = lb) (ha : fr + 6 ≤ la) (hb : fr + 6 ≤ lb) (ha2 : la < 2 ^ 20) (hb2 : lb < 2 ^ 20) (hy : tkn X a b fr x y) : C (d + 1) MX11_isTaken [.ref a, .ref b, .int (nI fr), .int x, .int y] (hp X J R) = some (some (.int 1), hp X J R) := by
  rw [tak_c ka kb na nb ha hb ha2 hb2, if_neg]
  intro q
  obtain ⟨i, i1, i2, i3⟩ := hy
  have := sr_none.mp q i (by omega) (by omega)
  rw [(tkP_t (b := fun i => X a (fr + i)) (p := fun i => X b (fr + i))).mpr ⟨i2, i3⟩] at this
  exact absurd this (by decide)
theorem tak_n {d a b fr la lb : Nat} {x y : Int32} (ka : kd0 a = 14) (kb : kd0 b = 14) (na : ln0 a = la) (nb : ln0 b = lb) (ha : fr + 6 ≤ la) (hb : fr + 6 ≤ lb) (ha2 : la < 2 ^ 20) (hb2 : lb < 2 ^ 20) (hy : ¬ tkn X a b fr x y) : C (d + 1) MX11_isTaken [.ref a, .ref b, .int (nI fr), .int x, .int y] (hp X J R) = some (some (.int 0), hp X J R) := by
  rw [tak_c ka kb na nb ha hb ha2 hb2, if_pos]
  refine sr_none.mpr (fun i _ h2 => ?_)
  rw [← Bool.not_eq_true]
  intro q
  obtain ⟨q1, q2⟩ := tkP_t.mp q
  exact hy ⟨i, by omega, q1, q2⟩
theorem fpl_p {d a b fr la lb xb : Nat} (h : psR X Y L u p) (ka : kd0 a = 14) (kb : kd0 b = 14) (na : ln0 a = la) (nb : ln0 b = lb) (ha : fr + 6 ≤ la) (hb : fr + 6 ≤ lb) (ha2 : la < 2 ^ 20) (hb2 : lb < 2 ^ 20) (hx : xb < 3) (hT : ∀ i, i < 6 → X a (fr + i) = -1 ∨ inN (X b (fr + i)) 0 30) :
    (∃ X' Y', C (d + 5) MX7_freePlace [.ref 56, .ref a, .ref b, .int (nI fr), .int (nI xb)] (hp X J R) = some (some (.int 0), hp X' J R) ∧ C (d + 4) MX12_number [.ref 123, .int 0, .int 30] (hp Y J2 R2) = some (some (.int 0), hp Y' J2 R2) ∧ faR X' Y' ∧ cF X X' ∧ mF Y Y') ∨
    (∃ X' Y' v, C (d + 5) MX7_freePlace [.ref 56, .ref a, .ref b, .int (nI fr), .int (nI xb)] (hp X J R) = some (some (.int 0), hp X' J R) ∧ C (d + 4) MX12_number [.ref 123, .int 0, .int 30] (hp Y J2 R2) = some (some (.int 1), hp Y' J2 R2) ∧ cF X X' ∧ mF Y Y' ∧ v ≤ 30 ∧ Y' 123 11 = nI v ∧ tkn X a b fr (nI xb) (nI v) ∧ X' 56 2 = 5 ∧ X' 56 3 = Y 123 10) ∨
    (∃ X' Y' p' v, C (d + 5) MX7_freePlace [.ref 56, .ref a, .ref b, .int (nI fr), .int (nI xb)] (hp X J R) = some (some (.int 1), hp X' J R) ∧ C (d + 4) MX12_number [.ref 123, .int 0, .int 30] (hp Y J2 R2) = some (some (.int 1), hp Y' J2 R2) ∧ psR X' Y' L u p' ∧ p ≤ p' ∧ cF X X' ∧ mF Y Y' ∧ v ≤ 30 ∧ X' 56 6 = nI v ∧ Y' 123 11 = nI v ∧ ¬ tkn X a b fr (nI xb) (nI v)) := by
  have n1 : ¬ (1 : Int32) = 0 := by decide
  have q0 : nI 0 = 0 := rfl
  have q30 : nI 30 = 30 := rfl
  have hN := num_p (d := d) (J := J) (J2 := J2) (R := R) (R2 := R2) (lo := 0) (hi := 30) h (by omega) (by omega)
  rw [q0, q30] at hN
  rcases hN with ⟨X', Y', e1, g1, f1, f2, f3⟩ | ⟨X', Y', p', v, e1, g1, s1, l1, f2, f3, -, v2, v3, v4, k1, k2⟩
  · refine Or.inl ⟨X', Y', ?_, g1, f1, f2, f3⟩
    by_cases zk : X 57 4 = 2
    · by_cases zt : tkn X a b fr (nI xb) (X 57 6)
      · exfalso
        obtain ⟨i, i1, i2, i3⟩ := zt
        rcases hT i i1 with w | ⟨v, v1, v2, v3⟩
        · rw [w] at i2
          exact nI_nm (j := xb) (by omega) i2
        · rw [i3] at v3
          have c1 : ¬ nI v < 0 := nI_pos (by omega)
          have c2 : nI v ≤ 30 := (nI_leI (a := v) (b := 30) (by omega) (by omega)).mpr v2
          have h' : psR (va_up X 56 (upd (X 56) 6 (nI v))) Y L u p := psR_c h (fun a ha => up_n (by omega)) (fun k hk => by rw [up_s, pk_un (by omega)])
          obtain ⟨X2, Y2, p2, e2, -⟩ := nxt_p (d := d) (J := J) (J2 := J2) (R := R) (R2 := R2) h'
          rw [eX7_number] at e1
          simp (disch := omega) only [xX7_number_0, xX7_number_1, xX7_number_4, xX7_number_7, xX7_number_8, xX7_number_11, xX7_number_12, xX7_number_13, xX7_number_16, xX7_number_17, xX7_number_18, xX7_number_21, xX7_number_24, xX7_number_25, xX7_number_28, xX7_number_29, xX7_number_32, xX7_number_35, xX7_number_36, xX7_number_39, xX7_number_40, xX7_number_41, xX7_number_44, xX7_number_45, xX7_number_46, xX7_number_47, xX7_number_50, xX7_number_53, xX7_number_56, xX7_number_57, xX7_number_60, xX7_number_63, xX7_number_64, kd_56, fi_56_0, kd_57, kd_57, ↓reduceIte, gd_t, hK_p, hN_p, hF_p, hI_p, hJ_p, hR_p, stI_p, stJ_p, stR_p, stA_p, va_rf_s, va_rf_n, clr_i, clr_l, clr_r, clr_n, clr_o, w8_0, w8_1i, w8_1r, w8_2ii, w8_2ri, w8_2ir, w8_2rr, w8_3, beq_self_eq_true, Bool.and_self, Bool.and_true, Bool.true_and, decide_true, Option.toList_some, Option.toList_none, List.cons_append, List.nil_append, Option.bind_some, if_true, if_false, Nat.reduceLeDiff, Nat.reduceLT, Nat.reduceBEq, Bool.or_false, Bool.false_or, Bool.or_true, Bool.true_or, zk, v3, c1, c2, e2, z11] at e1
          simp at e1
      · have ht := tak_n (d := d + 3) (J := J) (R := R) ka kb na nb ha hb ha2 hb2 zt
        rw [eX7_freePlace]
        simp (disch := omega) only [xX7_freePlace_0, xX7_freePlace_1, xX7_freePlace_4, xX7_freePlace_7, xX7_freePlace_8, xX7_freePlace_11, xX7_freePlace_12, xX7_freePlace_13, xX7_freePlace_14, xX7_freePlace_16, xX7_freePlace_17, xX7_freePlace_20, xX7_freePlace_23, xX7_freePlace_26, xX7_freePlace_29, xX7_freePlace_30, xX7_freePlace_31, xX7_freePlace_34, xX7_freePlace_35, xX7_freePlace_36, xX7_freePlace_37, xX7_freePlace_39, xX7_freePlace_42, kd_56, fi_56_0, kd_57, kd_56, ka, kb, ↓reduceIte, gd_t, hK_p, hN_p, hF_p, hI_p, hJ_p, hR_p, stI_p, stJ_p, stR_p, stA_p, va_rf_s, va_rf_n, clr_i, clr_l, clr_r, clr_n, clr_o, w8_0, w8_1i, w8_1r, w8_2ii, w8_2ri, w8_2ir, w8_2rr, w8_3, beq_self_eq_true, Bool.and_self, Bool.and_true, Bool.true_and, decide_true, Option.toList_some, Option.toList_none, List.cons_append, List.nil_append, Option.bind_some, if_true, if_false, Nat.reduceLeDiff, Nat.reduceLT, Nat.reduceBEq, Bool.or_false, Bool.false_or, Bool.or_true, Bool.true_or, zk, ht, e1, z01, not_true_eq_false]
    · rw [eX7_freePlace]
      simp (disch := omega) only [xX7_freePlace_0, xX7_freePlace_1, xX7_freePlace_4, xX7_freePlace_7, xX7_freePlace_8, xX7_freePlace_11, xX7_freePlace_12, xX7_freePlace_13, xX7_freePlace_14, xX7_freePlace_16, xX7_freePlace_17, xX7_freePlace_20, xX7_freePlace_23, xX7_freePlace_26, xX7_freePlace_29, xX7_freePlace_30, xX7_freePlace_31, xX7_freePlace_34, xX7_freePlace_35, xX7_freePlace_36, xX7_freePlace_37, xX7_freePlace_39, xX7_freePlace_42, kd_56, fi_56_0, kd_57, kd_56, ka, kb, ↓reduceIte, gd_t, hK_p, hN_p, hF_p, hI_p, hJ_p, hR_p, stI_p, stJ_p, stR_p, stA_p, va_rf_s, va_rf_n, clr_i, clr_l, clr_r, clr_n, clr_o, w8_0, w8_1i, w8_1r, w8_2ii, w8_2ri, w8_2ir, w8_2rr, w8_3, beq_self_eq_true, Bool.and_self, Bool.and_true, Bool.true_and, decide_true, Option.toList_some, Option.toList_none, List.cons_append, List.nil_append, Option.bind_some, if_true, if_false, Nat.reduceLeDiff, Nat.reduceLT, Nat.reduceBEq, Bool.or_false, Bool.false_or, Bool.or_true, Bool.true_or, zk, e1, z01, not_false_eq_true]
  · by_cases zt : tkn X a b fr (nI xb) (nI v)
    · have ht := tak_y (d := d + 3) (J := J) (R := R) ka kb na nb ha hb ha2 hb2 zt
      obtain ⟨g2, g3, -⟩ := ref_p (k := 5) h
      refine Or.inr (Or.inl ⟨_, Y', v, ?_, g1, g3, f3, v2, v4, zt, ?_, ?_⟩)
      · rw [eX7_freePlace]
        simp (disch := omega) only [xX7_freePlace_0, xX7_freePlace_1, xX7_freePlace_4, xX7_freePlace_7, xX7_freePlace_8, xX7_freePlace_11, xX7_freePlace_12, xX7_freePlace_13, xX7_freePlace_14, xX7_freePlace_16, xX7_freePlace_17, xX7_freePlace_20, xX7_freePlace_23, xX7_freePlace_26, xX7_freePlace_29, xX7_freePlace_30, xX7_freePlace_31, xX7_freePlace_34, xX7_freePlace_35, xX7_freePlace_36, xX7_freePlace_37, xX7_freePlace_39, xX7_freePlace_42, kd_56, fi_56_0, kd_57, kd_56, ka, kb, ↓reduceIte, gd_t, hK_p, hN_p, hF_p, hI_p, hJ_p, hR_p, stI_p, stJ_p, stR_p, stA_p, va_rf_s, va_rf_n, clr_i, clr_l, clr_r, clr_n, clr_o, w8_0, w8_1i, w8_1r, w8_2ii, w8_2ri, w8_2ir, w8_2rr, w8_3, beq_self_eq_true, Bool.and_self, Bool.and_true, Bool.true_and, decide_true, Option.toList_some, Option.toList_none, List.cons_append, List.nil_append, Option.bind_some, if_true, if_false, Nat.reduceLeDiff, Nat.reduceLT, Nat.reduceBEq, Bool.or_false, Bool.false_or, Bool.or_true, Bool.true_or, k1, k2, ht, n1, ref_c, z01, not_true_eq_false, not_false_eq_true]
      · rw [up_s, pk_un (by decide), pk_us]
      · have := g2.2
        rw [up_s, up_s, pk_us, pk_us] at this
        rw [up_s, pk_us]
        exact this
    · have ht := tak_n (d := d + 3) (J := J) (R := R) ka kb na nb ha hb ha2 hb2 zt
      refine Or.inr (Or.inr ⟨X', Y', p', v, ?_, g1, s1, l1, f2, f3, v2, v3, v4, zt⟩)
      rw [eX7_freePlace]
      simp (disch := omega) only [xX7_freePlace_0, xX7_freePlace_1, xX7_freePlace_4, xX7_freePlace_7, xX7_freePlace_8, xX7_freePlace_11, xX7_freePlace_12, xX7_freePlace_13, xX7_freePlace_14, xX7_freePlace_16, xX7_freePlace_17, xX7_freePlace_20, xX7_freePlace_23, xX7_freePlace_26, xX7_freePlace_29, xX7_freePlace_30, xX7_freePlace_31, xX7_freePlace_34, xX7_freePlace_35, xX7_freePlace_36, xX7_freePlace_37, xX7_freePlace_39, xX7_freePlace_42, kd_56, fi_56_0, kd_57, kd_56, ka, kb, ↓reduceIte, gd_t, hK_p, hN_p, hF_p, hI_p, hJ_p, hR_p, stI_p, stJ_p, stR_p, stA_p, va_rf_s, va_rf_n, clr_i, clr_l, clr_r, clr_n, clr_o, w8_0, w8_1i, w8_1r, w8_2ii, w8_2ri, w8_2ir, w8_2rr, w8_3, beq_self_eq_true, Bool.and_self, Bool.and_true, Bool.true_and, decide_true, Option.toList_some, Option.toList_none, List.cons_append, List.nil_append, Option.bind_some, if_true, if_false, Nat.reduceLeDiff, Nat.reduceLT, Nat.reduceBEq, Bool.or_false, Bool.false_or, Bool.or_true, Bool.true_or, k1, k2, ht, e1, z01, z11, not_true_eq_false]
end FP

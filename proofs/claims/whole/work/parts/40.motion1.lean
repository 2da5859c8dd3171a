-- MOTION, 1: leaves, loops
/-- n turns of f, from i on -/
def itf {σ : Type} (f : Nat → σ → σ) : Nat → Nat → σ → σ
  | 0, _, s => s
  | k + 1, i, s => itf f k (i + 1) (f i s)
theorem for_loop {σ : Type} {P : Nat → σ → Option Rs} {f : Nat → σ → σ} {fin : σ → Option Rs} {n : Nat} (hs : ∀ i s, i < n → P i s = P (i + 1) (f i s)) (he : ∀ s, P n s = fin s) : ∀ k i s, i + k = n → P i s = fin (itf f k i s)
  | 0, i, s, h => by
    obtain rfl : i = n := by omega
    exact he s
  | k + 1, i, s, h => by
    rw [hs i s (by omega)]
    exact for_loop hs he k (i + 1) (f i s) (by omega)
theorem for_0 {σ : Type} {P : Nat → σ → Option Rs} {f : Nat → σ → σ} {fin : σ → Option Rs} {n : Nat} {s : σ} (hs : ∀ i s, i < n → P i s = P (i + 1) (f i s)) (he : ∀ s, P n s = fin s) : P 0 s = fin (itf f n 0 s) := for_loop hs he n 0 s (by omega)
theorem itf_inv {σ : Type} {f : Nat → σ → σ} {Q : Nat → σ → Prop} {n : Nat} (hs : ∀ i s, i < n → Q i s → Q (i + 1) (f i s)) : ∀ k i s, i + k = n → Q i s → Q n (itf f k i s)
  | 0, i, s, h, q => by
    obtain rfl : i = n := by omega
    exact q
  | k + 1, i, s, h, q => itf_inv hs k (i + 1) (f i s) (by omega) (hs i s (by omega) q)
theorem itf_cong {σ : Type} {f g : Nat → σ → σ} {n : Nat} (h : ∀ i s, i < n → f i s = g i s) : ∀ k i s, i + k = n → itf f k i s = itf g k i s
  | 0, _, _, _ => rfl
  | k + 1, i, s, e => by
    unfold itf
    rw [h i s (by omega)]
    exact itf_cong h k (i + 1) (g i s) (by omega)
/-- a row written from its place 0 on -/
theorem itf_fill {v : Nat → Int32} (r : Nat → Int32) : ∀ n, itf (fun i r => upd r i (v i)) n 0 r = fun k => if k < n then v k else r k := by
  intro n
  have h := itf_inv (f := fun i (r : Nat → Int32) => upd r i (v i)) (Q := fun i s => s = fun k => if k < i then v k else r k) (n := n) (fun i s _ q => by
    subst q
    funext k
    by_cases hk : k = i
    · subst hk
      rw [pk_us, if_pos (by omega)]
    · rw [pk_un hk]
      by_cases h2 : k < i
      · rw [if_pos h2, if_pos (by omega)]
      · rw [if_neg h2, if_neg (by omega)]) n 0 r (by omega) (by funext k; simp)
  exact h
theorem inb_lt {x : Int32} {n : Nat} (h0 : ¬ x < 0) (h1 : x < nI n) (hn : n < 2 ^ 31) : inb x n = true := by
  obtain ⟨j, hj, rfl⟩ := nI_of h0
  exact inb_n ((nI_ltI hj hn).mp h1) hn
theorem nI_0n (n : Nat) (h : n < 2 ^ 31) : (nI n < 0) = False := eq_false (nI_pos h)
theorem ge_0n (n : Nat) (h : n < 2 ^ 31) : (0 ≤ nI n) = True := eq_true (nI_pos' h)
theorem ix6 (i j : Nat) : nI i * 6 + nI j = nI (i * 6 + j) := by rw [show (6 : Int32) = nI 6 from rfl, pk_mul, nI_add]
theorem mo_lo {m : Nat} (h : isMo m) : 60 ≤ m ∧ m ≤ 88 := by rcases h with rfl | rfl | rfl <;> omega
theorem te_hi {t : Nat} (h : isTe t) : 2 ≤ t ∧ t ≤ 29 := by rcases h with rfl | rfl <;> omega
def disF (x y : Int32) : Int32 := if y ≤ x then x - y else y - x
def btwF (lo v hi : Int32) : Int32 := if lo ≤ v then (if v ≤ hi then v else hi) else lo
def apaF (x y : Int32) : Int32 := if disF x y ≤ 500 then disF x y else 1000 - disF x y
def leaA (a : Int32) : Int32 := if -500 ≤ a then (if a < 500 then a else a + (-1000)) else a + 1000
def leaF (a : Int32) : Int32 := if leaA a ≤ 250 then (if -250 ≤ leaA a then leaA a else -500 - leaA a) else 500 - leaA a
theorem dis_spec {d : Nat} {x y : Int32} {h : Hp} : C (d + 1) MX11_distance [.int x, .int y] h = some (some (.int (disF x y)), h) := by
  rw [eX11_distance]
  unfold disF
  by_cases h1 : y ≤ x <;> simp only [xX11_distance_0, xX11_distance_1, xX11_distance_2, xX11_distance_5, xX11_distance_6, xX11_distance_7, xX11_distance_8, xX11_distance_11, xX11_distance_12, xX11_distance_13, xX11_distance_14, h1, if_true, if_false]
theorem btw_spec {d : Nat} {x v y : Int32} {h : Hp} : C (d + 1) MX11_between [.int x, .int v, .int y] h = some (some (.int (btwF x v y)), h) := by
  rw [eX11_between]
  unfold btwF
  by_cases h1 : x ≤ v <;> by_cases h2 : v ≤ y <;> simp only [xX11_between_0, xX11_between_1, xX11_between_2, xX11_between_5, xX11_between_6, xX11_between_7, xX11_between_8, xX11_between_9, xX11_between_12, xX11_between_13, xX11_between_16, xX11_between_17, h1, h2, if_true, if_false]
theorem apa_spec {d : Nat} {x y : Int32} {h : Hp} : C (d + 2) MX11_apartOf [.int x, .int y] h = some (some (.int (apaF x y)), h) := by
  rw [eX11_apartOf]
  unfold apaF
  by_cases h1 : disF x y ≤ 500 <;> simp only [xX11_apartOf_0, xX11_apartOf_1, xX11_apartOf_2, xX11_apartOf_5, xX11_apartOf_6, xX11_apartOf_7, xX11_apartOf_10, xX11_apartOf_13, xX11_apartOf_16, xX11_apartOf_17, xX11_apartOf_18, xX11_apartOf_21, xX11_apartOf_22, ↓reduceIte, gd_t, hK_p, hN_p, hF_p, hI_p, hJ_p, hR_p, stI_p, stJ_p, stR_p, stA_p, va_rf_s, va_rf_n, clr_i, clr_l, clr_r, clr_n, clr_o, w8_0, w8_1i, w8_1r, w8_2ii, w8_2ri, w8_2ir, w8_2rr, w8_3, beq_self_eq_true, Bool.and_self, Bool.and_true, Bool.true_and, decide_true, Option.toList_some, Option.toList_none, List.cons_append, List.nil_append, Option.bind_some, if_true, if_false, Nat.reduceLeDiff, Nat.reduceLT, Nat.reduceBEq, Bool.or_false, Bool.false_or, Bool.or_true, Bool.true_or, dis_spec, h1]
theorem lea_spec {d : Nat} {x : Int32} {h : Hp} : C (d + 1) MX4_leanOf [.int x] h = some (some (.int (leaF x)), h) := by
  rw [eX4_leanOf]
  unfold leaF leaA
  by_cases h1 : -500 ≤ x
  · by_cases h2 : x < 500
    · by_cases h3 : x ≤ 250 <;> by_cases h4 : -250 ≤ x <;> simp only [xX4_leanOf_0, xX4_leanOf_1, xX4_leanOf_2, xX4_leanOf_3, xX4_leanOf_6, xX4_leanOf_9, xX4_leanOf_15, xX4_leanOf_18, xX4_leanOf_19, xX4_leanOf_22, xX4_leanOf_25, xX4_leanOf_31, xX4_leanOf_32, xX4_leanOf_35, xX4_leanOf_38, xX4_leanOf_41, xX4_leanOf_42, xX4_leanOf_43, xX4_leanOf_44, xX4_leanOf_45, xX4_leanOf_48, xX4_leanOf_51, xX4_leanOf_54, xX4_leanOf_55, xX4_leanOf_56, xX4_leanOf_59, xX4_leanOf_60, ↓reduceIte, gd_t, hK_p, hN_p, hF_p, hI_p, hJ_p, hR_p, stI_p, stJ_p, stR_p, stA_p, va_rf_s, va_rf_n, clr_i, clr_l, clr_r, clr_n, clr_o, w8_0, w8_1i, w8_1r, w8_2ii, w8_2ri, w8_2ir, w8_2rr, w8_3, beq_self_eq_true, Bool.and_self, Bool.and_true, Bool.true_and, decide_true, Option.toList_some, Option.toList_none, List.cons_append, List.nil_append, Option.bind_some, if_true, if_false, Nat.reduceLeDiff, Nat.reduceLT, Nat.reduceBEq, Bool.or_false, Bool.false_or, Bool.or_true, Bool.true_or, h1, h2, h3, h4]
    · by_cases h3 : x + (-1000) ≤ 250 <;> by_cases h4 : -250 ≤ x + (-1000) <;> simp only [xX4_leanOf_0, xX4_leanOf_1, xX4_leanOf_2, xX4_leanOf_3, xX4_leanOf_6, xX4_leanOf_9, xX4_leanOf_15, xX4_leanOf_18, xX4_leanOf_19, xX4_leanOf_22, xX4_leanOf_25, xX4_leanOf_31, xX4_leanOf_32, xX4_leanOf_35, xX4_leanOf_38, xX4_leanOf_41, xX4_leanOf_42, xX4_leanOf_43, xX4_leanOf_44, xX4_leanOf_45, xX4_leanOf_48, xX4_leanOf_51, xX4_leanOf_54, xX4_leanOf_55, xX4_leanOf_56, xX4_leanOf_59, xX4_leanOf_60, ↓reduceIte, gd_t, hK_p, hN_p, hF_p, hI_p, hJ_p, hR_p, stI_p, stJ_p, stR_p, stA_p, va_rf_s, va_rf_n, clr_i, clr_l, clr_r, clr_n, clr_o, w8_0, w8_1i, w8_1r, w8_2ii, w8_2ri, w8_2ir, w8_2rr, w8_3, beq_self_eq_true, Bool.and_self, Bool.and_true, Bool.true_and, decide_true, Option.toList_some, Option.toList_none, List.cons_append, List.nil_append, Option.bind_some, if_true, if_false, Nat.reduceLeDiff, Nat.reduceLT, Nat.reduceBEq, Bool.or_false, Bool.false_or, Bool.or_true, Bool.true_or, h1, h2, h3, h4]
  · by_cases h3 : x + 1000 ≤ 250 <;> by_cases h4 : -250 ≤ x + 1000 <;> simp only [xX4_leanOf_0, xX4_leanOf_1, xX4_leanOf_2, xX4_leanOf_3, xX4_leanOf_6, xX4_leanOf_9, xX4_leanOf_15, xX4_leanOf_18, xX4_leanOf_19, xX4_leanOf_22, xX4_leanOf_25, xX4_leanOf_31, xX4_leanOf_32, xX4_leanOf_35, xX4_leanOf_38, xX4_leanOf_41, xX4_leanOf_42, xX4_leanOf_43, xX4_leanOf_44, xX4_leanOf_45, xX4_leanOf_48, xX4_leanOf_51, xX4_leanOf_54, xX4_leanOf_55, xX4_leanOf_56, xX4_leanOf_59, xX4_leanOf_60, ↓reduceIte, gd_t, hK_p, hN_p, hF_p, hI_p, hJ_p, hR_p, stI_p, stJ_p, stR_p, stA_p, va_rf_s, va_rf_n, clr_i, clr_l, clr_r, clr_n, clr_o, w8_0, w8_1i, w8_1r, w8_2ii, w8_2ri, w8_2ir, w8_2rr, w8_3, beq_self_eq_true, Bool.and_self, Bool.and_true, Bool.true_and, decide_true, Option.toList_some, Option.toList_none, List.cons_append, List.nil_append, Option.bind_some, if_true, if_false, Nat.reduceLeDiff, Nat.reduceLT, Nat.reduceBEq, Bool.or_false, Bool.false_or, Bool.or_true, Bool.true_or, h1, h3, h4]
def reaF (give stiff place beam : Nat → Int32) (wall : Int32) (a b : Nat) : Int32 :=
  if beam a = beam b then (if beam a < 0 then wall else if beam a < 3 then
    (if 0 ≤ give (beam a).toNatClampNeg - stiff (beam a).toNatClampNeg * disF (place a) (place b) then give (beam a).toNatClampNeg - stiff (beam a).toNatClampNeg * disF (place a) (place b) else 0) else wall) else wall
theorem rea_spec {d m t a b : Nat} {I : Mem} {J : MemL} {R : MemR} (hm : isMo m) (ht : isTe t) (hR : R m 0 = some t) (ha : a < 6) (hb : b < 6) :
    C (d + 2) MX4_reachOf [.ref m, .int (nI a), .int (nI b)] (hp I J R) = some (some (.int (reaF (I (t + 3)) (I (m + 1)) (I (m + 3)) (I (m + 2)) (I m 3) a b)), hp I J R) := by
  rw [eX4_reachOf]
  unfold reaF
  by_cases h1 : I (m + 2) a = I (m + 2) b
  · by_cases h2 : I (m + 2) a < 0
    · simp (disch := omega) only [xX4_reachOf_0, xX4_reachOf_1, xX4_reachOf_4, xX4_reachOf_5, xX4_reachOf_6, xX4_reachOf_7, xX4_reachOf_8, xX4_reachOf_9, xX4_reachOf_12, xX4_reachOf_13, xX4_reachOf_14, xX4_reachOf_17, xX4_reachOf_18, xX4_reachOf_21, xX4_reachOf_22, xX4_reachOf_23, xX4_reachOf_26, xX4_reachOf_27, xX4_reachOf_30, xX4_reachOf_31, xX4_reachOf_32, xX4_reachOf_35, xX4_reachOf_38, xX4_reachOf_39, xX4_reachOf_40, xX4_reachOf_41, xX4_reachOf_44, xX4_reachOf_45, xX4_reachOf_46, xX4_reachOf_47, xX4_reachOf_50, xX4_reachOf_51, xX4_reachOf_52, xX4_reachOf_53, xX4_reachOf_56, xX4_reachOf_57, xX4_reachOf_58, xX4_reachOf_61, xX4_reachOf_62, xX4_reachOf_63, xX4_reachOf_65, xX4_reachOf_67, xX4_reachOf_70, xX4_reachOf_71, xX4_reachOf_74, xX4_reachOf_76, mo_k0 hm, mo_f0_5 hm, mo_k1 hm, mo_n1 hm, mo_f0_6 hm, mo_k2 hm, mo_n2 hm, mo_f0_7 hm, mo_k3 hm, mo_n3 hm, te_k0 ht, te_f0_1 ht, te_k3 ht, te_n3 ht, ↓reduceIte, gd_t, hK_p, hN_p, hF_p, hI_p, hJ_p, hR_p, stI_p, stJ_p, stR_p, stA_p, va_rf_s, va_rf_n, clr_i, clr_l, clr_r, clr_n, clr_o, w8_0, w8_1i, w8_1r, w8_2ii, w8_2ri, w8_2ir, w8_2rr, w8_3, beq_self_eq_true, Bool.and_self, Bool.and_true, Bool.true_and, decide_true, Option.toList_some, Option.toList_none, List.cons_append, List.nil_append, Option.bind_some, if_true, if_false, Nat.reduceLeDiff, Nat.reduceLT, Nat.reduceBEq, Bool.or_false, Bool.false_or, Bool.or_true, Bool.true_or, nI_clamp, inb_n, ← h1, h2, not_true_eq_false]
    · by_cases h3 : I (m + 2) a < 3
      · have i3 : inb (I (m + 2) a) 3 = true := inb_lt h2 h3 (by omega)
        by_cases h4 : 0 ≤ I (t + 3) (I (m + 2) a).toNatClampNeg - I (m + 1) (I (m + 2) a).toNatClampNeg * disF (I (m + 3) a) (I (m + 3) b) <;>
          simp (disch := omega) only [xX4_reachOf_0, xX4_reachOf_1, xX4_reachOf_4, xX4_reachOf_5, xX4_reachOf_6, xX4_reachOf_7, xX4_reachOf_8, xX4_reachOf_9, xX4_reachOf_12, xX4_reachOf_13, xX4_reachOf_14, xX4_reachOf_17, xX4_reachOf_18, xX4_reachOf_21, xX4_reachOf_22, xX4_reachOf_23, xX4_reachOf_26, xX4_reachOf_27, xX4_reachOf_30, xX4_reachOf_31, xX4_reachOf_32, xX4_reachOf_35, xX4_reachOf_38, xX4_reachOf_39, xX4_reachOf_40, xX4_reachOf_41, xX4_reachOf_44, xX4_reachOf_45, xX4_reachOf_46, xX4_reachOf_47, xX4_reachOf_50, xX4_reachOf_51, xX4_reachOf_52, xX4_reachOf_53, xX4_reachOf_56, xX4_reachOf_57, xX4_reachOf_58, xX4_reachOf_61, xX4_reachOf_62, xX4_reachOf_63, xX4_reachOf_65, xX4_reachOf_67, xX4_reachOf_70, xX4_reachOf_71, xX4_reachOf_74, xX4_reachOf_76, mo_k0 hm, mo_f0_5 hm, mo_k1 hm, mo_n1 hm, mo_f0_6 hm, mo_k2 hm, mo_n2 hm, mo_f0_7 hm, mo_k3 hm, mo_n3 hm, te_k0 ht, te_f0_1 ht, te_k3 ht, te_n3 ht, ↓reduceIte, gd_t, hK_p, hN_p, hF_p, hI_p, hJ_p, hR_p, stI_p, stJ_p, stR_p, stA_p, va_rf_s, va_rf_n, clr_i, clr_l, clr_r, clr_n, clr_o, w8_0, w8_1i, w8_1r, w8_2ii, w8_2ri, w8_2ir, w8_2rr, w8_3, beq_self_eq_true, Bool.and_self, Bool.and_true, Bool.true_and, decide_true, Option.toList_some, Option.toList_none, List.cons_append, List.nil_append, Option.bind_some, if_true, if_false, Nat.reduceLeDiff, Nat.reduceLT, Nat.reduceBEq, Bool.or_false, Bool.false_or, Bool.or_true, Bool.true_or, nI_clamp, inb_n, ← h1, h2, h3, i3, h4, hR, dis_spec, not_true_eq_false]
      · simp (disch := omega) only [xX4_reachOf_0, xX4_reachOf_1, xX4_reachOf_4, xX4_reachOf_5, xX4_reachOf_6, xX4_reachOf_7, xX4_reachOf_8, xX4_reachOf_9, xX4_reachOf_12, xX4_reachOf_13, xX4_reachOf_14, xX4_reachOf_17, xX4_reachOf_18, xX4_reachOf_21, xX4_reachOf_22, xX4_reachOf_23, xX4_reachOf_26, xX4_reachOf_27, xX4_reachOf_30, xX4_reachOf_31, xX4_reachOf_32, xX4_reachOf_35, xX4_reachOf_38, xX4_reachOf_39, xX4_reachOf_40, xX4_reachOf_41, xX4_reachOf_44, xX4_reachOf_45, xX4_reachOf_46, xX4_reachOf_47, xX4_reachOf_50, xX4_reachOf_51, xX4_reachOf_52, xX4_reachOf_53, xX4_reachOf_56, xX4_reachOf_57, xX4_reachOf_58, xX4_reachOf_61, xX4_reachOf_62, xX4_reachOf_63, xX4_reachOf_65, xX4_reachOf_67, xX4_reachOf_70, xX4_reachOf_71, xX4_reachOf_74, xX4_reachOf_76, mo_k0 hm, mo_f0_5 hm, mo_k1 hm, mo_n1 hm, mo_f0_6 hm, mo_k2 hm, mo_n2 hm, mo_f0_7 hm, mo_k3 hm, mo_n3 hm, te_k0 ht, te_f0_1 ht, te_k3 ht, te_n3 ht, ↓reduceIte, gd_t, hK_p, hN_p, hF_p, hI_p, hJ_p, hR_p, stI_p, stJ_p, stR_p, stA_p, va_rf_s, va_rf_n, clr_i, clr_l, clr_r, clr_n, clr_o, w8_0, w8_1i, w8_1r, w8_2ii, w8_2ri, w8_2ir, w8_2rr, w8_3, beq_self_eq_true, Bool.and_self, Bool.and_true, Bool.true_and, decide_true, Option.toList_some, Option.toList_none, List.cons_append, List.nil_append, Option.bind_some, if_true, if_false, Nat.reduceLeDiff, Nat.reduceLT, Nat.reduceBEq, Bool.or_false, Bool.false_or, Bool.or_true, Bool.true_or, nI_clamp, inb_n, ← h1, h2, h3, not_true_eq_false]
  · simp (disch := omega) only [xX4_reachOf_0, xX4_reachOf_1, xX4_reachOf_4, xX4_reachOf_5, xX4_reachOf_6, xX4_reachOf_7, xX4_reachOf_8, xX4_reachOf_9, xX4_reachOf_12, xX4_reachOf_13, xX4_reachOf_14, xX4_reachOf_17, xX4_reachOf_18, xX4_reachOf_21, xX4_reachOf_22, xX4_reachOf_23, xX4_reachOf_26, xX4_reachOf_27, xX4_reachOf_30, xX4_reachOf_31, xX4_reachOf_32, xX4_reachOf_35, xX4_reachOf_38, xX4_reachOf_39, xX4_reachOf_40, xX4_reachOf_41, xX4_reachOf_44, xX4_reachOf_45, xX4_reachOf_46, xX4_reachOf_47, xX4_reachOf_50, xX4_reachOf_51, xX4_reachOf_52, xX4_reachOf_53, xX4_reachOf_56, xX4_reachOf_57, xX4_reachOf_58, xX4_reachOf_61, xX4_reachOf_62, xX4_reachOf_63, xX4_reachOf_65, xX4_reachOf_67, xX4_reachOf_70, xX4_reachOf_71, xX4_reachOf_74, xX4_reachOf_76, mo_k0 hm, mo_f0_5 hm, mo_k1 hm, mo_n1 hm, mo_f0_6 hm, mo_k2 hm, mo_n2 hm, mo_f0_7 hm, mo_k3 hm, mo_n3 hm, te_k0 ht, te_f0_1 ht, te_k3 ht, te_n3 ht, ↓reduceIte, gd_t, hK_p, hN_p, hF_p, hI_p, hJ_p, hR_p, stI_p, stJ_p, stR_p, stA_p, va_rf_s, va_rf_n, clr_i, clr_l, clr_r, clr_n, clr_o, w8_0, w8_1i, w8_1r, w8_2ii, w8_2ri, w8_2ir, w8_2rr, w8_3, beq_self_eq_true, Bool.and_self, Bool.and_true, Bool.true_and, decide_true, Option.toList_some, Option.toList_none, List.cons_append, List.nil_append, Option.bind_some, if_true, if_false, Nat.reduceLeDiff, Nat.reduceLT, Nat.reduceBEq, Bool.or_false, Bool.false_or, Bool.or_true, Bool.true_or, nI_clamp, inb_n, h1, not_false_eq_true]

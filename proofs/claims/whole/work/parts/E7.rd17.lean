-- TEXT, 24: an E: what waits is released, both
def opn (r : Nat → Int32) : Nat → Nat
  | 0 => 0
  | w + 1 => opn r w + if r w = 5 then 1 else 0
def bnn (r : Nat → Int32) : Nat → Nat
  | 0 => 0
  | w + 1 => bnn r w + if r w = 5 ∨ r w = 17 then 0 else 1
theorem opn_cg {r r' : Nat → Int32} : ∀ w, (∀ i, i < w → r i = r' i) → opn r w = opn r' w
  | 0, _ => rfl
  | w + 1, h => by
    unfold opn
    rw [opn_cg w (fun i hi => h i (by omega)), h w (by omega)]
theorem bnn_cg {r r' : Nat → Int32} : ∀ w, (∀ i, i < w → r i = r' i) → bnn r w = bnn r' w
  | 0, _ => rfl
  | w + 1, h => by
    unfold bnn
    rw [bnn_cg w (fun i hi => h i (by omega)), h w (by omega)]
theorem opn_le {r : Nat → Int32} : ∀ w, opn r w ≤ w
  | 0 => Nat.le_refl 0
  | w + 1 => by
    have := opn_le (r := r) w
    unfold opn
    split <;> omega
/-- an E being read: the law at g, whose first knot is fi; len knots, w that wait, o brackets, c counted, v values more than signs -/
def xpR (X Y : Mem) (g fi len w o c v : Nat) : Prop := pfR X Y g fi len ∧ (X 56 11 = nI w ∧ Y 123 46 = nI w ∧ ∀ i, i < w → wt1 (X 59 i) (Y 147 i)) ∧ (X 56 8 = nI o ∧ Y 123 48 = nI o ∧ o ≤ 8 ∧ opn (X 59) w = o) ∧ (X 56 7 = nI c ∧ Y 123 49 = nI c ∧ c ≤ 64 ∧ c + o = fi + len + w) ∧ X 56 9 = Y 123 51 ∧ hgt (X (g + 1)) len = bnn (X 59) w + v
/-- what a release leaves alone -/
def rlF (g fi : Nat) (X X' Y Y' : Mem) : Prop := (∀ c, c ≠ g → c ≠ g + 1 → c ≠ g + 2 → c ≠ 56 → X' c = X c) ∧ (∀ k, k ≠ 1 → X' g k = X g k) ∧ (∀ k, k ≠ 11 → X' 56 k = X 56 k) ∧ (∀ c, c ≠ 123 → c < 144 ∨ c = 147 ∨ 148 < c → Y' c = Y c) ∧ (∀ a k, 144 ≤ a → a ≤ 146 → k < 64 + fi → Y' a k = Y a k) ∧ ∀ k, k ≠ 20 → k ≠ 46 → k ≠ 47 → Y' 123 k = Y 123 k
theorem rlF.tr {g fi : Nat} {X X' X'' Y Y' Y'' : Mem} (h : rlF g fi X X' Y Y') (f : rlF g fi X' X'' Y' Y'') : rlF g fi X X'' Y Y'' := by
  obtain ⟨h1, h2, h3, h4, h5, h6⟩ := h
  obtain ⟨g1, g2, g3, g4, g5, g6⟩ := f
  exact ⟨fun c a1 a2 a3 a4 => (g1 c a1 a2 a3 a4).trans (h1 c a1 a2 a3 a4), fun k a1 => (g2 k a1).trans (h2 k a1), fun k a1 => (g3 k a1).trans (h3 k a1), fun c a1 a2 => (g4 c a1 a2).trans (h4 c a1 a2), fun a k a1 a2 a3 => (g5 a k a1 a2 a3).trans (h5 a k a1 a2 a3), fun k a1 a2 a3 => (g6 k a1 a2 a3).trans (h6 k a1 a2 a3)⟩
theorem rlF.rf {g fi : Nat} {X Y : Mem} : rlF g fi X X Y Y := ⟨fun _ _ _ _ _ => rfl, fun _ _ => rfl, fun _ _ => rfl, fun _ _ _ => rfl, fun _ _ _ _ _ => rfl, fun _ _ _ _ => rfl⟩
theorem hgt_push {ki : Nat → Int32} {len : Nat} {k : Int32} : hgt (upd ki len k) (len + 1) = if k = 2 ∨ (20 ≤ k ∧ k ≤ 26) then hgt ki len + 1 else if k = 17 then hgt ki len else hgt ki len - 1 := by
  rw [hgt, pk_us, hgt_cg (k := upd ki len k) (k' := ki) len (fun j hj => pk_un (by omega))]
theorem lw_hi {g : Nat} (h : isLw g) : 21 ≤ g ∧ g ≤ 52 := by
  rcases h with rfl | rfl | rfl | rfl <;> omega
theorem pfR_fr {X X' Y Y' : Mem} {g fi len : Nat} (h : pfR X Y g fi len) (o1 : X' g 1 = X g 1) (o2 : X' (g + 1) = X (g + 1)) (o3 : X' (g + 2) = X (g + 2)) (o4 : ∀ c, 144 ≤ c → c ≤ 148 → c ≠ 147 → Y' c = Y c) (o5 : Y' 123 20 = Y 123 20) (o6 : Y' 123 47 = Y 123 47) : pfR X' Y' g fi len := by
  unfold pfR
  rw [o1, o2, o3, o4 144 (by omega) (by omega) (by omega), o4 145 (by omega) (by omega) (by omega), o4 146 (by omega) (by omega) (by omega), o4 148 (by omega) (by omega) (by omega), o5, o6]
  exact h
section RL
variable {J J2 : MemL} {R R2 : MemR} {g fi o c : Nat}
theorem rel_p {d lst : Nat} (hg : isLw g) (h1 : 1 ≤ lst) (h7 : lst ≤ 7) : ∀ (w : Nat) (X Y : Mem) (len : Nat) (l2 l3 l4 : Option Value), xpR X Y g fi len w o c 1 →
    ∃ X' Y' len' w', E (C (d + 1)) MX7_release 0 [some (.ref 56), some (.ref g), some (.int (nI lst))] [] (hp X J R) = some (none, hp X' J R) ∧ E (C (d + 1)) MX12_bind 0 [some (.ref 123), some (.int (nI lst)), l2, l3, l4] [] (hp Y J2 R2) = some (none, hp Y' J2 R2) ∧ xpR X' Y' g fi len' w' o c 1 ∧ (w' = 0 ∨ rkF (X' 59 (w' - 1)) < lst) ∧ rlF g fi X X' Y Y' := by
  have hg2 := lw_hi hg
  intro w
  induction w with
  | zero =>
    intro X Y len l2 l3 l4 h
    obtain ⟨h1, ⟨w1, w2, w3⟩, h3⟩ := id h
    refine ⟨X, Y, len, 0, ?_, ?_, h, Or.inl rfl, rlF.rf⟩
    · have c0 : (nI 0 : Int32) ≤ 0 := by decide
      rw [xX7_release_0]
      simp (disch := omega) only [xX7_release_1, xX7_release_4, xX7_release_7, xX7_release_8, xX7_release_11, xX7_release_12, xX7_release_15, xX7_release_16, xX7_release_17, xX7_release_18, xX7_release_21, xX7_release_22, xX7_release_25, xX7_release_26, xX7_release_26I, xX7_release_27, xX7_release_30, xX7_release_31, xX7_release_32, xX7_release_35, xX7_release_36, xX7_release_37, xX7_release_40, xX7_release_41, xX7_release_44, xX7_release_45, xX7_release_46, xX7_release_49, xX7_release_52, kd_56, fi_56_10, kd_59, ln_59, kd_56, ↓reduceIte, gd_t, hK_p, hN_p, hF_p, hI_p, hJ_p, hR_p, stI_p, stJ_p, stR_p, stA_p, va_rf_s, va_rf_n, clr_i, clr_l, clr_r, clr_n, clr_o, w8_0, w8_1i, w8_1r, w8_2ii, w8_2ri, w8_2ir, w8_2rr, w8_3, beq_self_eq_true, Bool.and_self, Bool.and_true, Bool.true_and, decide_true, Option.toList_some, Option.toList_none, List.cons_append, List.nil_append, Option.bind_some, if_true, if_false, Nat.reduceLeDiff, Nat.reduceLT, Nat.reduceBEq, Bool.or_false, Bool.false_or, Bool.or_true, Bool.true_or, w1, c0]
    · have c0 : (nI 0 : Int32) ≤ 0 := by decide
      rw [xX12_bind_0]
      simp (disch := omega) only [xX12_bind_1, xX12_bind_4, xX12_bind_7, xX12_bind_8, xX12_bind_11, xX12_bind_12, xX12_bind_15, xX12_bind_16, xX12_bind_17, xX12_bind_18, xX12_bind_21, xX12_bind_22, xX12_bind_25, xX12_bind_26, xX12_bind_26I, xX12_bind_27, xX12_bind_30, xX12_bind_31, xX12_bind_32, xX12_bind_35, xX12_bind_36, xX12_bind_39, xX12_bind_40, xX12_bind_43, xX12_bind_44, xX12_bind_45, xX12_bind_46, xX12_bind_47, xX12_bind_50, xX12_bind_51, xX12_bind_54, xX12_bind_55, xX12_bind_58, xX12_bind_59, xX12_bind_60, xX12_bind_63, xX12_bind_65, xX12_bind_66, xX12_bind_67, xX12_bind_69, xX12_bind_70, xX12_bind_73, xX12_bind_76, kd_123, fi_123_44, kd_147, ln_147, kd_123, ↓reduceIte, gd_t, hK_p, hN_p, hF_p, hI_p, hJ_p, hR_p, stI_p, stJ_p, stR_p, stA_p, va_rf_s, va_rf_n, clr_i, clr_l, clr_r, clr_n, clr_o, w8_0, w8_1i, w8_1r, w8_2ii, w8_2ri, w8_2ir, w8_2rr, w8_3, beq_self_eq_true, Bool.and_self, Bool.and_true, Bool.true_and, decide_true, Option.toList_some, Option.toList_none, List.cons_append, List.nil_append, Option.bind_some, if_true, if_false, Nat.reduceLeDiff, Nat.reduceLT, Nat.reduceBEq, Bool.or_false, Bool.false_or, Bool.or_true, Bool.true_or, w2, c0]
  | succ w ih =>
    intro X Y len l2 l3 l4 h
    obtain ⟨hpf, ⟨w1, w2, w3⟩, ⟨o1, o2, o3, o4⟩, ⟨k1, k2, k3, k4⟩, hd, hv⟩ := id h
    have ht := w3 w (by omega)
    have hw72 : w + 1 ≤ 72 := by have := hpf.2.2.1; omega
    have c0 : ¬ (nI (w + 1) : Int32) ≤ 0 := fun q => absurd ((nI_leI (a := w + 1) (b := 0) (by omega) (by omega)).mp q) (by omega)
    have e1 : nI (w + 1) - 1 = nI w := by rw [show (1 : Int32) = nI 1 from rfl, pk_sub (by omega), Nat.add_sub_cancel]
    have r6 := rkF_6 (X 59 w)
    by_cases hr : rkF (X 59 w) < lst
    · have c1 : nI (rkF (X 59 w)) < nI lst := (nI_ltI (by omega) (by omega)).mpr hr
      refine ⟨X, Y, len, w + 1, ?_, ?_, h, Or.inr hr, rlF.rf⟩
      · rw [xX7_release_0]
        simp (disch := omega) only [xX7_release_1, xX7_release_4, xX7_release_7, xX7_release_8, xX7_release_11, xX7_release_12, xX7_release_15, xX7_release_16, xX7_release_17, xX7_release_18, xX7_release_21, xX7_release_22, xX7_release_25, xX7_release_26, xX7_release_26I, xX7_release_27, xX7_release_30, xX7_release_31, xX7_release_32, xX7_release_35, xX7_release_36, xX7_release_37, xX7_release_40, xX7_release_41, xX7_release_44, xX7_release_45, xX7_release_46, xX7_release_49, xX7_release_52, kd_56, fi_56_10, kd_59, ln_59, kd_56, kd_59, ln_59, ↓reduceIte, gd_t, hK_p, hN_p, hF_p, hI_p, hJ_p, hR_p, stI_p, stJ_p, stR_p, stA_p, va_rf_s, va_rf_n, clr_i, clr_l, clr_r, clr_n, clr_o, w8_0, w8_1i, w8_1r, w8_2ii, w8_2ri, w8_2ir, w8_2rr, w8_3, beq_self_eq_true, Bool.and_self, Bool.and_true, Bool.true_and, decide_true, Option.toList_some, Option.toList_none, List.cons_append, List.nil_append, Option.bind_some, if_true, if_false, Nat.reduceLeDiff, Nat.reduceLT, Nat.reduceBEq, Bool.or_false, Bool.false_or, Bool.or_true, Bool.true_or, w1, c0, e1, inb_n, nI_clamp, rnk_c, c1]
      · rw [xX12_bind_0]
        simp (disch := omega) only [xX12_bind_1, xX12_bind_4, xX12_bind_7, xX12_bind_8, xX12_bind_11, xX12_bind_12, xX12_bind_15, xX12_bind_16, xX12_bind_17, xX12_bind_18, xX12_bind_21, xX12_bind_22, xX12_bind_25, xX12_bind_26, xX12_bind_26I, xX12_bind_27, xX12_bind_30, xX12_bind_31, xX12_bind_32, xX12_bind_35, xX12_bind_36, xX12_bind_39, xX12_bind_40, xX12_bind_43, xX12_bind_44, xX12_bind_45, xX12_bind_46, xX12_bind_47, xX12_bind_50, xX12_bind_51, xX12_bind_54, xX12_bind_55, xX12_bind_58, xX12_bind_59, xX12_bind_60, xX12_bind_63, xX12_bind_65, xX12_bind_66, xX12_bind_67, xX12_bind_69, xX12_bind_70, xX12_bind_73, xX12_bind_76, kd_123, fi_123_44, kd_147, ln_147, kd_123, kd_147, ln_147, ↓reduceIte, gd_t, hK_p, hN_p, hF_p, hI_p, hJ_p, hR_p, stI_p, stJ_p, stR_p, stA_p, va_rf_s, va_rf_n, clr_i, clr_l, clr_r, clr_n, clr_o, w8_0, w8_1i, w8_1r, w8_2ii, w8_2ri, w8_2ir, w8_2rr, w8_3, beq_self_eq_true, Bool.and_self, Bool.and_true, Bool.true_and, decide_true, Option.toList_some, Option.toList_none, List.cons_append, List.nil_append, Option.bind_some, if_true, if_false, Nat.reduceLeDiff, Nat.reduceLT, Nat.reduceBEq, Bool.or_false, Bool.false_or, Bool.or_true, Bool.true_or, w2, c0, e1, inb_n, nI_clamp, rnk_m ht, c1]
    · have c1 : ¬ nI (rkF (X 59 w)) < nI lst := fun q => hr ((nI_ltI (by omega) (by omega)).mp q)
      have n5 : ¬ X 59 w = 5 := fun q => by
        have : rkF (X 59 w) = 0 := by rw [q]; decide
        omega
      have ho : opn (X 59) w = o := by
        rw [← o4, opn, if_neg n5]; rfl
      have hol := opn_le (r := X 59) w
      have h64 : fi + len < 64 := by omega
      have hh := hgt_le (k := X (g + 1)) len
      generalize hX1 : va_up X 56 (upd (X 56) 11 (nI w)) = X1
      have x1o : ∀ c, c ≠ 56 → X1 c = X c := fun c hc => by rw [← hX1, up_n hc]
      have x1k : ∀ k, k ≠ 11 → X1 56 k = X 56 k := fun k hk => by rw [← hX1, up_s, pk_un hk]
      have x1w : X1 56 11 = nI w := by rw [← hX1, up_s, pk_us]
      have hpf1 : pfR X1 Y g fi len := pfR_fr hpf (by rw [x1o g (by omega)]) (x1o _ (by omega)) (x1o _ (by omega)) (fun _ _ _ _ => rfl) rfl rfl
      have x1g : X1 g 1 = nI len := hpf1.1
      have ha := adl_c (d := d) (X := X1) (J := J) (R := R) (len := len) (k := X 59 w) (nu := 0) hg x1g (by omega)
      have hc : E (C (d + 1)) MX7_release 0 [some (.ref 56), some (.ref g), some (.int (nI lst))] [] (hp X J R) = E (C (d + 1)) MX7_release 0 [some (.ref 56), some (.ref g), some (.int (nI lst))] [] (hp (puC X1 g len (X 59 w) 0) J R) := by
        rw [xX7_release_0 (h := hp X J R)]
        simp (disch := omega) only [xX7_release_1, xX7_release_4, xX7_release_7, xX7_release_8, xX7_release_11, xX7_release_12, xX7_release_15, xX7_release_16, xX7_release_17, xX7_release_18, xX7_release_21, xX7_release_22, xX7_release_25, xX7_release_26, xX7_release_26I, xX7_release_27, xX7_release_30, xX7_release_31, xX7_release_32, xX7_release_35, xX7_release_36, xX7_release_37, xX7_release_40, xX7_release_41, xX7_release_44, xX7_release_45, xX7_release_46, xX7_release_49, kd_56, fi_56_10, kd_59, ln_59, kd_56, kd_59, ln_59, lw_k0 hg, ↓reduceIte, gd_t, hK_p, hN_p, hF_p, hI_p, hJ_p, hR_p, stI_p, stJ_p, stR_p, stA_p, va_rf_s, va_rf_n, clr_i, clr_l, clr_r, clr_n, clr_o, w8_0, w8_1i, w8_1r, w8_2ii, w8_2ri, w8_2ir, w8_2rr, w8_3, beq_self_eq_true, Bool.and_self, Bool.and_true, Bool.true_and, decide_true, Option.toList_some, Option.toList_none, List.cons_append, List.nil_append, Option.bind_some, if_true, if_false, Nat.reduceLeDiff, Nat.reduceLT, Nat.reduceBEq, Bool.or_false, Bool.false_or, Bool.or_true, Bool.true_or, w1, c0, e1, inb_n, nI_clamp, rnk_c, c1, hX1, x1w, x1o, ha]
      obtain ⟨uc1, uc2, uc3⟩ := puC_e (X := X1) (g := g) (len := len) (k := X 59 w) (nu := 0)
      have uco := fun c h1 h2 h3 => puC_o (X := X1) (g := g) (len := len) (k := X 59 w) (nu := 0) c h1 h2 h3
      -- the model's side, once its knot is grown
      have fin : ∀ (Y2 : Mem) (h' : Nat) (a b : Int32), (∀ c, c ≠ 123 → Y2 c = Y c) → (∀ k, k ≠ 20 → k ≠ 46 → k ≠ 47 → Y2 123 k = Y 123 k) → Y2 123 46 = nI w → wfK (X 59 w) (hgt (X (g + 1)) len) → hgt (upd (X (g + 1)) len (X 59 w)) (len + 1) = h' + 1 → h' ≤ hgt (X (g + 1)) len → h' + 1 = bnn (X 59) w + 1 → cLw (upd (X (g + 1)) len (X 59 w)) (upd (X (g + 2)) len 0) (upd (sh64 (Y2 144)) (fi + len) (Y 147 w)) (upd (sh64 (Y2 145)) (fi + len) a) (upd (sh64 (Y2 146)) (fi + len) b) fi len → (∃ l2' l3' l4', E (C (d + 1)) MX12_bind 0 [some (.ref 123), some (.int (nI lst)), l2, l3, l4] [] (hp Y J2 R2) = E (C (d + 1)) MX12_bind 0 [some (.ref 123), some (.int (nI lst)), l2', l3', l4'] [] (hp (puM Y2 (fi + len) h' (Y 147 w) a b) J2 R2)) →
          ∃ X' Y' len' w', E (C (d + 1)) MX7_release 0 [some (.ref 56), some (.ref g), some (.int (nI lst))] [] (hp X J R) = some (none, hp X' J R) ∧ E (C (d + 1)) MX12_bind 0 [some (.ref 123), some (.int (nI lst)), l2, l3, l4] [] (hp Y J2 R2) = some (none, hp Y' J2 R2) ∧ xpR X' Y' g fi len' w' o c 1 ∧ (w' = 0 ∨ rkF (X' 59 (w' - 1)) < lst) ∧ rlF g fi X X' Y Y' := by
        intro Y2 h' a b y2o y2k y246 hwf hhg hle hbn hcl ⟨l2', l3', l4', hm⟩
        obtain ⟨um1, um2, um3, um4, um5⟩ := puM_e (Y := Y2) (q := fi + len) (h := h') (k := Y 147 w) (a := a) (b := b)
        have umo := fun c h1 h2 h3 => puM_o (Y := Y2) (q := fi + len) (h := h') (k := Y 147 w) (a := a) (b := b) c h1 h2 h3
        have hpush : pfR (puC X1 g len (X 59 w) 0) (puM Y2 (fi + len) h' (Y 147 w) a b) g fi (len + 1) := by
          refine pf_push (Y0 := Y) hpf1 h64 ?_ ?_ ?_ y2o ?_
          · rw [x1o _ (by omega)]; exact hwf
          · rw [x1o _ (by omega)]; exact hhg
          · rw [x1o _ (by omega)]; exact hle
          · rw [x1o _ (by omega), x1o _ (by omega)]; exact hcl
        have x59 : puC X1 g len (X 59 w) 0 59 = X 59 := by rw [uco 59 (by omega) (by omega) (by omega), x1o 59 (by omega)]
        have x56 : ∀ k, puC X1 g len (X 59 w) 0 56 k = X1 56 k := fun k => by rw [uco 56 (by omega) (by omega) (by omega)]
        have y123 : ∀ k, k ≠ 20 → k ≠ 47 → puM Y2 (fi + len) h' (Y 147 w) a b 123 k = Y2 123 k := fun k h1 h2 => by rw [um1, pk_un h1, pk_un h2]
        have hx2 : xpR (puC X1 g len (X 59 w) 0) (puM Y2 (fi + len) h' (Y 147 w) a b) g fi (len + 1) w o c 1 := by
          refine ⟨hpush, ⟨by rw [x56]; exact x1w, by rw [y123 46 (by decide) (by decide)]; exact y246, fun i hi => ?_⟩, ⟨by rw [x56, x1k 8 (by decide)]; exact o1, by rw [y123 48 (by decide) (by decide), y2k 48 (by decide) (by decide) (by decide)]; exact o2, o3, by rw [x59]; exact ho⟩, ⟨by rw [x56, x1k 7 (by decide)]; exact k1, by rw [y123 49 (by decide) (by decide), y2k 49 (by decide) (by decide) (by decide)]; exact k2, k3, by omega⟩, by rw [x56, x1k 9 (by decide), y123 51 (by decide) (by decide), y2k 51 (by decide) (by decide) (by decide)]; exact hd, ?_⟩
          · rw [x59, umo 147 (by decide) (by decide) (by decide), y2o 147 (by decide)]; exact w3 i (by omega)
          · rw [uc2, x59, x1o _ (by omega), hhg, hbn]
        have fr : rlF g fi X (puC X1 g len (X 59 w) 0) Y (puM Y2 (fi + len) h' (Y 147 w) a b) := by
          refine ⟨fun c h1 h2 h3 h4 => by rw [uco c h1 h2 h3, x1o c h4], fun k hk => by rw [uc1, pk_un hk, x1o g (by omega)], fun k hk => by rw [x56, x1k k hk], fun c h1 h2 => by rw [umo c h1 (by omega) (by omega), y2o c h1], fun a' k h1 h2 h3 => ?_, fun k h1 h2 h3 => by rw [y123 k h1 h3, y2k k h1 h2 h3]⟩
          rcases (show a' = 144 ∨ a' = 145 ∨ a' = 146 by omega) with rfl | rfl | rfl
          · rw [um2, pk_un (by omega), y2o _ (by decide)]
          · rw [um3, pk_un (by omega), y2o _ (by decide)]
          · rw [um4, pk_un (by omega), y2o _ (by decide)]
        obtain ⟨X', Y', len', w', z1, z2, z3, z4, z5⟩ := ih _ _ (len + 1) l2' l3' l4' hx2
        exact ⟨X', Y', len', w', hc.trans z1, hm.trans z2, z3, z4, fr.tr z5⟩
      have h147 : Y 147 w = Y 147 w := rfl
      rcases ht with ⟨t1, -⟩ | ⟨t1, t2⟩ | ⟨t1, t2⟩
      · exact absurd t1 n5
      · -- not
        have hb : bnn (X 59) (w + 1) = bnn (X 59) w := by rw [bnn, if_pos (Or.inr t1)]; rfl
        have hpos : 0 < hgt (X (g + 1)) len := by omega
        obtain ⟨h', eh⟩ : ∃ h', hgt (X (g + 1)) len = h' + 1 := ⟨hgt (X (g + 1)) len - 1, by omega⟩
        generalize hY1 : va_up Y 123 (upd (Y 123) 46 (nI w)) = Y1
        have y1o : ∀ c, c ≠ 123 → Y1 c = Y c := fun c hc => by rw [← hY1, up_n hc]
        have y1k : ∀ k, k ≠ 46 → Y1 123 k = Y 123 k := fun k hk => by rw [← hY1, up_s, pk_un hk]
        have y1w : Y1 123 46 = nI w := by rw [← hY1, up_s, pk_us]
        have y47 : Y1 123 47 = nI (h' + 1) := by rw [y1k 47 (by decide), ← eh]; exact hpf.2.2.2.2.1
        have hdr := drp_m (d := d) (Y := Y1) (J2 := J2) (R2 := R2) y47 (by omega)
        generalize hY2 : va_up Y1 123 (upd (Y1 123) 47 (nI h')) = Y2 at hdr
        have y2o : ∀ c, c ≠ 123 → Y2 c = Y c := fun c hc => by rw [← hY2, up_n hc, y1o c hc]
        have y2k : ∀ k, k ≠ 47 → Y2 123 k = Y1 123 k := fun k hk => by rw [← hY2, up_s, pk_un hk]
        have hgr := grw_m (d := d) (Y := Y2) (J2 := J2) (R2 := R2) (q := fi + len) (h := h') (k := Y 147 w) (a := Y1 148 h') (b := -1) (by rw [y2k 20 (by decide), y1k 20 (by decide)]; exact hpf.2.1) (by rw [← hY2, up_s, pk_us]) h64 (by omega)
        refine fin Y2 h' (Y1 148 h') (-1) y2o (fun k h1 h2 h3 => by rw [y2k k h3, y1k k h2]) (by rw [y2k 46 (by decide)]; exact y1w) (Or.inr (Or.inr (Or.inl ⟨t1, hpos⟩))) ?_ (by omega) (by omega) ?_ ⟨some (.int (Y 147 w)), some (.int (-1)), some (.int (Y1 148 h')), ?_⟩
        · rw [hgt_push, t1, if_neg (by decide), if_pos rfl, eh]
        · refine Or.inr (Or.inr (Or.inl ⟨by rw [pk_us]; exact t1, by rw [pk_us]; exact t2, ?_⟩))
          rw [pk_us, hgt_cg (k := upd (X (g + 1)) len (X 59 w)) (k' := X (g + 1)) len (fun j hj => pk_un (by omega)), ixs_cg (k := upd (X (g + 1)) len (X 59 w)) (k' := X (g + 1)) len (fun j hj => pk_un (by omega)), eh, Nat.add_sub_cancel, y1o 148 (by decide)]
          exact hpf.2.2.2.2.2 h' (by omega)
        · have e2 := eq_true t2
          rw [xX12_bind_0 (h := hp Y J2 R2)]
          simp (disch := omega) only [xX12_bind_1, xX12_bind_4, xX12_bind_7, xX12_bind_8, xX12_bind_11, xX12_bind_12, xX12_bind_15, xX12_bind_16, xX12_bind_17, xX12_bind_18, xX12_bind_21, xX12_bind_22, xX12_bind_25, xX12_bind_26, xX12_bind_26I, xX12_bind_27, xX12_bind_30, xX12_bind_31, xX12_bind_32, xX12_bind_35, xX12_bind_36, xX12_bind_39, xX12_bind_40, xX12_bind_43, xX12_bind_44, xX12_bind_45, xX12_bind_46, xX12_bind_47, xX12_bind_50, xX12_bind_51, xX12_bind_54, xX12_bind_55, xX12_bind_58, xX12_bind_59, xX12_bind_60, xX12_bind_63, xX12_bind_65, xX12_bind_66, xX12_bind_67, xX12_bind_69, xX12_bind_70, xX12_bind_73, kd_123, fi_123_44, kd_147, ln_147, kd_123, kd_147, ln_147, ↓reduceIte, gd_t, hK_p, hN_p, hF_p, hI_p, hJ_p, hR_p, stI_p, stJ_p, stR_p, stA_p, va_rf_s, va_rf_n, clr_i, clr_l, clr_r, clr_n, clr_o, w8_0, w8_1i, w8_1r, w8_2ii, w8_2ri, w8_2ir, w8_2rr, w8_3, beq_self_eq_true, Bool.and_self, Bool.and_true, Bool.true_and, decide_true, Option.toList_some, Option.toList_none, List.cons_append, List.nil_append, Option.bind_some, if_true, if_false, Nat.reduceLeDiff, Nat.reduceLT, Nat.reduceBEq, Bool.or_false, Bool.false_or, Bool.or_true, Bool.true_or, w8_4, w2, c0, e1, inb_n, nI_clamp, rnk_m (w3 w (by omega)), c1, hY1, y1w, y1o 147 (by decide), e2, hdr, hgr, not_true_eq_false]
      · -- a sign of two
        obtain ⟨nb1, nb2, nb3⟩ := bin_no t1
        obtain ⟨nm1, nm2, nm3⟩ := kmp_no t1
        have hb : bnn (X 59) (w + 1) = bnn (X 59) w + 1 := by rw [bnn, if_neg (fun q => q.elim n5 nb3)]
        have hpos : 1 < hgt (X (g + 1)) len := by omega
        obtain ⟨h', eh⟩ : ∃ h', hgt (X (g + 1)) len = h' + 2 := ⟨hgt (X (g + 1)) len - 2, by omega⟩
        generalize hY1 : va_up Y 123 (upd (Y 123) 46 (nI w)) = Y1
        have y1o : ∀ c, c ≠ 123 → Y1 c = Y c := fun c hc => by rw [← hY1, up_n hc]
        have y1k : ∀ k, k ≠ 46 → Y1 123 k = Y 123 k := fun k hk => by rw [← hY1, up_s, pk_un hk]
        have y1w : Y1 123 46 = nI w := by rw [← hY1, up_s, pk_us]
        have y47 : Y1 123 47 = nI (h' + 1 + 1) := by rw [y1k 47 (by decide), show h' + 1 + 1 = h' + 2 from rfl, ← eh]; exact hpf.2.2.2.2.1
        have hdr1 := drp_m (d := d) (Y := Y1) (J2 := J2) (R2 := R2) y47 (by omega)
        generalize hY2 : va_up Y1 123 (upd (Y1 123) 47 (nI (h' + 1))) = Y2 at hdr1
        have y2o : ∀ c, c ≠ 123 → Y2 c = Y c := fun c hc => by rw [← hY2, up_n hc, y1o c hc]
        have y2k : ∀ k, k ≠ 47 → Y2 123 k = Y1 123 k := fun k hk => by rw [← hY2, up_s, pk_un hk]
        have hdr2 := drp_m (d := d) (Y := Y2) (J2 := J2) (R2 := R2) (h := h') (by rw [← hY2, up_s, pk_us]) (by omega)
        generalize hY3 : va_up Y2 123 (upd (Y2 123) 47 (nI h')) = Y3 at hdr2
        have y3o : ∀ c, c ≠ 123 → Y3 c = Y c := fun c hc => by rw [← hY3, up_n hc, y2o c hc]
        have y3k : ∀ k, k ≠ 47 → Y3 123 k = Y1 123 k := fun k hk => by rw [← hY3, up_s, pk_un hk, y2k k hk]
        have hgr := grw_m (d := d) (Y := Y3) (J2 := J2) (R2 := R2) (q := fi + len) (h := h') (k := Y 147 w) (a := Y2 148 h') (b := Y1 148 (h' + 1)) (by rw [y3k 20 (by decide), y1k 20 (by decide)]; exact hpf.2.1) (by rw [← hY3, up_s, pk_us]) h64 (by omega)
        refine fin Y3 h' (Y2 148 h') (Y1 148 (h' + 1)) y3o (fun k h1 h2 h3 => by rw [y3k k h3, y1k k h2]) (by rw [y3k 46 (by decide)]; exact y1w) (Or.inr (Or.inr (Or.inr ⟨nb1, nb2, nb3, hpos⟩))) ?_ (by omega) (by omega) ?_ ⟨some (.int (Y 147 w)), some (.int (Y1 148 (h' + 1))), some (.int (Y2 148 h')), ?_⟩
        · rw [hgt_push, if_neg (fun q => q.elim nb1 nb2), if_neg nb3, eh]; rfl
        · refine Or.inr (Or.inr (Or.inr ⟨by rw [pk_us]; exact t1, by rw [pk_us, pk_us]; exact t2, ?_, ?_⟩))
          · rw [pk_us, hgt_cg (k := upd (X (g + 1)) len (X 59 w)) (k' := X (g + 1)) len (fun j hj => pk_un (by omega)), ixs_cg (k := upd (X (g + 1)) len (X 59 w)) (k' := X (g + 1)) len (fun j hj => pk_un (by omega)), eh, Nat.add_sub_cancel, y2o 148 (by decide)]
            exact hpf.2.2.2.2.2 h' (by omega)
          · rw [pk_us, hgt_cg (k := upd (X (g + 1)) len (X 59 w)) (k' := X (g + 1)) len (fun j hj => pk_un (by omega)), ixs_cg (k := upd (X (g + 1)) len (X 59 w)) (k' := X (g + 1)) len (fun j hj => pk_un (by omega)), eh, show h' + 2 - 1 = h' + 1 from rfl, y1o 148 (by decide)]
            exact hpf.2.2.2.2.2 (h' + 1) (by omega)
        · have e2 : ¬ Y 147 w = 2 := by rw [t2]; exact nm3
          rw [xX12_bind_0 (h := hp Y J2 R2)]
          simp (disch := omega) only [xX12_bind_1, xX12_bind_4, xX12_bind_7, xX12_bind_8, xX12_bind_11, xX12_bind_12, xX12_bind_15, xX12_bind_16, xX12_bind_17, xX12_bind_18, xX12_bind_21, xX12_bind_22, xX12_bind_25, xX12_bind_26, xX12_bind_26I, xX12_bind_27, xX12_bind_30, xX12_bind_31, xX12_bind_32, xX12_bind_35, xX12_bind_36, xX12_bind_39, xX12_bind_40, xX12_bind_43, xX12_bind_44, xX12_bind_45, xX12_bind_46, xX12_bind_47, xX12_bind_50, xX12_bind_51, xX12_bind_54, xX12_bind_55, xX12_bind_58, xX12_bind_59, xX12_bind_60, xX12_bind_63, xX12_bind_65, xX12_bind_66, xX12_bind_67, xX12_bind_69, xX12_bind_70, xX12_bind_73, kd_123, fi_123_44, kd_147, ln_147, kd_123, kd_147, ln_147, ↓reduceIte, gd_t, hK_p, hN_p, hF_p, hI_p, hJ_p, hR_p, stI_p, stJ_p, stR_p, stA_p, va_rf_s, va_rf_n, clr_i, clr_l, clr_r, clr_n, clr_o, w8_0, w8_1i, w8_1r, w8_2ii, w8_2ri, w8_2ir, w8_2rr, w8_3, beq_self_eq_true, Bool.and_self, Bool.and_true, Bool.true_and, decide_true, Option.toList_some, Option.toList_none, List.cons_append, List.nil_append, Option.bind_some, if_true, if_false, Nat.reduceLeDiff, Nat.reduceLT, Nat.reduceBEq, Bool.or_false, Bool.false_or, Bool.or_true, Bool.true_or, w8_4, w2, c0, e1, inb_n, nI_clamp, rnk_m (w3 w (by omega)), c1, hY1, y1w, y1o 147 (by decide), e2, hdr1, hdr2, hgr, not_false_eq_true]
/-- release and bind, called -/
theorem rel_q {d lst len w : Nat} {X Y : Mem} (hg : isLw g) (h1 : 1 ≤ lst) (h7 : lst ≤ 7) (h : xpR X Y g fi len w o c 1) : ∃ X' Y' len' w', C (d + 2) MX7_release [.ref 56, .ref g, .int (nI lst)] (hp X J R) = some (none, hp X' J R) ∧ C (d + 2) MX12_bind [.ref 123, .int (nI lst)] (hp Y J2 R2) = some (none, hp Y' J2 R2) ∧ xpR X' Y' g fi len' w' o c 1 ∧ (w' = 0 ∨ rkF (X' 59 (w' - 1)) < lst) ∧ rlF g fi X X' Y Y' := by
  obtain ⟨X', Y', len', w', z1, z2, z3⟩ := rel_p (d := d) (J := J) (J2 := J2) (R := R) (R2 := R2) (lst := lst) hg h1 h7 w X Y len none none none h
  exact ⟨X', Y', len', w', by rw [eX7_release]; exact z1, by rw [eX12_bind]; exact z2, z3⟩
end RL

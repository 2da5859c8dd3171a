-- MODEL, 3: its laws by the names alone; a clock goes
def wfM (kn pa ot : Nat → Int32) (fi la : Nat) : Prop := fi < la ∧ la ≤ 64 ∧ ∀ i, fi ≤ i → i < la → okK kn pa ot i ∧ (¬ kn i = 0 → ¬ kn i = 1 → fi ≤ (pa i).toNatClampNeg ∧ (pa i).toNatClampNeg < i) ∧ (¬ kn i = 0 → ¬ kn i = 1 → ¬ kn i = 2 → fi ≤ (ot i).toNatClampNeg ∧ (ot i).toNatClampNeg < i)
theorem inb_7 {x : Int32} {n : Nat} (h : inb x n = true) : x.toNatClampNeg < n := by
  unfold inb at h
  simp only [Bool.and_eq_true, decide_eq_true_eq] at h
  exact h.2
theorem valR_cong {kn pa ot : Nat → Int32} {na nb V W : Nat → Int64} {err : Int32} {fi i : Nat} (hn : ∀ j, j < 7 → na j = nb j) (hv : ∀ j, fi ≤ j → j < i → V j = W j)
    (hk : okK kn pa ot i ∧ (¬ kn i = 0 → ¬ kn i = 1 → fi ≤ (pa i).toNatClampNeg ∧ (pa i).toNatClampNeg < i) ∧ (¬ kn i = 0 → ¬ kn i = 1 → ¬ kn i = 2 → fi ≤ (ot i).toNatClampNeg ∧ (ot i).toNatClampNeg < i)) : valR kn pa ot na V err i = valR kn pa ot nb W err i := by
  obtain ⟨⟨o1, o2, o3, o4⟩, p1, p2⟩ := hk
  unfold valR
  by_cases k0 : kn i = 0
  · simp only [k0, if_true]
  by_cases k1 : kn i = 1
  · simp only [k1, if_true, hn _ (inb_7 (o2 k1))]
  have hp := p1 k0 k1
  simp only [if_neg k0, if_neg k1, hv _ hp.1 hp.2]
  by_cases k2 : kn i = 2
  · simp only [if_pos k2]
  have hq := p2 k0 k1 k2
  simp only [if_neg k2, hv _ hq.1 hq.2]
theorem valS_cong {kn pa ot : Nat → Int32} {na nb : Nat → Int64} {fi la : Nat} (hn : ∀ j, j < 7 → na j = nb j) (hw : wfM kn pa ot fi la) : ∀ (k i : Nat) (V W : Nat → Int64) (err : Int32), fi ≤ i → i + k = la → (∀ j, fi ≤ j → j < i → V j = W j) →
    (itf (valS kn pa ot na) k i (V, err)).2 = (itf (valS kn pa ot nb) k i (W, err)).2 ∧ ∀ j, fi ≤ j → j < la → (itf (valS kn pa ot na) k i (V, err)).1 j = (itf (valS kn pa ot nb) k i (W, err)).1 j
  | 0, i, V, W, err, h1, h2, hv => ⟨rfl, fun j hj hl => hv j hj (by omega)⟩
  | k + 1, i, V, W, err, h1, h2, hv => by
    unfold itf
    have e := valR_cong (err := err) hn hv (hw.2.2 i h1 (by omega))
    have ha : valS kn pa ot na i (V, err) = (vp_updL V i (valR kn pa ot nb W err i).1, (valR kn pa ot nb W err i).2) := by
      unfold valS
      dsimp only
      rw [e]
    have hb : valS kn pa ot nb i (W, err) = (vp_updL W i (valR kn pa ot nb W err i).1, (valR kn pa ot nb W err i).2) := rfl
    rw [ha, hb]
    refine valS_cong hn hw k (i + 1) _ _ _ (by omega) (by omega) (fun j hj hl => ?_)
    by_cases hji : j = i
    · rw [hji, pk_uLs, pk_uLs]
    · rw [pk_uLn hji, pk_uLn hji]
      exact hv j hj (by omega)
def lawM (told : Int32) (kn pa ot : Nat → Int32) (na : Nat → Int64) (fi la : Nat) (wo mo : Int32) : Int32 := lawR told kn pa ot na (fun _ => 0) fi la wo mo
theorem lawR_eq {told : Int32} {kn pa ot : Nat → Int32} {na nb V : Nat → Int64} {fi la : Nat} {wo mo : Int32} (hn : ∀ j, j < 7 → na j = nb j) (hw : wfM kn pa ot fi la) : lawR told kn pa ot na V fi la wo mo = lawM told kn pa ot nb fi la wo mo := by
  unfold lawM lawR
  obtain ⟨h1, h2⟩ := valS_cong hn hw (la - fi) fi V (fun _ => 0) 0 (Nat.le_refl _) (by have := hw.1; omega) (fun j hj hl => absurd hl (by omega))
  rw [h1, h2 (la - 1) (by have := hw.1; omega) (by have := hw.1; omega)]
/-- a part of a row, from a place on -/
def pt (at1 : Nat) (r f : Nat → Int32) : Nat → Int32 := fun k => if at1 ≤ k ∧ k < at1 + 6 then f (k - at1) else r k
theorem pt_at {at1 c : Nat} {r f : Nat → Int32} (h : c < 6) : pt at1 r f (at1 + c) = f c := by
  unfold pt
  rw [if_pos ⟨by omega, by omega⟩]
  congr 1
  omega
theorem pt_up {at1 c : Nat} {r f : Nat → Int32} {v : Int32} (h : c < 6) : upd (pt at1 r f) (at1 + c) v = pt at1 r (upd f c v) := by
  funext k
  by_cases hk : k = at1 + c
  · subst hk
    rw [pk_us, pt_at h, pk_us]
  · rw [pk_un hk]
    unfold pt
    split
    · rw [pk_un (by omega)]
    · rfl
def mdM (I : Mem) (o ph sw ct sa : Nat → Int32) : Mem := fun a => if a = 123 then o else if a = 153 then ph else if a = 154 then sw else if a = 155 then ct else if a = 156 then sa else I a
section MDM
variable {I : Mem} {a : Nat} {o ph sw ct sa r : Nat → Int32}
theorem mdM_0 : mdM I o ph sw ct sa 123 = o := rfl
theorem mdM_1 : mdM I o ph sw ct sa 153 = ph := rfl
theorem mdM_2 : mdM I o ph sw ct sa 154 = sw := rfl
theorem mdM_3 : mdM I o ph sw ct sa 155 = ct := rfl
theorem mdM_4 : mdM I o ph sw ct sa 156 = sa := rfl
theorem mdM_o (h0 : a ≠ 123) (h1 : a ≠ 153) (h2 : a ≠ 154) (h3 : a ≠ 155) (h4 : a ≠ 156) : mdM I o ph sw ct sa a = I a := by simp [mdM, h0, h1, h2, h3, h4]
theorem mdM_w0 : va_up (mdM I o ph sw ct sa) 123 r = mdM I r ph sw ct sa := by
  funext a
  by_cases h : a = 123
  · subst h; rw [up_s, mdM_0]
  · rw [up_n h]; simp [mdM, h]
theorem mdM_w1 : va_up (mdM I o ph sw ct sa) 153 r = mdM I o r sw ct sa := by
  funext a
  by_cases h : a = 153
  · subst h; rw [up_s, mdM_1]
  · rw [up_n h]; simp [mdM, h]
theorem mdM_w2 : va_up (mdM I o ph sw ct sa) 154 r = mdM I o ph r ct sa := by
  funext a
  by_cases h : a = 154
  · subst h; rw [up_s, mdM_2]
  · rw [up_n h]; simp [mdM, h]
theorem mdM_w3 : va_up (mdM I o ph sw ct sa) 155 r = mdM I o ph sw r sa := by
  funext a
  by_cases h : a = 155
  · subst h; rw [up_s, mdM_3]
  · rw [up_n h]; simp [mdM, h]
theorem mdM_w4 : va_up (mdM I o ph sw ct sa) 156 r = mdM I o ph sw ct r := by
  funext a
  by_cases h : a = 156
  · subst h; rw [up_s, mdM_4]
  · rw [up_n h]; simp [mdM, h]
end MDM
/-- the model's memory with the clocks from at1 on in a state s -/
def mdS (I : Mem) (at1 : Nat) (o : Nat → Int32) (s : S5) : Mem := mdM I (upd o 69 s.2.2.2.2) (pt at1 (I 153) s.1) (pt at1 (I 154) s.2.1) (pt at1 (I 155) s.2.2.1) (pt at1 (I 156) s.2.2.2.1)
def losM (I : Mem) (fL lL : Nat) (nm : Nat → Int64) : Int32 := if I 123 62 = 0 then 0 else lawM (I 141 0) (I 144) (I 145) (I 146) nm fL lL 0 999
def goMd (I : Mem) (fG lG : Nat) (nm : Nat → Int64) (sp : Int32) : Int32 := lawM (I 141 1) (I 144) (I 145) (I 146) nm fG lG sp 99
/-- a law of the model's text is not told, or well-formed -/
def okM1 (I : Mem) (k fi la : Nat) : Prop := I 141 k = 0 ∨ (I 142 k = nI fi ∧ I 143 k = nI la ∧ wfM (I 144) (I 145) (I 146) fi la)
def okM (I : Mem) (fL lL fG lG : Nat) : Prop := okM1 I 0 fL lL ∧ okM1 I 1 fG lG
theorem lawO2 {d k at1 c fi la : Nat} {t wo mo : Int32} {I : Mem} {J : MemL} {R : MemR} (hk : k < 2) (ha : at1 ≤ 6) (hc : c < 6) (hw : okM1 I k fi la) :
    ∃ err' J', C (d + 3) MX12_lawOf [.ref 123, .int (nI k), .int (nI at1), .int (nI c), .int t, .int wo, .int mo] (hp I J R) = some (some (.int (lawM (I 141 k) (I 144) (I 145) (I 146) (namF (I 157 c) (I 154 (at1 + c)) (I 159 c / 1000) (wghM I c) (I 152 (at1 + c)) t (I 155 (at1 + c))) fi la wo mo)), hp (va_up I 123 (upd (I 123) 54 err')) J' R) := by
  rcases hw with z | ⟨h1, h2, h3⟩
  · refine ⟨I 123 54, J, ?_⟩
    unfold lawM lawR
    rw [eX12_lawOf, upd_self rfl, up_self, if_pos z]
    simp (disch := omega) only [xX12_lawOf_0, xX12_lawOf_1, xX12_lawOf_4, xX12_lawOf_5, xX12_lawOf_6, xX12_lawOf_9, xX12_lawOf_11, kd_123, fi_123_38, kd_141, ln_141, fi_123_39, kd_142, ln_142, fi_123_40, kd_143, ln_143, fi_123_52, kd_149, ln_149, fi_123_53, kd_150, ln_150, fi_123_56, kd_152, ln_152, fi_123_58, kd_154, ln_154, fi_123_59, kd_155, ln_155, fi_123_66, kd_157, ln_157, fi_123_68, kd_159, ln_159, ↓reduceIte, gd_t, hK_p, hN_p, hF_p, hI_p, hJ_p, hR_p, stI_p, stJ_p, stR_p, stA_p, va_rf_s, va_rf_n, clr_i, clr_l, clr_r, clr_n, clr_o, w8_0, w8_1i, w8_1r, w8_2ii, w8_2ri, w8_2ir, w8_2rr, w8_3, beq_self_eq_true, Bool.and_self, Bool.and_true, Bool.true_and, decide_true, Option.toList_some, Option.toList_none, List.cons_append, List.nil_append, Option.bind_some, if_true, if_false, Nat.reduceLeDiff, Nat.reduceLT, Nat.reduceBEq, Bool.or_false, Bool.false_or, Bool.or_true, Bool.true_or, nI_leI, nI_ltI, nI_eq, nI_clamp, inb_n, up_s, up_n, bx_uu, nI_1, ix6, nI_0n, pk_us, pk_un, ge_0n, z, not_true_eq_false]
  · obtain ⟨e', J', h⟩ := lawO_spec (d := d) (t := t) (wo := wo) (mo := mo) (J := J) (R := R) hk ha hc h1 h2 h3.1 h3.2.1 (fun i a b => (h3.2.2 i a b).1)
    refine ⟨e', J', ?_⟩
    rw [h, lawR_eq nmr_at h3]
theorem btw_b {x y : Int32} : (if 0 ≤ x then (if x ≤ y then x else y) else 0) = btwF 0 x y := rfl
theorem goe_spec {d at1 c fL lL fG lG : Nat} {t : Int32} {I : Mem} {J : MemL} {R : MemR} {o ph sw ct sa : Nat → Int32} (ha : at1 ≤ 6) (hc : c < 6) (hw : okM I fL lL fG lG) (h63 : o 63 = I 123 63) (h62 : o 62 = I 123 62) (hm0 : ¬ 1000 * wghM I c = 0) :
    ∃ e' J', C (d + 4) MX12_goes [.ref 123, .int (nI at1), .int (nI c), .int t] (hp (mdM I o (pt at1 (I 153) ph) (pt at1 (I 154) sw) (pt at1 (I 155) ct) (pt at1 (I 156) sa)) J R) =
      some (none, hp (mdS I at1 (upd o 54 e') (movS (losM I fL lL) (goMd I fG lG) (I 135) (I 157) (wghM I) (fun k => I 152 (at1 + k)) (I 159) t c (ph, sw, ct, sa, o 69))) J' R) := by
  have hwg : ∀ (e : Int32) (p q r s : Nat → Int32), wghM (mdM I (upd o 54 e) p q r s) c = wghM I c := by
    intro e p q r s
    unfold wghM
    rw [mdM_0, mdM_o (by decide) (by decide) (by decide) (by decide) (by decide), pk_un (by decide), h63]
  have hwg0 : ∀ (p q r s : Nat → Int32), wghM (mdM I o p q r s) c = wghM I c := by
    intro p q r s
    unfold wghM
    rw [mdM_0, mdM_o (by decide) (by decide) (by decide) (by decide) (by decide), h63]
  have hok : ∀ (p q r s o' : Nat → Int32), okM (mdM I o' p q r s) fL lL fG lG := by
    intro p q r s o'
    unfold okM okM1 at hw ⊢
    simp (disch := omega) only [mdM_o]
    exact hw
  obtain ⟨e1, J1, h1⟩ : ∃ e1 J1, E (C (d + 3)) MX12_goes 0 [some (.ref 123), some (.int (nI at1)), some (.int (nI c)), some (.int t), none, none, none] [] (hp (mdM I o (pt at1 (I 153) ph) (pt at1 (I 154) sw) (pt at1 (I 155) ct) (pt at1 (I 156) sa)) J R) =
      E (C (d + 3)) MX12_goes 23 [some (.ref 123), some (.int (nI at1)), some (.int (nI c)), some (.int t), none, none, none] [.int (losM I fL lL (namF (I 157 c) (sw c) (I 159 c / 1000) (wghM I c) (I 152 (at1 + c)) t (ct c)))] (hp (mdM I (upd o 54 e1) (pt at1 (I 153) ph) (pt at1 (I 154) sw) (pt at1 (I 155) ct) (pt at1 (I 156) sa)) J1 R) := by
    unfold losM
    by_cases z : I 123 62 = 0
    · refine ⟨o 54, J, ?_⟩
      rw [upd_self rfl, if_pos z]
      simp (disch := omega) only [xX12_goes_0, xX12_goes_1, xX12_goes_4, xX12_goes_7, xX12_goes_8, xX12_goes_9, xX12_goes_10, xX12_goes_11, xX12_goes_12, xX12_goes_13, xX12_goes_16, xX12_goes_19, xX12_goes_22, kd_123, fi_123_32, kd_135, ln_135, fi_123_57, kd_153, ln_153, fi_123_58, kd_154, ln_154, fi_123_59, kd_155, ln_155, fi_123_60, kd_156, ln_156, fi_123_66, kd_157, ln_157, fi_123_68, kd_159, ln_159, ↓reduceIte, gd_t, hK_p, hN_p, hF_p, hI_p, hJ_p, hR_p, stI_p, stJ_p, stR_p, stA_p, va_rf_s, va_rf_n, clr_i, clr_l, clr_r, clr_n, clr_o, w8_0, w8_1i, w8_1r, w8_2ii, w8_2ri, w8_2ir, w8_2rr, w8_3, beq_self_eq_true, Bool.and_self, Bool.and_true, Bool.true_and, decide_true, Option.toList_some, Option.toList_none, List.cons_append, List.nil_append, Option.bind_some, if_true, if_false, Nat.reduceLeDiff, Nat.reduceLT, Nat.reduceBEq, Bool.or_false, Bool.false_or, Bool.or_true, Bool.true_or, nI_leI, nI_ltI, nI_eq, nI_clamp, inb_n, up_s, up_n, bx_uu, nI_1, ix6, nI_0n, pk_us, pk_un, ge_0n, mdM_0, h62, z]
    · obtain ⟨e1, J1, h⟩ := lawO2 (d := d) (k := 0) (at1 := at1) (c := c) (t := t) (wo := 0) (mo := 999) (I := mdM I o (pt at1 (I 153) ph) (pt at1 (I 154) sw) (pt at1 (I 155) ct) (pt at1 (I 156) sa)) (J := J) (R := R) (by omega) ha hc (hok _ _ _ _ _).1
      rw [hwg0] at h
      simp (disch := omega) only [mdM_0, mdM_1, mdM_2, mdM_3, mdM_4, mdM_o, mdM_w0, pt_at] at h
      refine ⟨e1, J1, ?_⟩
      rw [nI_0] at h
      rw [if_neg z]
      simp (disch := omega) only [xX12_goes_0, xX12_goes_1, xX12_goes_4, xX12_goes_7, xX12_goes_8, xX12_goes_9, xX12_goes_10, xX12_goes_11, xX12_goes_12, xX12_goes_13, xX12_goes_16, xX12_goes_19, xX12_goes_22, kd_123, fi_123_32, kd_135, ln_135, fi_123_57, kd_153, ln_153, fi_123_58, kd_154, ln_154, fi_123_59, kd_155, ln_155, fi_123_60, kd_156, ln_156, fi_123_66, kd_157, ln_157, fi_123_68, kd_159, ln_159, ↓reduceIte, gd_t, hK_p, hN_p, hF_p, hI_p, hJ_p, hR_p, stI_p, stJ_p, stR_p, stA_p, va_rf_s, va_rf_n, clr_i, clr_l, clr_r, clr_n, clr_o, w8_0, w8_1i, w8_1r, w8_2ii, w8_2ri, w8_2ir, w8_2rr, w8_3, beq_self_eq_true, Bool.and_self, Bool.and_true, Bool.true_and, decide_true, Option.toList_some, Option.toList_none, List.cons_append, List.nil_append, Option.bind_some, if_true, if_false, Nat.reduceLeDiff, Nat.reduceLT, Nat.reduceBEq, Bool.or_false, Bool.false_or, Bool.or_true, Bool.true_or, nI_leI, nI_ltI, nI_eq, nI_clamp, inb_n, up_s, up_n, bx_uu, nI_1, ix6, nI_0n, pk_us, pk_un, ge_0n, mdM_0, h62, z, h]
  rw [eX12_goes, h1]
  unfold movS mdS
  dsimp only
  generalize hx : losM I fL lL (namF (I 157 c) (sw c) (I 159 c / 1000) (wghM I c) (I 152 (at1 + c)) t (ct c)) = x
  generalize hy : btwF 0 (sw c + I 135 c - x) 999 = y
  have hgo : ∃ e2, E (C (d + 3)) MX12_goes 23 [some (.ref 123), some (.int (nI at1)), some (.int (nI c)), some (.int t), none, none, none] [.int x] (hp (mdM I (upd o 54 e1) (pt at1 (I 153) ph) (pt at1 (I 154) sw) (pt at1 (I 155) ct) (pt at1 (I 156) sa)) J1 R) =
      E (C (d + 3)) MX12_goes 78 [some (.ref 123), some (.int (nI at1)), some (.int (nI c)), some (.int t), some (.int x), some (.int e2), none] [] (hp (mdM I (upd o 54 e1) (pt at1 (I 153) ph) (pt at1 (I 154) (upd sw c y)) (pt at1 (I 155) ct) (pt at1 (I 156) sa)) J1 R) := by
    refine ⟨sw c + I 135 c - x, ?_⟩
    rw [← hy]
    unfold btwF
    by_cases z : 0 ≤ sw c + I 135 c - x
    · by_cases w : sw c + I 135 c - x ≤ 999 <;> simp (disch := omega) only [xX12_goes_23, xX12_goes_25, xX12_goes_26, xX12_goes_29, xX12_goes_30, xX12_goes_31, xX12_goes_32, xX12_goes_33, xX12_goes_34, xX12_goes_37, xX12_goes_38, xX12_goes_39, xX12_goes_40, xX12_goes_42, xX12_goes_43, xX12_goes_45, xX12_goes_46, xX12_goes_49, xX12_goes_50, xX12_goes_51, xX12_goes_52, xX12_goes_54, xX12_goes_57, xX12_goes_58, xX12_goes_61, xX12_goes_63, xX12_goes_66, xX12_goes_69, xX12_goes_72, xX12_goes_75, xX12_goes_77, kd_123, fi_123_32, kd_135, ln_135, fi_123_57, kd_153, ln_153, fi_123_58, kd_154, ln_154, fi_123_59, kd_155, ln_155, fi_123_60, kd_156, ln_156, fi_123_66, kd_157, ln_157, fi_123_68, kd_159, ln_159, ↓reduceIte, gd_t, hK_p, hN_p, hF_p, hI_p, hJ_p, hR_p, stI_p, stJ_p, stR_p, stA_p, va_rf_s, va_rf_n, clr_i, clr_l, clr_r, clr_n, clr_o, w8_0, w8_1i, w8_1r, w8_2ii, w8_2ri, w8_2ir, w8_2rr, w8_3, beq_self_eq_true, Bool.and_self, Bool.and_true, Bool.true_and, decide_true, Option.toList_some, Option.toList_none, List.cons_append, List.nil_append, Option.bind_some, if_true, if_false, Nat.reduceLeDiff, Nat.reduceLT, Nat.reduceBEq, Bool.or_false, Bool.false_or, Bool.or_true, Bool.true_or, nI_leI, nI_ltI, nI_eq, nI_clamp, inb_n, up_s, up_n, bx_uu, nI_1, ix6, nI_0n, pk_us, pk_un, ge_0n, mdM_0, mdM_1, mdM_2, mdM_3, mdM_4, mdM_o, mdM_w0, mdM_w1, mdM_w2, mdM_w3, mdM_w4, uu, pt_at, pt_up, nI_add, z, w]
    · simp (disch := omega) only [xX12_goes_23, xX12_goes_25, xX12_goes_26, xX12_goes_29, xX12_goes_30, xX12_goes_31, xX12_goes_32, xX12_goes_33, xX12_goes_34, xX12_goes_37, xX12_goes_38, xX12_goes_39, xX12_goes_40, xX12_goes_42, xX12_goes_43, xX12_goes_45, xX12_goes_46, xX12_goes_49, xX12_goes_50, xX12_goes_51, xX12_goes_52, xX12_goes_54, xX12_goes_57, xX12_goes_58, xX12_goes_61, xX12_goes_63, xX12_goes_66, xX12_goes_69, xX12_goes_72, xX12_goes_75, xX12_goes_77, kd_123, fi_123_32, kd_135, ln_135, fi_123_57, kd_153, ln_153, fi_123_58, kd_154, ln_154, fi_123_59, kd_155, ln_155, fi_123_60, kd_156, ln_156, fi_123_66, kd_157, ln_157, fi_123_68, kd_159, ln_159, ↓reduceIte, gd_t, hK_p, hN_p, hF_p, hI_p, hJ_p, hR_p, stI_p, stJ_p, stR_p, stA_p, va_rf_s, va_rf_n, clr_i, clr_l, clr_r, clr_n, clr_o, w8_0, w8_1i, w8_1r, w8_2ii, w8_2ri, w8_2ir, w8_2rr, w8_3, beq_self_eq_true, Bool.and_self, Bool.and_true, Bool.true_and, decide_true, Option.toList_some, Option.toList_none, List.cons_append, List.nil_append, Option.bind_some, if_true, if_false, Nat.reduceLeDiff, Nat.reduceLT, Nat.reduceBEq, Bool.or_false, Bool.false_or, Bool.or_true, Bool.true_or, nI_leI, nI_ltI, nI_eq, nI_clamp, inb_n, up_s, up_n, bx_uu, nI_1, ix6, nI_0n, pk_us, pk_un, ge_0n, mdM_0, mdM_1, mdM_2, mdM_3, mdM_4, mdM_o, mdM_w0, mdM_w1, mdM_w2, mdM_w3, mdM_w4, uu, pt_at, pt_up, nI_add, z]
  obtain ⟨e2, h2⟩ := hgo
  rw [h2]
  by_cases z : y = 0
  · subst z
    refine ⟨e1, J1, ?_⟩
    rw [if_pos rfl]
    dsimp only
    have h69 : upd (upd o 54 e1) 69 (o 69) = upd o 54 e1 := upd_self (pk_un (by decide))
    simp (disch := omega) only [xX12_goes_78, xX12_goes_79, xX12_goes_82, xX12_goes_83, xX12_goes_84, xX12_goes_85, xX12_goes_86, xX12_goes_89, xX12_goes_90, xX12_goes_93, xX12_goes_94, xX12_goes_95, xX12_goes_96, xX12_goes_97, xX12_goes_98, kd_123, fi_123_32, kd_135, ln_135, fi_123_57, kd_153, ln_153, fi_123_58, kd_154, ln_154, fi_123_59, kd_155, ln_155, fi_123_60, kd_156, ln_156, fi_123_66, kd_157, ln_157, fi_123_68, kd_159, ln_159, ↓reduceIte, gd_t, hK_p, hN_p, hF_p, hI_p, hJ_p, hR_p, stI_p, stJ_p, stR_p, stA_p, va_rf_s, va_rf_n, clr_i, clr_l, clr_r, clr_n, clr_o, w8_0, w8_1i, w8_1r, w8_2ii, w8_2ri, w8_2ir, w8_2rr, w8_3, beq_self_eq_true, Bool.and_self, Bool.and_true, Bool.true_and, decide_true, Option.toList_some, Option.toList_none, List.cons_append, List.nil_append, Option.bind_some, if_true, if_false, Nat.reduceLeDiff, Nat.reduceLT, Nat.reduceBEq, Bool.or_false, Bool.false_or, Bool.or_true, Bool.true_or, nI_leI, nI_ltI, nI_eq, nI_clamp, inb_n, up_s, up_n, bx_uu, nI_1, ix6, nI_0n, pk_us, pk_un, ge_0n, mdM_0, mdM_1, mdM_2, mdM_3, mdM_4, mdM_o, mdM_w0, mdM_w1, mdM_w2, mdM_w3, mdM_w4, uu, pt_at, pt_up, nI_add, h69, not_true_eq_false]
  · obtain ⟨e3, J3, h3⟩ := lawO2 (d := d) (k := 1) (at1 := at1) (c := c) (t := t) (wo := I 157 c) (mo := 99) (I := mdM I (upd o 54 e1) (pt at1 (I 153) ph) (pt at1 (I 154) (upd sw c y)) (pt at1 (I 155) ct) (pt at1 (I 156) sa)) (J := J1) (R := R) (by omega) ha hc (hok _ _ _ _ _).2
    rw [hwg] at h3
    simp (disch := omega) only [mdM_0, mdM_1, mdM_2, mdM_3, mdM_4, mdM_o, mdM_w0, pt_at, uu, pk_us] at h3
    refine ⟨e3, J3, ?_⟩
    have hk1 : nI 1 = 1 := rfl
    rw [hk1] at h3
    rw [if_neg z, if_neg hm0]
    unfold goMd
    generalize hg : lawM (I 141 1) (I 144) (I 145) (I 146) (namF (I 157 c) y (I 159 c / 1000) (wghM I c) (I 152 (at1 + c)) t (ct c)) fG lG (I 157 c) 99 = g at h3
    generalize hN : g + I 159 c / (1000 * wghM I c) = N
    generalize hp1 : ph c + btwF 0 N 499 = p
    have hgo : E (C (d + 3)) MX12_goes 78 [some (.ref 123), some (.int (nI at1)), some (.int (nI c)), some (.int t), some (.int x), some (.int e2), none] [] (hp (mdM I (upd o 54 e1) (pt at1 (I 153) ph) (pt at1 (I 154) (upd sw c y)) (pt at1 (I 155) ct) (pt at1 (I 156) sa)) J1 R) =
        E (C (d + 3)) MX12_goes 170 [some (.ref 123), some (.int (nI at1)), some (.int (nI c)), some (.int t), some (.int x), some (.int e2), some (.int N)] [] (hp (mdM I (upd o 54 e3) (pt at1 (I 153) (upd ph c p)) (pt at1 (I 154) (upd sw c y)) (pt at1 (I 155) ct) (pt at1 (I 156) sa)) J3 R) := by
      rw [← hp1]
      unfold btwF
      by_cases u : 0 ≤ N
      · by_cases w : N ≤ 499 <;> simp (disch := omega) only [xX12_goes_78, xX12_goes_79, xX12_goes_82, xX12_goes_83, xX12_goes_84, xX12_goes_85, xX12_goes_86, xX12_goes_89, xX12_goes_90, xX12_goes_93, xX12_goes_94, xX12_goes_95, xX12_goes_96, xX12_goes_97, xX12_goes_98, xX12_goes_99, xX12_goes_100, xX12_goes_101, xX12_goes_102, xX12_goes_103, xX12_goes_104, xX12_goes_105, xX12_goes_108, xX12_goes_109, xX12_goes_110, xX12_goes_112, xX12_goes_115, xX12_goes_116, xX12_goes_119, xX12_goes_120, xX12_goes_121, xX12_goes_124, xX12_goes_125, xX12_goes_126, xX12_goes_129, xX12_goes_130, xX12_goes_131, xX12_goes_132, xX12_goes_134, xX12_goes_135, xX12_goes_138, xX12_goes_139, xX12_goes_140, xX12_goes_141, xX12_goes_142, xX12_goes_143, xX12_goes_145, xX12_goes_148, xX12_goes_149, xX12_goes_152, xX12_goes_154, xX12_goes_157, xX12_goes_160, xX12_goes_163, xX12_goes_166, xX12_goes_168, xX12_goes_169, kd_123, fi_123_32, kd_135, ln_135, fi_123_57, kd_153, ln_153, fi_123_58, kd_154, ln_154, fi_123_59, kd_155, ln_155, fi_123_60, kd_156, ln_156, fi_123_66, kd_157, ln_157, fi_123_68, kd_159, ln_159, ↓reduceIte, gd_t, hK_p, hN_p, hF_p, hI_p, hJ_p, hR_p, stI_p, stJ_p, stR_p, stA_p, va_rf_s, va_rf_n, clr_i, clr_l, clr_r, clr_n, clr_o, w8_0, w8_1i, w8_1r, w8_2ii, w8_2ri, w8_2ir, w8_2rr, w8_3, beq_self_eq_true, Bool.and_self, Bool.and_true, Bool.true_and, decide_true, Option.toList_some, Option.toList_none, List.cons_append, List.nil_append, Option.bind_some, if_true, if_false, Nat.reduceLeDiff, Nat.reduceLT, Nat.reduceBEq, Bool.or_false, Bool.false_or, Bool.or_true, Bool.true_or, nI_leI, nI_ltI, nI_eq, nI_clamp, inb_n, up_s, up_n, bx_uu, nI_1, ix6, nI_0n, pk_us, pk_un, ge_0n, mdM_0, mdM_1, mdM_2, mdM_3, mdM_4, mdM_o, mdM_w0, mdM_w1, mdM_w2, mdM_w3, mdM_w4, uu, pt_at, pt_up, nI_add, pk_us, z, h3, hg, hN, u, w, wgh_spec, hwg, hm0, w8_3, w8_4, decide_false, Bool.not_false, not_false_eq_true]
      · simp (disch := omega) only [xX12_goes_78, xX12_goes_79, xX12_goes_82, xX12_goes_83, xX12_goes_84, xX12_goes_85, xX12_goes_86, xX12_goes_89, xX12_goes_90, xX12_goes_93, xX12_goes_94, xX12_goes_95, xX12_goes_96, xX12_goes_97, xX12_goes_98, xX12_goes_99, xX12_goes_100, xX12_goes_101, xX12_goes_102, xX12_goes_103, xX12_goes_104, xX12_goes_105, xX12_goes_108, xX12_goes_109, xX12_goes_110, xX12_goes_112, xX12_goes_115, xX12_goes_116, xX12_goes_119, xX12_goes_120, xX12_goes_121, xX12_goes_124, xX12_goes_125, xX12_goes_126, xX12_goes_129, xX12_goes_130, xX12_goes_131, xX12_goes_132, xX12_goes_134, xX12_goes_135, xX12_goes_138, xX12_goes_139, xX12_goes_140, xX12_goes_141, xX12_goes_142, xX12_goes_143, xX12_goes_145, xX12_goes_148, xX12_goes_149, xX12_goes_152, xX12_goes_154, xX12_goes_157, xX12_goes_160, xX12_goes_163, xX12_goes_166, xX12_goes_168, xX12_goes_169, kd_123, fi_123_32, kd_135, ln_135, fi_123_57, kd_153, ln_153, fi_123_58, kd_154, ln_154, fi_123_59, kd_155, ln_155, fi_123_60, kd_156, ln_156, fi_123_66, kd_157, ln_157, fi_123_68, kd_159, ln_159, ↓reduceIte, gd_t, hK_p, hN_p, hF_p, hI_p, hJ_p, hR_p, stI_p, stJ_p, stR_p, stA_p, va_rf_s, va_rf_n, clr_i, clr_l, clr_r, clr_n, clr_o, w8_0, w8_1i, w8_1r, w8_2ii, w8_2ri, w8_2ir, w8_2rr, w8_3, beq_self_eq_true, Bool.and_self, Bool.and_true, Bool.true_and, decide_true, Option.toList_some, Option.toList_none, List.cons_append, List.nil_append, Option.bind_some, if_true, if_false, Nat.reduceLeDiff, Nat.reduceLT, Nat.reduceBEq, Bool.or_false, Bool.false_or, Bool.or_true, Bool.true_or, nI_leI, nI_ltI, nI_eq, nI_clamp, inb_n, up_s, up_n, bx_uu, nI_1, ix6, nI_0n, pk_us, pk_un, ge_0n, mdM_0, mdM_1, mdM_2, mdM_3, mdM_4, mdM_o, mdM_w0, mdM_w1, mdM_w2, mdM_w3, mdM_w4, uu, pt_at, pt_up, nI_add, pk_us, z, h3, hg, hN, u, wgh_spec, hwg, hm0, w8_3, w8_4, decide_false, Bool.not_false, not_false_eq_true]
    rw [hgo]
    by_cases w : p < 1000
    · have w' : ¬ 1000 ≤ p := Int32.not_le.mpr w
      have h69 : upd (upd o 54 e3) 69 (o 69) = upd o 54 e3 := upd_self (pk_un (by decide))
      rw [if_pos w]
      simp (disch := omega) only [xX12_goes_170, xX12_goes_171, xX12_goes_174, xX12_goes_175, xX12_goes_176, xX12_goes_177, xX12_goes_178, xX12_goes_181, xX12_goes_184, xX12_goes_185, xX12_goes_186, xX12_goes_189, xX12_goes_190, xX12_goes_191, xX12_goes_192, xX12_goes_193, xX12_goes_194, xX12_goes_197, xX12_goes_198, xX12_goes_199, xX12_goes_200, xX12_goes_203, xX12_goes_204, xX12_goes_205, xX12_goes_206, xX12_goes_207, xX12_goes_208, xX12_goes_209, xX12_goes_210, xX12_goes_211, xX12_goes_212, xX12_goes_212I, xX12_goes_213, xX12_goes_216, xX12_goes_217, xX12_goes_218, xX12_goes_219, xX12_goes_220, xX12_goes_223, kd_123, fi_123_32, kd_135, ln_135, fi_123_57, kd_153, ln_153, fi_123_58, kd_154, ln_154, fi_123_59, kd_155, ln_155, fi_123_60, kd_156, ln_156, fi_123_66, kd_157, ln_157, fi_123_68, kd_159, ln_159, ↓reduceIte, gd_t, hK_p, hN_p, hF_p, hI_p, hJ_p, hR_p, stI_p, stJ_p, stR_p, stA_p, va_rf_s, va_rf_n, clr_i, clr_l, clr_r, clr_n, clr_o, w8_0, w8_1i, w8_1r, w8_2ii, w8_2ri, w8_2ir, w8_2rr, w8_3, beq_self_eq_true, Bool.and_self, Bool.and_true, Bool.true_and, decide_true, Option.toList_some, Option.toList_none, List.cons_append, List.nil_append, Option.bind_some, if_true, if_false, Nat.reduceLeDiff, Nat.reduceLT, Nat.reduceBEq, Bool.or_false, Bool.false_or, Bool.or_true, Bool.true_or, nI_leI, nI_ltI, nI_eq, nI_clamp, inb_n, up_s, up_n, bx_uu, nI_1, ix6, nI_0n, pk_us, pk_un, ge_0n, mdM_0, mdM_1, mdM_2, mdM_3, mdM_4, mdM_o, mdM_w0, mdM_w1, mdM_w2, mdM_w3, mdM_w4, uu, pt_at, pt_up, nI_add, pk_us, w', h69]
    · have w' : 1000 ≤ p := Int32.not_lt.mp w
      rw [if_neg w]
      have h69 : upd o 54 e3 69 = o 69 := pk_un (by decide)
      simp (disch := omega) only [xX12_goes_170, xX12_goes_171, xX12_goes_174, xX12_goes_175, xX12_goes_176, xX12_goes_177, xX12_goes_178, xX12_goes_181, xX12_goes_184, xX12_goes_185, xX12_goes_186, xX12_goes_189, xX12_goes_190, xX12_goes_191, xX12_goes_192, xX12_goes_193, xX12_goes_194, xX12_goes_197, xX12_goes_198, xX12_goes_199, xX12_goes_200, xX12_goes_203, xX12_goes_204, xX12_goes_205, xX12_goes_206, xX12_goes_207, xX12_goes_208, xX12_goes_209, xX12_goes_210, xX12_goes_211, xX12_goes_212, xX12_goes_212I, xX12_goes_213, xX12_goes_216, xX12_goes_217, xX12_goes_218, xX12_goes_219, xX12_goes_220, xX12_goes_223, kd_123, fi_123_32, kd_135, ln_135, fi_123_57, kd_153, ln_153, fi_123_58, kd_154, ln_154, fi_123_59, kd_155, ln_155, fi_123_60, kd_156, ln_156, fi_123_66, kd_157, ln_157, fi_123_68, kd_159, ln_159, ↓reduceIte, gd_t, hK_p, hN_p, hF_p, hI_p, hJ_p, hR_p, stI_p, stJ_p, stR_p, stA_p, va_rf_s, va_rf_n, clr_i, clr_l, clr_r, clr_n, clr_o, w8_0, w8_1i, w8_1r, w8_2ii, w8_2ri, w8_2ir, w8_2rr, w8_3, beq_self_eq_true, Bool.and_self, Bool.and_true, Bool.true_and, decide_true, Option.toList_some, Option.toList_none, List.cons_append, List.nil_append, Option.bind_some, if_true, if_false, Nat.reduceLeDiff, Nat.reduceLT, Nat.reduceBEq, Bool.or_false, Bool.false_or, Bool.or_true, Bool.true_or, nI_leI, nI_ltI, nI_eq, nI_clamp, inb_n, up_s, up_n, bx_uu, nI_1, ix6, nI_0n, pk_us, pk_un, ge_0n, mdM_0, mdM_1, mdM_2, mdM_3, mdM_4, mdM_o, mdM_w0, mdM_w1, mdM_w2, mdM_w3, mdM_w4, uu, pt_at, pt_up, nI_add, pk_us, w', h69]

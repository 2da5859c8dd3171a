-- PAIRS, 7: frames of the invariant; heard, strike, known
section FR
variable {I I' : Mem} {R R' : MemR} {t t' n nb nm fL lL fG lG st : Nat}
theorem cTxt_fr (h : cTxt I t n nb nm) (e1 : ∀ a, t ≤ a → a < t + 19 → I' a = I a) (e2 : ∀ a, 126 ≤ a → a ≤ 140 → I' a = I a) (f12 : I' 123 12 = I 123 12) (f13 : I' 123 13 = I 123 13) (f14 : I' 123 14 = I 123 14) (f16 : I' 123 16 = I 123 16) : cTxt I' t n nb nm := by
  unfold cTxt at h ⊢
  rw [f12, f13, f14, f16]
  simp (disch := omega) only [e1, e2]
  exact h
theorem cLws_fr (h : cLws I t fL lL fG lG) (e1 : ∀ a, t + 19 ≤ a → a < t + 27 → I' a = I a) (e2 : ∀ a, 141 ≤ a → a ≤ 146 → I' a = I a) : cLws I' t fL lL fG lG := by
  unfold cLws at h ⊢
  simp (disch := omega) only [e1, e2]
  exact h
theorem cImg_fr (h : cImg I R t n nb st) (f7 : I' 0 7 = I 0 7) (e1 : ∀ a, 74 ≤ a → a < 88 → I' a = I a) (e2 : I' 170 = I 170) (f84 : I' 123 84 = I 123 84) (f85 : I' 123 85 = I 123 85) (r : R' 74 = R 74) : cImg I' R' t n nb st := by
  unfold cImg at h ⊢
  rw [f7, e2, f84, f85, r]
  simp (disch := omega) only [e1]
  exact h
theorem cSto_fr (h : cSto I n st) (e1 : I' 103 = I 103) (e2 : I' 104 = I 104) (e3 : I' 160 = I 160) (e4 : I' 161 = I 161) : cSto I' n st := by
  unfold cSto at h ⊢
  rw [e1, e2, e3, e4]
  exact h
theorem cHnd_fr (h : cHnd I n nb) (e1 : I' 105 = I 105) (e2 : I' 106 = I 106) (e3 : I' 162 = I 162) (f : I' 123 73 = I 123 73) : cHnd I' n nb := by
  unfold cHnd at h ⊢
  rw [e1, e2, e3, f]
  exact h
theorem cHea_fr (h : cHea I n) (e1 : ∀ a, 107 ≤ a → a ≤ 110 → I' a = I a) (e2 : I' 167 = I 167) (f1 : I' 123 79 = I 123 79) (f2 : I' 123 80 = I 123 80) : cHea I' n := by
  unfold cHea at h ⊢
  rw [e2, f1, f2]
  simp (disch := omega) only [e1]
  exact h
theorem cTap_fr (h : cTap I) (f1 : I' 0 1 = I 0 1) (e1 : I' 1 = I 1) (e2 : I' 124 = I 124) (f2 : I' 123 1 = I 123 1) : cTap I' := by
  unfold cTap at h ⊢
  rw [f1, e1, e2, f2]
  exact h
theorem cFau_fr (h : cFau I) (e1 : I' 56 = I 56) (f1 : I' 123 4 = I 123 4) (f2 : I' 123 5 = I 123 5) (e58 : I' 58 = I 58) (e125 : I' 125 = I 125) : cFau I' := by
  unfold cFau at h ⊢
  rw [e1, f1, f2, e58, e125]
  exact h
theorem cNow_fr (h : cNow I R t n nb st) (hn : n ≤ 6) (e1 : ∀ a, t ≤ a → a < t + 19 → I' a = I a) (e2 : ∀ a, 60 ≤ a → a < 72 → I' a = I a) (e3 : ∀ a k, 151 ≤ a → a ≤ 156 → k < 6 → I' a k = I a k) (f : I' 123 70 = I 123 70) (r : R' 60 = R 60) : cNow I' R' t n nb st := by
  unfold cNow cHg at h ⊢
  obtain ⟨b1, b2, b3, b4, b5, b6, b7, b8, ⟨b9, b10⟩, b11, b12, b13⟩ := h
  refine ⟨by rw [r]; exact b1, ?_, ?_, ?_, b5, ?_, ?_, ?_, ⟨?_, ?_⟩, ?_, ?_, ?_⟩
  · rw [e2 60 (by decide) (by decide)]; exact b2
  · rw [e2 60 (by decide) (by decide)]; exact b3
  · rw [f]; exact b4
  · rw [e2 60 (by decide) (by decide), e1 t (by omega) (by omega)]; exact b6
  · rw [e2 60 (by decide) (by decide)]; exact b7
  · rw [e2 61 (by decide) (by decide), e1 (t + 4) (by omega) (by omega)]; exact b8
  · intro i hi
    rw [e2 62 (by decide) (by decide), e2 63 (by decide) (by decide), e3 151 (0 + i) (by decide) (by decide) (by omega), e3 152 (0 + i) (by decide) (by decide) (by omega)]
    exact b9 i hi
  · rw [e2 62 (by decide) (by decide)]; exact b10
  · simp (disch := omega) only [e1, e2]
    exact b11
  · intro i hi
    rw [e2 67 (by decide) (by decide), e2 68 (by decide) (by decide), e2 69 (by decide) (by decide), e2 70 (by decide) (by decide), e3 153 i (by decide) (by decide) (by omega), e3 154 i (by decide) (by decide) (by omega), e3 155 i (by decide) (by decide) (by omega), e3 156 i (by decide) (by decide) (by omega)]
    exact b12 i hi
  · simp (disch := omega) only [e1, e2]
    exact b13
end FR
/-- what LEAST and ORDER found is kept with all that it hangs on, or forgotten -/
def cach (I I2 : Mem) (t : Nat) : Prop := (I2 112 7 = 0 ∧ I2 117 4 = 0) ∨ ((∀ a, t ≤ a → a < t + 27 → I2 a = I a) ∧ I2 62 = I 62 ∧ I2 63 = I 63 ∧ I2 112 = I 112 ∧ I2 116 = I 116 ∧ I2 117 = I 117 ∧ I2 119 = I 119)
/-- a call that changes something, but not the text -/
def chgP (Mc Mm : Mth) (as : List Value) (I : Mem) (J : MemL) (R : MemR) (t t' n nb nm fL lL fG lG : Nat) : Prop := ∃ v I1 J1 R1 I2 J2 st', C 11 Mc (.ref 0 :: as) (hp I J R) = some (some (.int v), hp I1 J1 R1) ∧ C 11 Mm (.ref 123 :: as) (hp I1 J1 R1) = some (some (.int v), hp I2 J2 R1) ∧ cAll I2 R1 t t' n nb nm fL lL fG lG st' ∧ cach I I2 t
theorem askP.chg {Mc Mm : Mth} {as : List Value} {I : Mem} {J : MemL} {R : MemR} {t t' n nb nm fL lL fG lG st : Nat} (h : cAll I R t t' n nb nm fL lL fG lG st) (a : askP Mc Mm as I J R) : chgP Mc Mm as I J R t t' n nb nm fL lL fG lG := by
  obtain ⟨v, I1, J1, R1, I2, J2, h1, h2, h3, r0, r1, r2⟩ := a
  have ht := te_hi h.te
  refine ⟨v, I1, J1, R1, I2, J2, st, h1, h2, cAll_kp h h3 r0 r1 r2, Or.inr ⟨fun a h1 h2 => h3.1 a (by unfold kpA; omega), h3.1 62 (by unfold kpA; omega), h3.1 63 (by unfold kpA; omega), h3.1 112 (by unfold kpA; omega), h3.1 116 (by unfold kpA; omega), h3.1 117 (by unfold kpA; omega), h3.1 119 (by unfold kpA; omega)⟩⟩
-- heard
def addM (I : Mem) (hz : Nat) (k x w : Int32) : Mem := va_up (va_up (va_up (va_up I 108 (upd (I 108) hz k)) 109 (upd (I 109) hz x)) 110 (upd (I 110) hz w)) 107 (upd (I 107) 4 (nI (hz + 1)))
def notM (I : Mem) (hz : Nat) (a b c : Int32) : Mem := va_up (va_up I 167 (upd (upd (upd (I 167) (3 * hz) a) (3 * hz + 1) b) (3 * hz + 2) c)) 123 (upd (I 123) 79 (nI (hz + 1)))
theorem nI_p1 (k : Nat) : nI (k + 1) - 1 = nI k := by rw [nI_m1 (by omega)]; rfl
theorem add_c {d hz : Nat} {k x w : Int32} {I : Mem} {J : MemL} {R : MemR} (hs : I 107 4 = nI hz) (h40 : hz < 40) : C (d + 1) MX1_add [.ref 107, .int k, .int x, .int w] (hp I J R) = some (some (.int (nI hz)), hp (addM I hz k x w) J R) := by
  have c0 : nI hz < (40 : Int32) := nI_lt (b := 40) h40 (by omega)
  unfold addM
  rw [eX1_add]
  simp (disch := omega) only [xX1_add_0, xX1_add_1, xX1_add_4, xX1_add_6, xX1_add_9, xX1_add_10, xX1_add_11, xX1_add_12, xX1_add_15, xX1_add_16, xX1_add_19, xX1_add_20, xX1_add_21, xX1_add_22, xX1_add_25, xX1_add_26, xX1_add_29, xX1_add_30, xX1_add_31, xX1_add_32, xX1_add_35, xX1_add_36, xX1_add_39, xX1_add_40, xX1_add_41, xX1_add_42, xX1_add_42I, xX1_add_43, xX1_add_46, xX1_add_47, xX1_add_48, xX1_add_51, xX1_add_52, xX1_add_55, xX1_add_56, xX1_add_57, kd_107, fi_107_0, kd_108, ln_108, fi_107_1, kd_109, ln_109, fi_107_2, kd_110, ln_110, ↓reduceIte, gd_t, hK_p, hN_p, hF_p, hI_p, hJ_p, hR_p, stI_p, stJ_p, stR_p, stA_p, va_rf_s, va_rf_n, clr_i, clr_l, clr_r, clr_n, clr_o, w8_0, w8_1i, w8_1r, w8_2ii, w8_2ri, w8_2ir, w8_2rr, w8_3, beq_self_eq_true, Bool.and_self, Bool.and_true, Bool.true_and, decide_true, Option.toList_some, Option.toList_none, List.cons_append, List.nil_append, Option.bind_some, if_true, if_false, Nat.reduceLeDiff, Nat.reduceLT, Nat.reduceBEq, Bool.or_false, Bool.false_or, Bool.or_true, Bool.true_or, nI_leI, nI_ltI, nI_eq, nI_clamp, inb_n, up_s, up_n, bx_uu, nI_1, ix6, nI_0n, pk_us, pk_un, ge_0n, hs, c0, nI_p1]
theorem add_c0 {d : Nat} {k x w : Int32} {I : Mem} {J : MemL} {R : MemR} (hs : I 107 4 = nI 40) : C (d + 1) MX1_add [.ref 107, .int k, .int x, .int w] (hp I J R) = some (some (.int (-1)), hp I J R) := by
  have c0 : ¬ nI 40 < (40 : Int32) := by decide
  rw [eX1_add]
  simp (disch := omega) only [xX1_add_0, xX1_add_1, xX1_add_4, xX1_add_6, xX1_add_9, xX1_add_10, xX1_add_11, xX1_add_12, xX1_add_15, xX1_add_16, xX1_add_19, xX1_add_20, xX1_add_21, xX1_add_22, xX1_add_25, xX1_add_26, xX1_add_29, xX1_add_30, xX1_add_31, xX1_add_32, xX1_add_35, xX1_add_36, xX1_add_39, xX1_add_40, xX1_add_41, xX1_add_42, xX1_add_42I, xX1_add_43, xX1_add_46, xX1_add_47, xX1_add_48, xX1_add_51, xX1_add_52, xX1_add_55, xX1_add_56, xX1_add_57, kd_107, fi_107_0, kd_108, ln_108, fi_107_1, kd_109, ln_109, fi_107_2, kd_110, ln_110, ↓reduceIte, gd_t, hK_p, hN_p, hF_p, hI_p, hJ_p, hR_p, stI_p, stJ_p, stR_p, stA_p, va_rf_s, va_rf_n, clr_i, clr_l, clr_r, clr_n, clr_o, w8_0, w8_1i, w8_1r, w8_2ii, w8_2ri, w8_2ir, w8_2rr, w8_3, beq_self_eq_true, Bool.and_self, Bool.and_true, Bool.true_and, decide_true, Option.toList_some, Option.toList_none, List.cons_append, List.nil_append, Option.bind_some, if_true, if_false, Nat.reduceLeDiff, Nat.reduceLT, Nat.reduceBEq, Bool.or_false, Bool.false_or, Bool.or_true, Bool.true_or, nI_leI, nI_ltI, nI_eq, nI_clamp, inb_n, up_s, up_n, bx_uu, nI_1, ix6, nI_0n, pk_us, pk_un, ge_0n, hs, c0]
theorem m3 (k j : Nat) : 3 * nI k + nI j = nI (3 * k + j) := by rw [show (3 : Int32) = nI 3 from rfl, pk_mul, nI_add]
theorem m3_0 (k : Nat) : 3 * nI k = nI (3 * k) := by rw [show (3 : Int32) = nI 3 from rfl, pk_mul]
theorem m3_1 (k : Nat) : nI k + 2 = nI (k + 2) := nI_add k 2
theorem not_m {d hz : Nat} {a b c : Int32} {I : Mem} {J : MemL} {R : MemR} (hs : I 123 79 = nI hz) (h40 : hz < 40) : C (d + 1) MX12_noted [.ref 123, .int a, .int b, .int c] (hp I J R) = some (some (.int (nI hz)), hp (notM I hz a b c) J R) := by
  unfold notM
  rw [eX12_noted]
  simp (disch := omega) only [xX12_noted_0, xX12_noted_1, xX12_noted_4, xX12_noted_5, xX12_noted_6, xX12_noted_9, xX12_noted_10, xX12_noted_11, xX12_noted_12, xX12_noted_13, xX12_noted_16, xX12_noted_17, xX12_noted_18, xX12_noted_21, xX12_noted_22, xX12_noted_23, xX12_noted_24, xX12_noted_25, xX12_noted_26, xX12_noted_27, xX12_noted_30, xX12_noted_31, xX12_noted_32, xX12_noted_35, xX12_noted_36, xX12_noted_37, xX12_noted_38, xX12_noted_39, xX12_noted_40, xX12_noted_41, xX12_noted_41I, xX12_noted_42, xX12_noted_45, xX12_noted_46, xX12_noted_47, xX12_noted_50, xX12_noted_51, xX12_noted_54, xX12_noted_55, xX12_noted_56, kd_123, fi_123_81, kd_167, ln_167, ↓reduceIte, gd_t, hK_p, hN_p, hF_p, hI_p, hJ_p, hR_p, stI_p, stJ_p, stR_p, stA_p, va_rf_s, va_rf_n, clr_i, clr_l, clr_r, clr_n, clr_o, w8_0, w8_1i, w8_1r, w8_2ii, w8_2ri, w8_2ir, w8_2rr, w8_3, beq_self_eq_true, Bool.and_self, Bool.and_true, Bool.true_and, decide_true, Option.toList_some, Option.toList_none, List.cons_append, List.nil_append, Option.bind_some, if_true, if_false, Nat.reduceLeDiff, Nat.reduceLT, Nat.reduceBEq, Bool.or_false, Bool.false_or, Bool.or_true, Bool.true_or, nI_leI, nI_ltI, nI_eq, nI_clamp, inb_n, up_s, up_n, bx_uu, nI_1, ix6, nI_0n, pk_us, pk_un, ge_0n, hs, m3_0, m3_1, nI_p1]
theorem hea_all {I : Mem} {R : MemR} {t t' n nb nm fL lL fG lG st : Nat} {k x w a b c : Int32} {hz : Nat} (h : cAll I R t t' n nb nm fL lL fG lG st) (hs : I 107 4 = nI hz) (h40 : hz < 40)
    (hk : (k = 2 ∧ a = -1 ∧ b = x ∧ ∃ y, y < hz ∧ x = nI y) ∨ ((k = 0 ∨ k = 1) ∧ a = x ∧ inN x 0 1999 ∧ c = k ∧ ((b = -1 ∧ w = 63) ∨ ∃ q, q < n ∧ b = nI q ∧ w = 1 <<< (nI q &&& 31)))) :
    cAll (notM (va_up (addM I hz k x w) 123 (upd (addM I hz k x w 123) 2 0)) hz a b c) R t t' n nb nm fL lL fG lG st ∧ cach I (notM (va_up (addM I hz k x w) 123 (upd (addM I hz k x w 123) 2 0)) hz a b c) t := by
  have ht := te_hi h.te
  have o : ∀ q, q ≠ 107 → q ≠ 108 → q ≠ 109 → q ≠ 110 → q ≠ 123 → q ≠ 167 → notM (va_up (addM I hz k x w) 123 (upd (addM I hz k x w 123) 2 0)) hz a b c q = I q := by
    intro q h1 h2 h3 h4 h5 h6
    unfold notM addM
    simp (disch := omega) only [up_n]
  have f : ∀ q, q ≠ 2 → q ≠ 79 → notM (va_up (addM I hz k x w) 123 (upd (addM I hz k x w 123) 2 0)) hz a b c 123 q = I 123 q := by
    intro q h1 h2
    unfold notM addM
    simp (disch := omega) only [up_n, up_s, pk_un]
  refine ⟨⟨h.te, h.2.1, h.2.2.1, h.r3, h.r4, ?_, ?_, ?_, ?_, ?_, ?_, ?_, ?_, ?_, ?_⟩, Or.inr ⟨fun q h1 h2 => o q (by omega) (by omega) (by omega) (by omega) (by omega) (by omega), o _ (by decide) (by decide) (by decide) (by decide) (by decide) (by decide), o _ (by decide) (by decide) (by decide) (by decide) (by decide) (by decide), o _ (by decide) (by decide) (by decide) (by decide) (by decide) (by decide), o _ (by decide) (by decide) (by decide) (by decide) (by decide) (by decide), o _ (by decide) (by decide) (by decide) (by decide) (by decide) (by decide), o _ (by decide) (by decide) (by decide) (by decide) (by decide) (by decide)⟩⟩
  · exact cTxt_fr h.txt (fun q h1 h2 => o q (by omega) (by omega) (by omega) (by omega) (by omega) (by omega)) (fun q h1 h2 => o q (by omega) (by omega) (by omega) (by omega) (by omega) (by omega)) (f _ (by decide) (by decide)) (f _ (by decide) (by decide)) (f _ (by decide) (by decide)) (f _ (by decide) (by decide))
  · exact cLws_fr h.lws (fun q h1 h2 => o q (by omega) (by omega) (by omega) (by omega) (by omega) (by omega)) (fun q h1 h2 => o q (by omega) (by omega) (by omega) (by omega) (by omega) (by omega))
  · rw [f _ (by decide) (by decide)]; exact h.kno
  · exact cNow_fr h.now h.n6 (fun q h1 h2 => o q (by omega) (by omega) (by omega) (by omega) (by omega) (by omega)) (fun q h1 h2 => o q (by omega) (by omega) (by omega) (by omega) (by omega) (by omega)) (fun q _ h1 h2 _ => by rw [o q (by omega) (by omega) (by omega) (by omega) (by omega) (by omega)]) (f _ (by decide) (by decide)) rfl
  · exact cImg_fr h.img (by rw [o 0 (by decide) (by decide) (by decide) (by decide) (by decide) (by decide)]) (fun q h1 h2 => o q (by omega) (by omega) (by omega) (by omega) (by omega) (by omega)) (o _ (by decide) (by decide) (by decide) (by decide) (by decide) (by decide)) (f _ (by decide) (by decide)) (f _ (by decide) (by decide)) rfl
  · exact cSto_fr h.sto (o _ (by decide) (by decide) (by decide) (by decide) (by decide) (by decide)) (o _ (by decide) (by decide) (by decide) (by decide) (by decide) (by decide)) (o _ (by decide) (by decide) (by decide) (by decide) (by decide) (by decide)) (o _ (by decide) (by decide) (by decide) (by decide) (by decide) (by decide))
  · exact cHnd_fr h.hnd (o _ (by decide) (by decide) (by decide) (by decide) (by decide) (by decide)) (o _ (by decide) (by decide) (by decide) (by decide) (by decide) (by decide)) (o _ (by decide) (by decide) (by decide) (by decide) (by decide) (by decide)) (f _ (by decide) (by decide))
  · obtain ⟨hz', z1, z2, z3, z4, z5, z6⟩ := h.hea
    obtain rfl : hz' = hz := (nI_eq (by omega) (by omega)).mp (z1.symm.trans hs)
    refine ⟨hz' + 1, ?_, ?_, by omega, ?_, ?_, fun e he => ?_⟩
    · unfold notM addM
      simp (disch := omega) only [up_n, up_s, pk_us]
    · unfold notM
      rw [up_s, pk_us]
    · unfold notM addM
      simp (disch := omega) only [up_n, up_s, pk_us, pk_un]
      exact z4
    · have e5 : notM (va_up (addM I hz' k x w) 123 (upd (addM I hz' k x w 123) 2 0)) hz' a b c 107 5 = I 107 5 := by
        unfold notM addM
        simp (disch := omega) only [up_n, up_s, pk_us, pk_un]
      rw [e5]
      rcases z5 with z5 | ⟨p, q1, q2, q3⟩
      · exact Or.inl z5
      · exact Or.inr ⟨p, q1, by omega, q3⟩
    · have e8 : notM (va_up (addM I hz' k x w) 123 (upd (addM I hz' k x w 123) 2 0)) hz' a b c 108 = upd (I 108) hz' k := by
        unfold notM addM
        simp (disch := omega) only [up_n, up_s]
      have e9 : notM (va_up (addM I hz' k x w) 123 (upd (addM I hz' k x w 123) 2 0)) hz' a b c 109 = upd (I 109) hz' x := by
        unfold notM addM
        simp (disch := omega) only [up_n, up_s]
      have e10 : notM (va_up (addM I hz' k x w) 123 (upd (addM I hz' k x w 123) 2 0)) hz' a b c 110 = upd (I 110) hz' w := by
        unfold notM addM
        simp (disch := omega) only [up_n, up_s]
      have e167 : notM (va_up (addM I hz' k x w) 123 (upd (addM I hz' k x w 123) 2 0)) hz' a b c 167 = upd (upd (upd (I 167) (3 * hz') a) (3 * hz' + 1) b) (3 * hz' + 2) c := by
        unfold notM addM
        simp (disch := omega) only [up_n, up_s]
      rw [e8, e9, e10, e167]
      by_cases hh : e = hz'
      · subst hh
        simp (disch := omega) only [pk_us, pk_un]
        rcases hk with ⟨k1, k2, k3, k4⟩ | ⟨k1, k2, k3, k4, k5⟩
        · exact Or.inl ⟨k1, k2, k3, k4⟩
        · exact Or.inr ⟨k1, k2, k3, k4, k5⟩
      · have := z6 e (by omega)
        simp (disch := omega) only [pk_un]
        exact this
  · exact cTap_fr h.tap (by rw [o 0 (by decide) (by decide) (by decide) (by decide) (by decide) (by decide)]) (o _ (by decide) (by decide) (by decide) (by decide) (by decide) (by decide)) (o _ (by decide) (by decide) (by decide) (by decide) (by decide) (by decide)) (f _ (by decide) (by decide))
  · exact cFau_fr h.fau (o _ (by decide) (by decide) (by decide) (by decide) (by decide) (by decide)) (f _ (by decide) (by decide)) (f _ (by decide) (by decide)) (o _ (by decide) (by decide) (by decide) (by decide) (by decide) (by decide)) (o _ (by decide) (by decide) (by decide) (by decide) (by decide) (by decide))
theorem heard_p {I : Mem} {J : MemL} {R : MemR} {t t' n nb nm fL lL fG lG st : Nat} (h : cAll I R t t' n nb nm fL lL fG lG st) {x y z : Int32} : chgP MX11_heard MX12_heard [.int x, .int y, .int z] I J R t t' n nb nm fL lL fG lG := by
  have hn6 := h.n6
  have n1 : ¬ (1 : Int32) = 0 := by decide
  obtain ⟨hz, z1, z2, z3, z4, z5, z6⟩ := h.hea
  have hbad : (x < 0 ∨ 2000 ≤ x) → askP MX11_heard MX12_heard [.int x, .int y, .int z] I J R := by
    intro hb
    refine askP.mk0 (v := -1) (w := -1) ?_ ?_ rfl
    · rw [eX11_heard]
      rcases hb with hb | hb
      · simp (disch := omega) only [xX11_heard_0, xX11_heard_1, xX11_heard_4, xX11_heard_5, xX11_heard_8, xX11_heard_11, xX11_heard_12, xX11_heard_13, xX11_heard_16, xX11_heard_17, xX11_heard_18, xX11_heard_21, xX11_heard_24, xX11_heard_25, xX11_heard_26, xX11_heard_27, xX11_heard_28, xX11_heard_31, xX11_heard_33, xX11_heard_36, xX11_heard_37, xX11_heard_38, xX11_heard_39, xX11_heard_41, xX11_heard_42, xX11_heard_45, xX11_heard_46, xX11_heard_49, xX11_heard_50, xX11_heard_53, xX11_heard_54, xX11_heard_55, xX11_heard_57, xX11_heard_60, kd_0, fi_0_11, kd_107, ↓reduceIte, gd_t, hK_p, hN_p, hF_p, hI_p, hJ_p, hR_p, stI_p, stJ_p, stR_p, stA_p, va_rf_s, va_rf_n, clr_i, clr_l, clr_r, clr_n, clr_o, w8_0, w8_1i, w8_1r, w8_2ii, w8_2ri, w8_2ir, w8_2rr, w8_3, beq_self_eq_true, Bool.and_self, Bool.and_true, Bool.true_and, decide_true, Option.toList_some, Option.toList_none, List.cons_append, List.nil_append, Option.bind_some, if_true, if_false, Nat.reduceLeDiff, Nat.reduceLT, Nat.reduceBEq, Bool.or_false, Bool.false_or, Bool.or_true, Bool.true_or, nI_leI, nI_ltI, nI_eq, nI_clamp, inb_n, up_s, up_n, bx_uu, nI_1, ix6, nI_0n, pk_us, pk_un, ge_0n, hb]
      · by_cases h0 : x < 0
        · simp (disch := omega) only [xX11_heard_0, xX11_heard_1, xX11_heard_4, xX11_heard_5, xX11_heard_8, xX11_heard_11, xX11_heard_12, xX11_heard_13, xX11_heard_16, xX11_heard_17, xX11_heard_18, xX11_heard_21, xX11_heard_24, xX11_heard_25, xX11_heard_26, xX11_heard_27, xX11_heard_28, xX11_heard_31, xX11_heard_33, xX11_heard_36, xX11_heard_37, xX11_heard_38, xX11_heard_39, xX11_heard_41, xX11_heard_42, xX11_heard_45, xX11_heard_46, xX11_heard_49, xX11_heard_50, xX11_heard_53, xX11_heard_54, xX11_heard_55, xX11_heard_57, xX11_heard_60, kd_0, fi_0_11, kd_107, ↓reduceIte, gd_t, hK_p, hN_p, hF_p, hI_p, hJ_p, hR_p, stI_p, stJ_p, stR_p, stA_p, va_rf_s, va_rf_n, clr_i, clr_l, clr_r, clr_n, clr_o, w8_0, w8_1i, w8_1r, w8_2ii, w8_2ri, w8_2ir, w8_2rr, w8_3, beq_self_eq_true, Bool.and_self, Bool.and_true, Bool.true_and, decide_true, Option.toList_some, Option.toList_none, List.cons_append, List.nil_append, Option.bind_some, if_true, if_false, Nat.reduceLeDiff, Nat.reduceLT, Nat.reduceBEq, Bool.or_false, Bool.false_or, Bool.or_true, Bool.true_or, nI_leI, nI_ltI, nI_eq, nI_clamp, inb_n, up_s, up_n, bx_uu, nI_1, ix6, nI_0n, pk_us, pk_un, ge_0n, h0]
        · simp (disch := omega) only [xX11_heard_0, xX11_heard_1, xX11_heard_4, xX11_heard_5, xX11_heard_8, xX11_heard_11, xX11_heard_12, xX11_heard_13, xX11_heard_16, xX11_heard_17, xX11_heard_18, xX11_heard_21, xX11_heard_24, xX11_heard_25, xX11_heard_26, xX11_heard_27, xX11_heard_28, xX11_heard_31, xX11_heard_33, xX11_heard_36, xX11_heard_37, xX11_heard_38, xX11_heard_39, xX11_heard_41, xX11_heard_42, xX11_heard_45, xX11_heard_46, xX11_heard_49, xX11_heard_50, xX11_heard_53, xX11_heard_54, xX11_heard_55, xX11_heard_57, xX11_heard_60, kd_0, fi_0_11, kd_107, ↓reduceIte, gd_t, hK_p, hN_p, hF_p, hI_p, hJ_p, hR_p, stI_p, stJ_p, stR_p, stA_p, va_rf_s, va_rf_n, clr_i, clr_l, clr_r, clr_n, clr_o, w8_0, w8_1i, w8_1r, w8_2ii, w8_2ri, w8_2ir, w8_2rr, w8_3, beq_self_eq_true, Bool.and_self, Bool.and_true, Bool.true_and, decide_true, Option.toList_some, Option.toList_none, List.cons_append, List.nil_append, Option.bind_some, if_true, if_false, Nat.reduceLeDiff, Nat.reduceLT, Nat.reduceBEq, Bool.or_false, Bool.false_or, Bool.or_true, Bool.true_or, nI_leI, nI_ltI, nI_eq, nI_clamp, inb_n, up_s, up_n, bx_uu, nI_1, ix6, nI_0n, pk_us, pk_un, ge_0n, h0, hb]
    · have hi : bi (¬ x < 0 ∧ ¬ (1999 : Int32) < x) = 0 := by
        refine if_neg (fun q => ?_)
        rcases hb with hb | hb
        · exact q.1 hb
        · refine q.2 ?_
          have a1 : (2000 : Int32).toInt = 2000 := by decide
          have a2 : (1999 : Int32).toInt = 1999 := by decide
          rw [Int32.le_iff_toInt_le, a1] at hb
          rw [Int32.lt_iff_toInt_lt, a2]
          omega
      rw [eX12_heard]
      by_cases c40 : nI hz = 40
      · simp (disch := omega) only [xX12_heard_0, xX12_heard_1, xX12_heard_2, xX12_heard_5, xX12_heard_6, xX12_heard_9, xX12_heard_11, xX12_heard_14, xX12_heard_15, xX12_heard_16, xX12_heard_19, xX12_heard_22, xX12_heard_25, xX12_heard_26, xX12_heard_27, xX12_heard_30, xX12_heard_31, xX12_heard_32, xX12_heard_35, xX12_heard_38, xX12_heard_39, xX12_heard_40, xX12_heard_41, xX12_heard_42, xX12_heard_43, xX12_heard_44, xX12_heard_47, xX12_heard_48, xX12_heard_51, xX12_heard_52, xX12_heard_55, kd_123, ↓reduceIte, gd_t, hK_p, hN_p, hF_p, hI_p, hJ_p, hR_p, stI_p, stJ_p, stR_p, stA_p, va_rf_s, va_rf_n, clr_i, clr_l, clr_r, clr_n, clr_o, w8_0, w8_1i, w8_1r, w8_2ii, w8_2ri, w8_2ir, w8_2rr, w8_3, beq_self_eq_true, Bool.and_self, Bool.and_true, Bool.true_and, decide_true, Option.toList_some, Option.toList_none, List.cons_append, List.nil_append, Option.bind_some, if_true, if_false, Nat.reduceLeDiff, Nat.reduceLT, Nat.reduceBEq, Bool.or_false, Bool.false_or, Bool.or_true, Bool.true_or, nI_leI, nI_ltI, nI_eq, nI_clamp, inb_n, up_s, up_n, bx_uu, nI_1, ix6, nI_0n, pk_us, pk_un, ge_0n, z2, c40]
      · simp (disch := omega) only [xX12_heard_0, xX12_heard_1, xX12_heard_2, xX12_heard_5, xX12_heard_6, xX12_heard_9, xX12_heard_11, xX12_heard_14, xX12_heard_15, xX12_heard_16, xX12_heard_19, xX12_heard_22, xX12_heard_25, xX12_heard_26, xX12_heard_27, xX12_heard_30, xX12_heard_31, xX12_heard_32, xX12_heard_35, xX12_heard_38, xX12_heard_39, xX12_heard_40, xX12_heard_41, xX12_heard_42, xX12_heard_43, xX12_heard_44, xX12_heard_47, xX12_heard_48, xX12_heard_51, xX12_heard_52, xX12_heard_55, kd_123, ↓reduceIte, gd_t, hK_p, hN_p, hF_p, hI_p, hJ_p, hR_p, stI_p, stJ_p, stR_p, stA_p, va_rf_s, va_rf_n, clr_i, clr_l, clr_r, clr_n, clr_o, w8_0, w8_1i, w8_1r, w8_2ii, w8_2ri, w8_2ir, w8_2rr, w8_3, beq_self_eq_true, Bool.and_self, Bool.and_true, Bool.true_and, decide_true, Option.toList_some, Option.toList_none, List.cons_append, List.nil_append, Option.bind_some, if_true, if_false, Nat.reduceLeDiff, Nat.reduceLT, Nat.reduceBEq, Bool.or_false, Bool.false_or, Bool.or_true, Bool.true_or, nI_leI, nI_ltI, nI_eq, nI_clamp, inb_n, up_s, up_n, bx_uu, nI_1, ix6, nI_0n, pk_us, pk_un, ge_0n, z2, c40, isI_spec, hi]
  by_cases x0 : x < 0
  · exact (hbad (Or.inl x0)).chg h
  by_cases x2 : 2000 ≤ x
  · exact (hbad (Or.inr x2)).chg h
  have hx2 : x ≤ 1999 := by
    have a1 : (2000 : Int32).toInt = 2000 := by decide
    have a2 : (1999 : Int32).toInt = 1999 := by decide
    rw [Int32.le_iff_toInt_le, a1] at x2
    rw [Int32.le_iff_toInt_le, a2]
    omega
  obtain ⟨xx, hxx, rfl⟩ := nI_of2 (M := 1999) (n := 1999) (by decide) x0 hx2
  have hi : bi (¬ nI xx < 0 ∧ ¬ (1999 : Int32) < nI xx) = 1 := if_pos ⟨x0, Int32.not_lt.mpr hx2⟩
  have hin : ∀ h : Hp, C 10 MX12_isIn [.int (nI xx), .int 0, .int 1999] h = some (some (.int 1), h) := fun h => by rw [isI_spec (d := 9), hi]
  have hy : (y = -1) ∨ (¬ y = -1 ∧ icF (nI n) y = 0) ∨ (¬ y = -1 ∧ ∃ c, c < n ∧ y = nI c ∧ icF (nI n) y = 1) := by
    by_cases y1 : y = -1
    · exact Or.inl y1
    · rcases ic_or (x := y) hn6 with ⟨c, h1, h2, h3⟩ | h1
      · exact Or.inr (Or.inr ⟨y1, c, h1, h2, h3⟩)
      · exact Or.inr (Or.inl ⟨y1, h1⟩)
  rcases hy with y1 | ⟨y1, e⟩ | ⟨y1, c, hc, ey, e⟩
  · by_cases c40 : hz = 40
    · subst c40
      refine askP.chg h (askP.mk0 (v := -1) (w := -1) ?_ ?_ rfl)
      · rw [eX11_heard]
        by_cases w : z = 0 <;> simp (disch := omega) only [xX11_heard_0, xX11_heard_1, xX11_heard_4, xX11_heard_5, xX11_heard_8, xX11_heard_11, xX11_heard_12, xX11_heard_13, xX11_heard_16, xX11_heard_17, xX11_heard_18, xX11_heard_21, xX11_heard_24, xX11_heard_25, xX11_heard_26, xX11_heard_27, xX11_heard_28, xX11_heard_31, xX11_heard_33, xX11_heard_36, xX11_heard_37, xX11_heard_38, xX11_heard_39, xX11_heard_41, xX11_heard_42, xX11_heard_45, xX11_heard_46, xX11_heard_49, xX11_heard_50, xX11_heard_53, xX11_heard_54, xX11_heard_55, xX11_heard_57, xX11_heard_60, kd_0, fi_0_11, kd_107, kd_107, ↓reduceIte, gd_t, hK_p, hN_p, hF_p, hI_p, hJ_p, hR_p, stI_p, stJ_p, stR_p, stA_p, va_rf_s, va_rf_n, clr_i, clr_l, clr_r, clr_n, clr_o, w8_0, w8_1i, w8_1r, w8_2ii, w8_2ri, w8_2ir, w8_2rr, w8_3, beq_self_eq_true, Bool.and_self, Bool.and_true, Bool.true_and, decide_true, Option.toList_some, Option.toList_none, List.cons_append, List.nil_append, Option.bind_some, if_true, if_false, Nat.reduceLeDiff, Nat.reduceLT, Nat.reduceBEq, Bool.or_false, Bool.false_or, Bool.or_true, Bool.true_or, nI_leI, nI_ltI, nI_eq, nI_clamp, inb_n, up_s, up_n, bx_uu, nI_1, ix6, nI_0n, pk_us, pk_un, ge_0n, x2, y1, w, add_c0 z1, w8_4, not_true_eq_false]
      · have e40 : nI 40 = 40 := rfl
        rw [eX12_heard]
        simp (disch := omega) only [xX12_heard_0, xX12_heard_1, xX12_heard_2, xX12_heard_5, xX12_heard_6, xX12_heard_9, xX12_heard_11, xX12_heard_14, xX12_heard_15, xX12_heard_16, xX12_heard_19, xX12_heard_22, xX12_heard_25, xX12_heard_26, xX12_heard_27, xX12_heard_30, xX12_heard_31, xX12_heard_32, xX12_heard_35, xX12_heard_38, xX12_heard_39, xX12_heard_40, xX12_heard_41, xX12_heard_42, xX12_heard_43, xX12_heard_44, xX12_heard_47, xX12_heard_48, xX12_heard_51, xX12_heard_52, xX12_heard_55, kd_123, ↓reduceIte, gd_t, hK_p, hN_p, hF_p, hI_p, hJ_p, hR_p, stI_p, stJ_p, stR_p, stA_p, va_rf_s, va_rf_n, clr_i, clr_l, clr_r, clr_n, clr_o, w8_0, w8_1i, w8_1r, w8_2ii, w8_2ri, w8_2ir, w8_2rr, w8_3, beq_self_eq_true, Bool.and_self, Bool.and_true, Bool.true_and, decide_true, Option.toList_some, Option.toList_none, List.cons_append, List.nil_append, Option.bind_some, if_true, if_false, Nat.reduceLeDiff, Nat.reduceLT, Nat.reduceBEq, Bool.or_false, Bool.false_or, Bool.or_true, Bool.true_or, nI_leI, nI_ltI, nI_eq, nI_clamp, inb_n, up_s, up_n, bx_uu, nI_1, ix6, nI_0n, pk_us, pk_un, ge_0n, z2, e40]
    · have c4 : ¬ nI hz = 40 := fun q => c40 ((nI_eq (b := 40) (by omega) (by omega)).mp q)
      have ha := hea_all (k := if z = 0 then 0 else 1) (x := nI xx) (w := 63) (a := nI xx) (b := y) (c := if z = 0 then 0 else 1) h z1 (by omega) (Or.inr ⟨by by_cases w : z = 0 <;> simp [w], rfl, ⟨xx, by omega, hxx, rfl⟩, rfl, Or.inl ⟨y1, rfl⟩⟩)
      refine ⟨nI hz, addM I hz (if z = 0 then 0 else 1) (nI xx) 63, J, R, _, J, st, ?_, ?_, ha.1, ha.2⟩
      · rw [eX11_heard]
        by_cases w : z = 0 <;> simp (disch := omega) only [xX11_heard_0, xX11_heard_1, xX11_heard_4, xX11_heard_5, xX11_heard_8, xX11_heard_11, xX11_heard_12, xX11_heard_13, xX11_heard_16, xX11_heard_17, xX11_heard_18, xX11_heard_21, xX11_heard_24, xX11_heard_25, xX11_heard_26, xX11_heard_27, xX11_heard_28, xX11_heard_31, xX11_heard_33, xX11_heard_36, xX11_heard_37, xX11_heard_38, xX11_heard_39, xX11_heard_41, xX11_heard_42, xX11_heard_45, xX11_heard_46, xX11_heard_49, xX11_heard_50, xX11_heard_53, xX11_heard_54, xX11_heard_55, xX11_heard_57, xX11_heard_60, kd_0, fi_0_11, kd_107, kd_107, ↓reduceIte, gd_t, hK_p, hN_p, hF_p, hI_p, hJ_p, hR_p, stI_p, stJ_p, stR_p, stA_p, va_rf_s, va_rf_n, clr_i, clr_l, clr_r, clr_n, clr_o, w8_0, w8_1i, w8_1r, w8_2ii, w8_2ri, w8_2ir, w8_2rr, w8_3, beq_self_eq_true, Bool.and_self, Bool.and_true, Bool.true_and, decide_true, Option.toList_some, Option.toList_none, List.cons_append, List.nil_append, Option.bind_some, if_true, if_false, Nat.reduceLeDiff, Nat.reduceLT, Nat.reduceBEq, Bool.or_false, Bool.false_or, Bool.or_true, Bool.true_or, nI_leI, nI_ltI, nI_eq, nI_clamp, inb_n, up_s, up_n, bx_uu, nI_1, ix6, nI_0n, pk_us, pk_un, ge_0n, x2, y1, w, add_c z1 (show hz < 40 by omega), not_true_eq_false]
      · have hs : va_up (addM I hz (if z = 0 then 0 else 1) (nI xx) 63) 123 (upd (addM I hz (if z = 0 then 0 else 1) (nI xx) 63 123) 2 0) 123 79 = nI hz := by
          unfold addM
          simp (disch := omega) only [up_n, up_s, pk_un]
          exact z2
        rw [eX12_heard]
        by_cases w : z = 0
        · rw [if_pos w] at hs ⊢
          have hnt := not_m (d := 9) (a := nI xx) (b := y) (c := 0) (J := J) (R := R) hs (by omega)
          rw [up_s, pk_un (by decide)] at hs
          simp (disch := omega) only [xX12_heard_0, xX12_heard_1, xX12_heard_2, xX12_heard_5, xX12_heard_6, xX12_heard_9, xX12_heard_11, xX12_heard_14, xX12_heard_15, xX12_heard_16, xX12_heard_19, xX12_heard_22, xX12_heard_25, xX12_heard_26, xX12_heard_27, xX12_heard_30, xX12_heard_31, xX12_heard_32, xX12_heard_35, xX12_heard_38, xX12_heard_39, xX12_heard_40, xX12_heard_41, xX12_heard_42, xX12_heard_43, xX12_heard_44, xX12_heard_47, xX12_heard_48, xX12_heard_51, xX12_heard_52, xX12_heard_55, kd_123, kd_123, ↓reduceIte, gd_t, hK_p, hN_p, hF_p, hI_p, hJ_p, hR_p, stI_p, stJ_p, stR_p, stA_p, va_rf_s, va_rf_n, clr_i, clr_l, clr_r, clr_n, clr_o, w8_0, w8_1i, w8_1r, w8_2ii, w8_2ri, w8_2ir, w8_2rr, w8_3, beq_self_eq_true, Bool.and_self, Bool.and_true, Bool.true_and, decide_true, Option.toList_some, Option.toList_none, List.cons_append, List.nil_append, Option.bind_some, if_true, if_false, Nat.reduceLeDiff, Nat.reduceLT, Nat.reduceBEq, Bool.or_false, Bool.false_or, Bool.or_true, Bool.true_or, nI_leI, nI_ltI, nI_eq, nI_clamp, inb_n, up_s, up_n, bx_uu, nI_1, ix6, nI_0n, pk_us, pk_un, ge_0n, hs, c4, hin, n1, y1, w, not_true_eq_false] at hnt ⊢
          simp only [hnt, ↓reduceIte, gd_t, hK_p, hN_p, hF_p, hI_p, hJ_p, hR_p, stI_p, stJ_p, stR_p, stA_p, va_rf_s, va_rf_n, clr_i, clr_l, clr_r, clr_n, clr_o, w8_0, w8_1i, w8_1r, w8_2ii, w8_2ri, w8_2ir, w8_2rr, w8_3, beq_self_eq_true, Bool.and_self, Bool.and_true, Bool.true_and, decide_true, Option.toList_some, Option.toList_none, List.cons_append, List.nil_append, Option.bind_some, if_true, if_false, Nat.reduceLeDiff, Nat.reduceLT, Nat.reduceBEq, Bool.or_false, Bool.false_or, Bool.or_true, Bool.true_or, xX12_heard_0, xX12_heard_1, xX12_heard_2, xX12_heard_5, xX12_heard_6, xX12_heard_9, xX12_heard_11, xX12_heard_14, xX12_heard_15, xX12_heard_16, xX12_heard_19, xX12_heard_22, xX12_heard_25, xX12_heard_26, xX12_heard_27, xX12_heard_30, xX12_heard_31, xX12_heard_32, xX12_heard_35, xX12_heard_38, xX12_heard_39, xX12_heard_40, xX12_heard_41, xX12_heard_42, xX12_heard_43, xX12_heard_44, xX12_heard_47, xX12_heard_48, xX12_heard_51, xX12_heard_52, xX12_heard_55]
        · rw [if_neg w] at hs ⊢
          have hnt := not_m (d := 9) (a := nI xx) (b := y) (c := 1) (J := J) (R := R) hs (by omega)
          rw [up_s, pk_un (by decide)] at hs
          simp (disch := omega) only [xX12_heard_0, xX12_heard_1, xX12_heard_2, xX12_heard_5, xX12_heard_6, xX12_heard_9, xX12_heard_11, xX12_heard_14, xX12_heard_15, xX12_heard_16, xX12_heard_19, xX12_heard_22, xX12_heard_25, xX12_heard_26, xX12_heard_27, xX12_heard_30, xX12_heard_31, xX12_heard_32, xX12_heard_35, xX12_heard_38, xX12_heard_39, xX12_heard_40, xX12_heard_41, xX12_heard_42, xX12_heard_43, xX12_heard_44, xX12_heard_47, xX12_heard_48, xX12_heard_51, xX12_heard_52, xX12_heard_55, kd_123, kd_123, ↓reduceIte, gd_t, hK_p, hN_p, hF_p, hI_p, hJ_p, hR_p, stI_p, stJ_p, stR_p, stA_p, va_rf_s, va_rf_n, clr_i, clr_l, clr_r, clr_n, clr_o, w8_0, w8_1i, w8_1r, w8_2ii, w8_2ri, w8_2ir, w8_2rr, w8_3, beq_self_eq_true, Bool.and_self, Bool.and_true, Bool.true_and, decide_true, Option.toList_some, Option.toList_none, List.cons_append, List.nil_append, Option.bind_some, if_true, if_false, Nat.reduceLeDiff, Nat.reduceLT, Nat.reduceBEq, Bool.or_false, Bool.false_or, Bool.or_true, Bool.true_or, nI_leI, nI_ltI, nI_eq, nI_clamp, inb_n, up_s, up_n, bx_uu, nI_1, ix6, nI_0n, pk_us, pk_un, ge_0n, hs, c4, hin, n1, y1, w, not_true_eq_false] at hnt ⊢
          simp only [hnt, ↓reduceIte, gd_t, hK_p, hN_p, hF_p, hI_p, hJ_p, hR_p, stI_p, stJ_p, stR_p, stA_p, va_rf_s, va_rf_n, clr_i, clr_l, clr_r, clr_n, clr_o, w8_0, w8_1i, w8_1r, w8_2ii, w8_2ri, w8_2ir, w8_2rr, w8_3, beq_self_eq_true, Bool.and_self, Bool.and_true, Bool.true_and, decide_true, Option.toList_some, Option.toList_none, List.cons_append, List.nil_append, Option.bind_some, if_true, if_false, Nat.reduceLeDiff, Nat.reduceLT, Nat.reduceBEq, Bool.or_false, Bool.false_or, Bool.or_true, Bool.true_or, xX12_heard_0, xX12_heard_1, xX12_heard_2, xX12_heard_5, xX12_heard_6, xX12_heard_9, xX12_heard_11, xX12_heard_14, xX12_heard_15, xX12_heard_16, xX12_heard_19, xX12_heard_22, xX12_heard_25, xX12_heard_26, xX12_heard_27, xX12_heard_30, xX12_heard_31, xX12_heard_32, xX12_heard_35, xX12_heard_38, xX12_heard_39, xX12_heard_40, xX12_heard_41, xX12_heard_42, xX12_heard_43, xX12_heard_44, xX12_heard_47, xX12_heard_48, xX12_heard_51, xX12_heard_52, xX12_heard_55]
  · refine askP.chg h (askP.mk0 (v := -1) (w := -1) ?_ ?_ rfl)
    · rw [eX11_heard]
      simp (disch := omega) only [xX11_heard_0, xX11_heard_1, xX11_heard_4, xX11_heard_5, xX11_heard_8, xX11_heard_11, xX11_heard_12, xX11_heard_13, xX11_heard_16, xX11_heard_17, xX11_heard_18, xX11_heard_21, xX11_heard_24, xX11_heard_25, xX11_heard_26, xX11_heard_27, xX11_heard_28, xX11_heard_31, xX11_heard_33, xX11_heard_36, xX11_heard_37, xX11_heard_38, xX11_heard_39, xX11_heard_41, xX11_heard_42, xX11_heard_45, xX11_heard_46, xX11_heard_49, xX11_heard_50, xX11_heard_53, xX11_heard_54, xX11_heard_55, xX11_heard_57, xX11_heard_60, kd_0, fi_0_11, kd_107, kd_0, ↓reduceIte, gd_t, hK_p, hN_p, hF_p, hI_p, hJ_p, hR_p, stI_p, stJ_p, stR_p, stA_p, va_rf_s, va_rf_n, clr_i, clr_l, clr_r, clr_n, clr_o, w8_0, w8_1i, w8_1r, w8_2ii, w8_2ri, w8_2ir, w8_2rr, w8_3, beq_self_eq_true, Bool.and_self, Bool.and_true, Bool.true_and, decide_true, Option.toList_some, Option.toList_none, List.cons_append, List.nil_append, Option.bind_some, if_true, if_false, Nat.reduceLeDiff, Nat.reduceLT, Nat.reduceBEq, Bool.or_false, Bool.false_or, Bool.or_true, Bool.true_or, nI_leI, nI_ltI, nI_eq, nI_clamp, inb_n, up_s, up_n, bx_uu, nI_1, ix6, nI_0n, pk_us, pk_un, ge_0n, x2, y1, icl_c h.te h.r3, h.nc, e, not_true_eq_false]
    · rw [eX12_heard]
      by_cases c40 : nI hz = 40
      · simp (disch := omega) only [xX12_heard_0, xX12_heard_1, xX12_heard_2, xX12_heard_5, xX12_heard_6, xX12_heard_9, xX12_heard_11, xX12_heard_14, xX12_heard_15, xX12_heard_16, xX12_heard_19, xX12_heard_22, xX12_heard_25, xX12_heard_26, xX12_heard_27, xX12_heard_30, xX12_heard_31, xX12_heard_32, xX12_heard_35, xX12_heard_38, xX12_heard_39, xX12_heard_40, xX12_heard_41, xX12_heard_42, xX12_heard_43, xX12_heard_44, xX12_heard_47, xX12_heard_48, xX12_heard_51, xX12_heard_52, xX12_heard_55, kd_123, ↓reduceIte, gd_t, hK_p, hN_p, hF_p, hI_p, hJ_p, hR_p, stI_p, stJ_p, stR_p, stA_p, va_rf_s, va_rf_n, clr_i, clr_l, clr_r, clr_n, clr_o, w8_0, w8_1i, w8_1r, w8_2ii, w8_2ri, w8_2ir, w8_2rr, w8_3, beq_self_eq_true, Bool.and_self, Bool.and_true, Bool.true_and, decide_true, Option.toList_some, Option.toList_none, List.cons_append, List.nil_append, Option.bind_some, if_true, if_false, Nat.reduceLeDiff, Nat.reduceLT, Nat.reduceBEq, Bool.or_false, Bool.false_or, Bool.or_true, Bool.true_or, nI_leI, nI_ltI, nI_eq, nI_clamp, inb_n, up_s, up_n, bx_uu, nI_1, ix6, nI_0n, pk_us, pk_un, ge_0n, z2, c40]
      · simp (disch := omega) only [xX12_heard_0, xX12_heard_1, xX12_heard_2, xX12_heard_5, xX12_heard_6, xX12_heard_9, xX12_heard_11, xX12_heard_14, xX12_heard_15, xX12_heard_16, xX12_heard_19, xX12_heard_22, xX12_heard_25, xX12_heard_26, xX12_heard_27, xX12_heard_30, xX12_heard_31, xX12_heard_32, xX12_heard_35, xX12_heard_38, xX12_heard_39, xX12_heard_40, xX12_heard_41, xX12_heard_42, xX12_heard_43, xX12_heard_44, xX12_heard_47, xX12_heard_48, xX12_heard_51, xX12_heard_52, xX12_heard_55, kd_123, kd_123, ↓reduceIte, gd_t, hK_p, hN_p, hF_p, hI_p, hJ_p, hR_p, stI_p, stJ_p, stR_p, stA_p, va_rf_s, va_rf_n, clr_i, clr_l, clr_r, clr_n, clr_o, w8_0, w8_1i, w8_1r, w8_2ii, w8_2ri, w8_2ir, w8_2rr, w8_3, beq_self_eq_true, Bool.and_self, Bool.and_true, Bool.true_and, decide_true, Option.toList_some, Option.toList_none, List.cons_append, List.nil_append, Option.bind_some, if_true, if_false, Nat.reduceLeDiff, Nat.reduceLT, Nat.reduceBEq, Bool.or_false, Bool.false_or, Bool.or_true, Bool.true_or, nI_leI, nI_ltI, nI_eq, nI_clamp, inb_n, up_s, up_n, bx_uu, nI_1, ix6, nI_0n, pk_us, pk_un, ge_0n, z2, c40, hin, n1, y1, icl_m, h.nd, e, not_true_eq_false]
  · by_cases c40 : hz = 40
    · subst c40
      refine askP.chg h (askP.mk0 (v := -1) (w := -1) ?_ ?_ rfl)
      · rw [eX11_heard]
        by_cases w : z = 0 <;> simp (disch := omega) only [xX11_heard_0, xX11_heard_1, xX11_heard_4, xX11_heard_5, xX11_heard_8, xX11_heard_11, xX11_heard_12, xX11_heard_13, xX11_heard_16, xX11_heard_17, xX11_heard_18, xX11_heard_21, xX11_heard_24, xX11_heard_25, xX11_heard_26, xX11_heard_27, xX11_heard_28, xX11_heard_31, xX11_heard_33, xX11_heard_36, xX11_heard_37, xX11_heard_38, xX11_heard_39, xX11_heard_41, xX11_heard_42, xX11_heard_45, xX11_heard_46, xX11_heard_49, xX11_heard_50, xX11_heard_53, xX11_heard_54, xX11_heard_55, xX11_heard_57, xX11_heard_60, kd_0, fi_0_11, kd_107, kd_0, kd_107, ↓reduceIte, gd_t, hK_p, hN_p, hF_p, hI_p, hJ_p, hR_p, stI_p, stJ_p, stR_p, stA_p, va_rf_s, va_rf_n, clr_i, clr_l, clr_r, clr_n, clr_o, w8_0, w8_1i, w8_1r, w8_2ii, w8_2ri, w8_2ir, w8_2rr, w8_3, beq_self_eq_true, Bool.and_self, Bool.and_true, Bool.true_and, decide_true, Option.toList_some, Option.toList_none, List.cons_append, List.nil_append, Option.bind_some, if_true, if_false, Nat.reduceLeDiff, Nat.reduceLT, Nat.reduceBEq, Bool.or_false, Bool.false_or, Bool.or_true, Bool.true_or, nI_leI, nI_ltI, nI_eq, nI_clamp, inb_n, up_s, up_n, bx_uu, nI_1, ix6, nI_0n, pk_us, pk_un, ge_0n, x2, y1, w, n1, icl_c h.te h.r3, h.nc, e, add_c0 z1, w8_4, not_true_eq_false, not_false_eq_true]
      · have e40 : nI 40 = 40 := rfl
        rw [eX12_heard]
        simp (disch := omega) only [xX12_heard_0, xX12_heard_1, xX12_heard_2, xX12_heard_5, xX12_heard_6, xX12_heard_9, xX12_heard_11, xX12_heard_14, xX12_heard_15, xX12_heard_16, xX12_heard_19, xX12_heard_22, xX12_heard_25, xX12_heard_26, xX12_heard_27, xX12_heard_30, xX12_heard_31, xX12_heard_32, xX12_heard_35, xX12_heard_38, xX12_heard_39, xX12_heard_40, xX12_heard_41, xX12_heard_42, xX12_heard_43, xX12_heard_44, xX12_heard_47, xX12_heard_48, xX12_heard_51, xX12_heard_52, xX12_heard_55, kd_123, ↓reduceIte, gd_t, hK_p, hN_p, hF_p, hI_p, hJ_p, hR_p, stI_p, stJ_p, stR_p, stA_p, va_rf_s, va_rf_n, clr_i, clr_l, clr_r, clr_n, clr_o, w8_0, w8_1i, w8_1r, w8_2ii, w8_2ri, w8_2ir, w8_2rr, w8_3, beq_self_eq_true, Bool.and_self, Bool.and_true, Bool.true_and, decide_true, Option.toList_some, Option.toList_none, List.cons_append, List.nil_append, Option.bind_some, if_true, if_false, Nat.reduceLeDiff, Nat.reduceLT, Nat.reduceBEq, Bool.or_false, Bool.false_or, Bool.or_true, Bool.true_or, nI_leI, nI_ltI, nI_eq, nI_clamp, inb_n, up_s, up_n, bx_uu, nI_1, ix6, nI_0n, pk_us, pk_un, ge_0n, z2, e40]
    · have c4 : ¬ nI hz = 40 := fun q => c40 ((nI_eq (b := 40) (by omega) (by omega)).mp q)
      have ha := hea_all (k := if z = 0 then 0 else 1) (x := nI xx) (w := 1 <<< (nI c &&& 31)) (a := nI xx) (b := y) (c := if z = 0 then 0 else 1) h z1 (by omega) (Or.inr ⟨by by_cases w : z = 0 <;> simp [w], rfl, ⟨xx, by omega, hxx, rfl⟩, rfl, Or.inr ⟨c, hc, ey, rfl⟩⟩)
      refine ⟨nI hz, addM I hz (if z = 0 then 0 else 1) (nI xx) (1 <<< (nI c &&& 31)), J, R, _, J, st, ?_, ?_, ha.1, ha.2⟩
      · rw [eX11_heard]
        by_cases w : z = 0
        · simp (disch := omega) only [xX11_heard_0, xX11_heard_1, xX11_heard_4, xX11_heard_5, xX11_heard_8, xX11_heard_11, xX11_heard_12, xX11_heard_13, xX11_heard_16, xX11_heard_17, xX11_heard_18, xX11_heard_21, xX11_heard_24, xX11_heard_25, xX11_heard_26, xX11_heard_27, xX11_heard_28, xX11_heard_31, xX11_heard_33, xX11_heard_36, xX11_heard_37, xX11_heard_38, xX11_heard_39, xX11_heard_41, xX11_heard_42, xX11_heard_45, xX11_heard_46, xX11_heard_49, xX11_heard_50, xX11_heard_53, xX11_heard_54, xX11_heard_55, xX11_heard_57, xX11_heard_60, kd_0, fi_0_11, kd_107, kd_0, kd_107, ↓reduceIte, gd_t, hK_p, hN_p, hF_p, hI_p, hJ_p, hR_p, stI_p, stJ_p, stR_p, stA_p, va_rf_s, va_rf_n, clr_i, clr_l, clr_r, clr_n, clr_o, w8_0, w8_1i, w8_1r, w8_2ii, w8_2ri, w8_2ir, w8_2rr, w8_3, beq_self_eq_true, Bool.and_self, Bool.and_true, Bool.true_and, decide_true, Option.toList_some, Option.toList_none, List.cons_append, List.nil_append, Option.bind_some, if_true, if_false, Nat.reduceLeDiff, Nat.reduceLT, Nat.reduceBEq, Bool.or_false, Bool.false_or, Bool.or_true, Bool.true_or, nI_leI, nI_ltI, nI_eq, nI_clamp, inb_n, up_s, up_n, bx_uu, nI_1, ix6, nI_0n, pk_us, pk_un, ge_0n, x2, y1, w, n1, icl_c h.te h.r3, h.nc, e, add_c z1 (show hz < 40 by omega), not_true_eq_false, not_false_eq_true]
          rw [ey]
        · simp (disch := omega) only [xX11_heard_0, xX11_heard_1, xX11_heard_4, xX11_heard_5, xX11_heard_8, xX11_heard_11, xX11_heard_12, xX11_heard_13, xX11_heard_16, xX11_heard_17, xX11_heard_18, xX11_heard_21, xX11_heard_24, xX11_heard_25, xX11_heard_26, xX11_heard_27, xX11_heard_28, xX11_heard_31, xX11_heard_33, xX11_heard_36, xX11_heard_37, xX11_heard_38, xX11_heard_39, xX11_heard_41, xX11_heard_42, xX11_heard_45, xX11_heard_46, xX11_heard_49, xX11_heard_50, xX11_heard_53, xX11_heard_54, xX11_heard_55, xX11_heard_57, xX11_heard_60, kd_0, fi_0_11, kd_107, kd_0, kd_107, ↓reduceIte, gd_t, hK_p, hN_p, hF_p, hI_p, hJ_p, hR_p, stI_p, stJ_p, stR_p, stA_p, va_rf_s, va_rf_n, clr_i, clr_l, clr_r, clr_n, clr_o, w8_0, w8_1i, w8_1r, w8_2ii, w8_2ri, w8_2ir, w8_2rr, w8_3, beq_self_eq_true, Bool.and_self, Bool.and_true, Bool.true_and, decide_true, Option.toList_some, Option.toList_none, List.cons_append, List.nil_append, Option.bind_some, if_true, if_false, Nat.reduceLeDiff, Nat.reduceLT, Nat.reduceBEq, Bool.or_false, Bool.false_or, Bool.or_true, Bool.true_or, nI_leI, nI_ltI, nI_eq, nI_clamp, inb_n, up_s, up_n, bx_uu, nI_1, ix6, nI_0n, pk_us, pk_un, ge_0n, x2, y1, w, n1, icl_c h.te h.r3, h.nc, e, add_c z1 (show hz < 40 by omega), not_true_eq_false, not_false_eq_true]
          rw [ey]
      · have hs : va_up (addM I hz (if z = 0 then 0 else 1) (nI xx) (1 <<< (nI c &&& 31))) 123 (upd (addM I hz (if z = 0 then 0 else 1) (nI xx) (1 <<< (nI c &&& 31)) 123) 2 0) 123 79 = nI hz := by
          unfold addM
          simp (disch := omega) only [up_n, up_s, pk_un]
          exact z2
        have h13 : addM I hz (if z = 0 then 0 else 1) (nI xx) (1 <<< (nI c &&& 31)) 123 13 = nI n := by
          unfold addM
          simp (disch := omega) only [up_n, up_s, pk_un]
          exact h.nd
        rw [eX12_heard]
        by_cases w : z = 0
        · rw [if_pos w] at hs h13 ⊢
          have hnt := not_m (d := 9) (a := nI xx) (b := y) (c := 0) (J := J) (R := R) hs (by omega)
          rw [up_s, pk_un (by decide)] at hs
          simp (disch := omega) only [xX12_heard_0, xX12_heard_1, xX12_heard_2, xX12_heard_5, xX12_heard_6, xX12_heard_9, xX12_heard_11, xX12_heard_14, xX12_heard_15, xX12_heard_16, xX12_heard_19, xX12_heard_22, xX12_heard_25, xX12_heard_26, xX12_heard_27, xX12_heard_30, xX12_heard_31, xX12_heard_32, xX12_heard_35, xX12_heard_38, xX12_heard_39, xX12_heard_40, xX12_heard_41, xX12_heard_42, xX12_heard_43, xX12_heard_44, xX12_heard_47, xX12_heard_48, xX12_heard_51, xX12_heard_52, xX12_heard_55, kd_123, kd_123, ↓reduceIte, gd_t, hK_p, hN_p, hF_p, hI_p, hJ_p, hR_p, stI_p, stJ_p, stR_p, stA_p, va_rf_s, va_rf_n, clr_i, clr_l, clr_r, clr_n, clr_o, w8_0, w8_1i, w8_1r, w8_2ii, w8_2ri, w8_2ir, w8_2rr, w8_3, beq_self_eq_true, Bool.and_self, Bool.and_true, Bool.true_and, decide_true, Option.toList_some, Option.toList_none, List.cons_append, List.nil_append, Option.bind_some, if_true, if_false, Nat.reduceLeDiff, Nat.reduceLT, Nat.reduceBEq, Bool.or_false, Bool.false_or, Bool.or_true, Bool.true_or, nI_leI, nI_ltI, nI_eq, nI_clamp, inb_n, up_s, up_n, bx_uu, nI_1, ix6, nI_0n, pk_us, pk_un, ge_0n, hs, c4, hin, n1, y1, w, icl_m, h13, e, not_true_eq_false, not_false_eq_true] at hnt ⊢
          simp only [hnt, ↓reduceIte, gd_t, hK_p, hN_p, hF_p, hI_p, hJ_p, hR_p, stI_p, stJ_p, stR_p, stA_p, va_rf_s, va_rf_n, clr_i, clr_l, clr_r, clr_n, clr_o, w8_0, w8_1i, w8_1r, w8_2ii, w8_2ri, w8_2ir, w8_2rr, w8_3, beq_self_eq_true, Bool.and_self, Bool.and_true, Bool.true_and, decide_true, Option.toList_some, Option.toList_none, List.cons_append, List.nil_append, Option.bind_some, if_true, if_false, Nat.reduceLeDiff, Nat.reduceLT, Nat.reduceBEq, Bool.or_false, Bool.false_or, Bool.or_true, Bool.true_or, xX12_heard_0, xX12_heard_1, xX12_heard_2, xX12_heard_5, xX12_heard_6, xX12_heard_9, xX12_heard_11, xX12_heard_14, xX12_heard_15, xX12_heard_16, xX12_heard_19, xX12_heard_22, xX12_heard_25, xX12_heard_26, xX12_heard_27, xX12_heard_30, xX12_heard_31, xX12_heard_32, xX12_heard_35, xX12_heard_38, xX12_heard_39, xX12_heard_40, xX12_heard_41, xX12_heard_42, xX12_heard_43, xX12_heard_44, xX12_heard_47, xX12_heard_48, xX12_heard_51, xX12_heard_52, xX12_heard_55]
        · rw [if_neg w] at hs h13 ⊢
          have hnt := not_m (d := 9) (a := nI xx) (b := y) (c := 1) (J := J) (R := R) hs (by omega)
          rw [up_s, pk_un (by decide)] at hs
          simp (disch := omega) only [xX12_heard_0, xX12_heard_1, xX12_heard_2, xX12_heard_5, xX12_heard_6, xX12_heard_9, xX12_heard_11, xX12_heard_14, xX12_heard_15, xX12_heard_16, xX12_heard_19, xX12_heard_22, xX12_heard_25, xX12_heard_26, xX12_heard_27, xX12_heard_30, xX12_heard_31, xX12_heard_32, xX12_heard_35, xX12_heard_38, xX12_heard_39, xX12_heard_40, xX12_heard_41, xX12_heard_42, xX12_heard_43, xX12_heard_44, xX12_heard_47, xX12_heard_48, xX12_heard_51, xX12_heard_52, xX12_heard_55, kd_123, kd_123, ↓reduceIte, gd_t, hK_p, hN_p, hF_p, hI_p, hJ_p, hR_p, stI_p, stJ_p, stR_p, stA_p, va_rf_s, va_rf_n, clr_i, clr_l, clr_r, clr_n, clr_o, w8_0, w8_1i, w8_1r, w8_2ii, w8_2ri, w8_2ir, w8_2rr, w8_3, beq_self_eq_true, Bool.and_self, Bool.and_true, Bool.true_and, decide_true, Option.toList_some, Option.toList_none, List.cons_append, List.nil_append, Option.bind_some, if_true, if_false, Nat.reduceLeDiff, Nat.reduceLT, Nat.reduceBEq, Bool.or_false, Bool.false_or, Bool.or_true, Bool.true_or, nI_leI, nI_ltI, nI_eq, nI_clamp, inb_n, up_s, up_n, bx_uu, nI_1, ix6, nI_0n, pk_us, pk_un, ge_0n, hs, c4, hin, n1, y1, w, icl_m, h13, e, not_true_eq_false, not_false_eq_true] at hnt ⊢
          simp only [hnt, ↓reduceIte, gd_t, hK_p, hN_p, hF_p, hI_p, hJ_p, hR_p, stI_p, stJ_p, stR_p, stA_p, va_rf_s, va_rf_n, clr_i, clr_l, clr_r, clr_n, clr_o, w8_0, w8_1i, w8_1r, w8_2ii, w8_2ri, w8_2ir, w8_2rr, w8_3, beq_self_eq_true, Bool.and_self, Bool.and_true, Bool.true_and, decide_true, Option.toList_some, Option.toList_none, List.cons_append, List.nil_append, Option.bind_some, if_true, if_false, Nat.reduceLeDiff, Nat.reduceLT, Nat.reduceBEq, Bool.or_false, Bool.false_or, Bool.or_true, Bool.true_or, xX12_heard_0, xX12_heard_1, xX12_heard_2, xX12_heard_5, xX12_heard_6, xX12_heard_9, xX12_heard_11, xX12_heard_14, xX12_heard_15, xX12_heard_16, xX12_heard_19, xX12_heard_22, xX12_heard_25, xX12_heard_26, xX12_heard_27, xX12_heard_30, xX12_heard_31, xX12_heard_32, xX12_heard_35, xX12_heard_38, xX12_heard_39, xX12_heard_40, xX12_heard_41, xX12_heard_42, xX12_heard_43, xX12_heard_44, xX12_heard_47, xX12_heard_48, xX12_heard_51, xX12_heard_52, xX12_heard_55]

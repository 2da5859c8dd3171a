-- THE CONSTRUCTORS, 3: what they leave behind
theorem eqB : eqv hA2 hB := by
  have h := evA
  rw [Bool.and_eq_true] at h
  refine chT_eqv (n := 124) (h := hA2) (s := sB) h.2 (fun a ha => ?_)
  have ha : kdB a < 18 := ha
  unfold kdB at ha
  split at ha
  · assumption
  · omega
theorem rA_eq : rA = some (none, hA1) := by
  have h := evA
  rw [Bool.and_eq_true] at h
  have h1 := h.1
  split at h1
  · next q e =>
    unfold hA1
    rw [e]
  · cases h1
theorem cB_eq : cB = some (1030, [some (.ref 123)], [], hB2) := by
  have h := evB
  rw [Bool.and_eq_true] at h
  have h1 := h.1
  split at h1
  · next q e =>
    unfold hB2
    rw [e]
  · cases h1
theorem kd0_hi {a : Nat} (h : 172 ≤ a) : kd0 a = 99 := by
  unfold kd0
  rw [List.getD_eq_getElem?_getD, List.getElem?_eq_none (show kdL.length ≤ a from h)]
  rfl
theorem eqq_of {h : Hp} (hc : chT 171 h (Gq, h.2) = true) : eqv h (hq (hI h) (hJ h) (hR h)) := by
  refine chT_eqv (n := 171) (h := h) (s := Gq) hc (fun a ha => ?_)
  have ha : kdq a < 18 := ha
  unfold kdq at ha
  split at ha
  · omega
  · by_cases w : a < 171
    · exact w
    · rw [kd0_hi (by omega)] at ha
      omega
theorem eqB2 : eqv hB2 (hq (hI hB2) (hJ hB2) (hR hB2)) := eqq_of ((Bool.and_eq_true _ _).mp evB).2
section CON
variable {l : Launch}
theorem con_of {M : Mth} {as : List Value} {h h1 : Hp} {o : Option Rs} (hT : ∀ (d : Nat) (M : Mth) (as : List Value) (h : Hp) (r : Rs), 6 ≤ d → mG M → tokT M as h = some r → Mon h r.2 ∧ MetP l (d + 1) M as h r) (hg : mG M) (e : o = Cfu tokT 11 M as h) (q : o = some (none, h1)) : Mon h h1 ∧ MetP l 11 M as h (none, h1) := Cfu_ok l tokT hT 11 M as h (none, h1) hg (e.symm.trans q)
theorem rA_def : rA = Cfu tokT 11 MX11_init [.ref 0] (hNew hE 11 (NN 11)) := by
  unfold rA
  rfl
theorem con_A (hT : ∀ (d : Nat) (M : Mth) (as : List Value) (h : Hp) (r : Rs), 6 ≤ d → mG M → tokT M as h = some r → Mon h r.2 ∧ MetP l (d + 1) M as h r) : Mon (hNew hE 11 (NN 11)) hA1 ∧ MetP l 11 MX11_init [.ref 0] (hNew hE 11 (NN 11)) (none, hA1) := con_of hT mgX11_init rA_def rA_eq
theorem con_E {d : Nat} {I : Mem} {J : MemL} {R : MemR} : ∃ Y, E (C (d + 2)) MX12_init 1030 [some (.ref 123)] [] (hq I J R) = some (none, hq Y J R) ∧ (Y 123 12 = 0 ∧ Y 123 13 = 0 ∧ Y 123 14 = 0 ∧ Y 123 15 = 0 ∧ Y 123 16 = 0) ∧ (Y 141 0 = 0 ∧ Y 141 1 = 0) ∧ (Y 123 70 = 0 ∧ Y 123 73 = 0 ∧ Y 123 79 = 0 ∧ Y 123 80 = -1 ∧ Y 123 84 = 0) ∧ (∀ k, k < 12 → Y 123 k = I 123 k) ∧ ∀ c, c < 123 ∨ c = 124 ∨ c = 125 → Y c = I c := by
  have hp1 := pln_m_q (d := d + 1) (Y := I) (J2 := J) (R2 := R)
  have p123 : ∀ k, k = 17 ∨ k = 18 ∨ k = 19 ∨ k = 20 ∨ k = 21 → plnM I 123 k = 0 := fun k hk => by
    unfold plnM
    rw [up_n (by decide), up_s]
    rcases hk with rfl | rfl | rfl | rfl | rfl <;> rfl
  have p141 : plnM I 141 2 = 0 ∧ plnM I 141 3 = 0 := by
    unfold plnM
    rw [up_s]
    exact ⟨rfl, rfl⟩
  have pk : ∀ k, k < 12 → plnM I 123 k = I 123 k := fun k hk => by
    unfold plnM
    rw [up_n (by decide), up_s, pk_un (by omega), pk_un (by omega), pk_un (by omega), pk_un (by omega), pk_un (by omega), pk_un (by omega), pk_un (by omega)]
  have po : ∀ c, c < 123 ∨ c = 124 ∨ c = 125 → plnM I c = I c := fun c hc => by
    unfold plnM
    rw [up_n (by omega), up_n (by omega)]
  obtain ⟨Y, h1, h2, h3, h4, h5, h6, h7, h8⟩ := kpt_m_q (d := d) (n := 0) (Y := plnM I) (J2 := J) (R2 := R) (fun k hk => Or.inl (by rcases hk with rfl | rfl; exact p141.1; exact p141.2)) (p123 18 (by omega)) (by omega)
  refine ⟨Y, ?_, ?_, ?_, h6, fun k hk => by rw [h7 k hk, pk k hk], fun c hc => by rw [h8 c hc, po c hc]⟩
  · simp (disch := omega) only [xX12_init_1030, xX12_init_1031, xX12_init_1034, xX12_init_1035, xX12_init_1038, kd_123, hK_q, ↓reduceIte, gd_t, hK_p, hN_p, hF_p, hI_p, hJ_p, hR_p, stI_p, stJ_p, stR_p, stA_p, va_rf_s, va_rf_n, clr_i, clr_l, clr_r, clr_n, clr_o, w8_0, w8_1i, w8_1r, w8_2ii, w8_2ri, w8_2ir, w8_2rr, w8_3, beq_self_eq_true, Bool.and_self, Bool.and_true, Bool.true_and, decide_true, Option.toList_some, Option.toList_none, List.cons_append, List.nil_append, Option.bind_some, if_true, if_false, Nat.reduceLeDiff, Nat.reduceLT, Nat.reduceBEq, Bool.or_false, Bool.false_or, Bool.or_true, Bool.true_or, hp1, h1]
  · rw [h2.1, h2.2.1, h2.2.2.1, h2.2.2.2.1, h2.2.2.2.2]
    exact ⟨p123 17 (by omega), p123 18 (by omega), p123 19 (by omega), p123 20 (by omega), p123 21 (by omega)⟩
  · exact ⟨(h3 141 0 (by omega) (by omega) (by decide)).trans p141.1, (h3 141 1 (by omega) (by omega) (by decide)).trans p141.2⟩
end CON

-- FITS, 4: the model's runs; the pair
/-- the model's clocks of a run hung by f, g -/
def huxM (Q : Mem) (n : Nat) (f g : Nat → Int32) : Mem := va_up (va_up Q 151 (pt 6 (Q 151) (cpF f (shR 6 (Q 151)) n))) 152 (pt 6 (Q 152) (cpF g (shR 6 (Q 152)) n))
section HUX
variable {Q : Mem} {n : Nat} {f g : Nat → Int32}
theorem hux_o {a : Nat} (h : a ≠ 151) (h2 : a ≠ 152) : huxM Q n f g a = Q a := by
  unfold huxM
  rw [up_n h2, up_n h]
theorem bgx_o {a : Nat} (h : a < 151 ∨ 156 < a) : bgnM (huxM Q n f g) 6 n a = Q a := by
  unfold bgnM
  by_cases e : a = 123
  · subst e
    rw [mdM_0]
    unfold huxM
    simp (disch := omega) only [up_n]
  · rw [mdM_o e (by omega) (by omega) (by omega) (by omega)]
    unfold huxM
    simp (disch := omega) only [up_n]
theorem bgx_151 {c : Nat} (hc : c < n) (hn : n ≤ 6) : bgnM (huxM Q n f g) 6 n 151 (6 + c) = f c ∧ bgnM (huxM Q n f g) 6 n 152 (6 + c) = g c := by
  unfold bgnM
  rw [mdM_o (by decide) (by decide) (by decide) (by decide) (by decide), mdM_o (by decide) (by decide) (by decide) (by decide) (by decide)]
  unfold huxM
  rw [up_n (by decide), up_s, up_s, pt_at (by omega), pt_at (by omega), cpF_at hc, cpF_at hc]
  exact ⟨rfl, rfl⟩
theorem bgx_lo {a k : Nat} (h1 : 151 ≤ a) (h2 : a ≤ 156) (hk : k < 6) : bgnM (huxM Q n f g) 6 n a k = Q a k := by
  unfold bgnM huxM
  rcases (show a = 151 ∨ a = 152 ∨ a = 153 ∨ a = 154 ∨ a = 155 ∨ a = 156 by omega) with rfl | rfl | rfl | rfl | rfl | rfl
  · rw [mdM_o (by decide) (by decide) (by decide) (by decide) (by decide), up_n (by decide), up_s, pt_lo hk]
  · rw [mdM_o (by decide) (by decide) (by decide) (by decide) (by decide), up_s, pt_lo hk]
  · rw [mdM_1, pt_lo hk]; simp (disch := omega) only [up_n]
  · rw [mdM_2, pt_lo hk]; simp (disch := omega) only [up_n]
  · rw [mdM_3, pt_lo hk]; simp (disch := omega) only [up_n]
  · rw [mdM_4, pt_lo hk]; simp (disch := omega) only [up_n]
theorem bgx_s {c : Nat} (hc : c < n) (hn : n ≤ 6) : bgnM (huxM Q n f g) 6 n 153 (6 + c) = Q 134 c ∧ bgnM (huxM Q n f g) 6 n 154 (6 + c) = Q 136 c ∧ bgnM (huxM Q n f g) 6 n 155 (6 + c) = 0 ∧ bgnM (huxM Q n f g) 6 n 156 (6 + c) = 0 := by
  unfold bgnM
  rw [mdM_1, mdM_2, mdM_3, mdM_4, pt_at (by omega), pt_at (by omega), pt_at (by omega), pt_at (by omega), cpF_at hc, cpF_at hc, zer_at hc, zer_at hc]
  unfold huxM
  simp (disch := omega) only [up_n, and_self]
theorem kp_bgx : kp Q (bgnM (huxM Q n f g) 6 n) := by
  refine ⟨fun a h => ?_, fun k h => ?_, fun a k h1 h2 h3 => bgx_lo h1 h2 h3⟩
  · unfold kpA at h
    exact bgx_o (by omega)
  · rw [bgx_o (by omega)]
end HUX
section FIM
variable {I Q X : Mem} {J : MemL} {R R' R1 : MemR} {t t' n nb nm fL lL fG lG st : Nat}
/-- a run of the model hung by f, g, as told else -/
theorem mBegX {f g : Nat → Int32} (h : cAll I R t t' n nb nm fL lL fG lG st) (k : plQ I t n Q) (hf : ∀ c, c < n → ∃ x, x < nb ∧ f c = nI x) (hg : ∀ c, c < n → inN (g c) 0 30) : mSt (bgnM (huxM Q n f g) 6 n) n fL (fL + lL) fG (fG + lG) (P0 I t lL lG f g) 0 ∧ plQ I t n (bgnM (huxM Q n f g) 6 n) := by
  have hn6 := h.n6
  obtain ⟨k1, q61, q62, q63, q64, q65, q157, q158⟩ := k
  have rows : ∀ a, 124 ≤ a → a ≤ 146 → Q a = I a := fun a h1 h2 => k1.1 a (by unfold kpA; omega)
  have e123 : bgnM (huxM Q n f g) 6 n 123 = Q 123 := bgx_o (by omega)
  have f13 : Q 123 13 = I 123 13 := k1.2.1 13 (by unfold kpK; omega)
  refine ⟨mBegG h.txt h.lws (fun a h1 h2 => (bgx_o (by omega)).trans (rows a (by omega) h2)) (by rw [e123]; exact f13) (by rw [e123, q62]; exact ⟨fun _ => by decide, fun _ => rfl⟩) (fun c hc => ?_) (q_w9 h) (fun c hc => by rw [bgx_o (by omega)]; exact q157 c hc) (fun i hi j hj => by
    rw [bgx_o (a := 158) (by omega), e123, q65, isB63 i (by omega), Bool.and_true, q158 i hi]
    rfl) (fun c hc => ?_) (by rw [e123]; exact q61.symm) (by rw [e123]; exact q_st h q64) (fun c hc => ?_) (fun c hc => ?_) (fun c hc => (bgx_s hc hn6).2.2.1) (fun c hc => (bgx_s hc hn6).2.2.2), k1.tr kp_bgx, ?_, ?_, ?_, ?_, ?_, ?_, ?_⟩
  · unfold wghM
    rw [e123, bgx_o (a := 132) (by omega), rows 132 (by omega) (by omega)]
    exact q_we h q63 c hc
  · rw [(bgx_151 hc hn6).1, (bgx_151 hc hn6).2]
    exact ⟨rfl, hf c hc, rfl, hg c hc⟩
  · rw [(bgx_s hc hn6).1, rows _ (by omega) (by omega)]
    exact (h.txt.2.2.2.2.1 c hc).2.2.2.2.2.1.symm
  · rw [(bgx_s hc hn6).2.1, rows _ (by omega) (by omega)]
  · rw [e123]; exact q61
  · rw [e123]; exact q62
  · rw [e123]; exact q63
  · rw [e123]; exact q64
  · rw [e123]; exact q65
  · rw [bgx_o (by omega)]; exact q157
  · rw [bgx_o (by omega)]; exact q158
theorem plQ_o {a : Nat} {f : Nat → Int32} (k : plQ I t n Q) (h : a = 169 ∨ a = 163 ∨ a = 164 ∨ a = 168) : plQ I t n (va_up Q a f) := by
  obtain ⟨k1, q61, q62, q63, q64, q65, q157, q158⟩ := k
  refine ⟨k1.tr ⟨fun b hb => up_n (by unfold kpA at hb; omega), fun k hk => by rw [up_n (by omega)], fun b k h1 h2 h3 => by rw [up_n (by omega)]⟩, ?_, ?_, ?_, ?_, ?_, ?_, ?_⟩
  · rw [up_n (by omega)]; exact q61
  · rw [up_n (by omega)]; exact q62
  · rw [up_n (by omega)]; exact q63
  · rw [up_n (by omega)]; exact q64
  · rw [up_n (by omega)]; exact q65
  · rw [up_n (by omega)]; exact q157
  · rw [up_n (by omega)]; exact q158
theorem mSt_o {a k lL' lG' : Nat} {P : PR} {f : Nat → Int32} (s : mSt Q n fL lL' fG lG' P k) (h : a = 169 ∨ a = 163 ∨ a = 164 ∨ a = 168) : mSt (va_up Q a f) n fL lL' fG lG' P k := by
  have u : ∀ b, b ≠ 169 → b ≠ 163 → b ≠ 164 → b ≠ 168 → va_up Q a f b = Q b := fun b h1 h2 h3 h4 => up_n (by omega)
  generalize va_up Q a f = Y at u
  obtain ⟨⟨⟨q1, q2, q3, q4, q5⟩, h2, h3, h4, h5, h6, h7, h8, h9⟩, w, z⟩ := s
  have e1 : losM Y fL lL' = losM Q fL lL' := by
    funext nm
    unfold losM
    simp (disch := omega) only [u]
  have e2 : goMd Y fG lG' = goMd Q fG lG' := by
    funext nm sp
    unfold goMd
    simp (disch := omega) only [u]
  have e3 : wghM Y = wghM Q := by
    funext c
    unfold wghM
    simp (disch := omega) only [u]
  have e4 : ∀ a b, reaM Y a b = reaM Q a b := by
    intro a b
    unfold reaM stfM
    simp (disch := omega) only [u]
  have e5 : sMd Y 6 = sMd Q 6 := by
    unfold sMd
    simp (disch := omega) only [u]
  have u1 : Y 123 = Q 123 := u _ (by decide) (by decide) (by decide) (by decide)
  refine ⟨⟨⟨by rw [u1]; exact q1, q2, ?_, ?_, by rw [e3]; exact q5⟩, by rw [e1]; exact h2, by rw [e2]; exact h3, ?_, ?_, by rw [e3]; exact h6, ?_, by rw [e3]; simp only [e4]; exact h8, ?_⟩, by rw [e5]; exact w, by rw [u1]; exact z⟩
  · unfold okM okM1 at q3 ⊢
    simp (disch := omega) only [u]
    exact q3
  · simp (disch := omega) only [u]; exact q4
  · simp (disch := omega) only [u]; exact h4
  · simp (disch := omega) only [u]; exact h5
  · simp (disch := omega) only [u]; exact h7
  · simp (disch := omega) only [u]; exact h9
def agM (m nt S : Nat → Int32) (k : Nat) : Bool := decide (¬ m k = 0) && decide (¬ (if 0 ≤ nt (3 * k + 1) then bi (isB (S (nt (3 * k)).toNatClampNeg) (nt (3 * k + 1))) else bi (¬ S (nt (3 * k)).toNatClampNeg = 0)) = bi (nt (3 * k + 2) = 1))
theorem m3_2 (k : Nat) : nI (3 * k) + 2 = nI (3 * k + 2) := nI_add (3 * k) 2
/-- the model's look at the notes -/
theorem agr_m {d a e m : Nat} {l4 l5 : Option Value} (h40 : a ≤ 40) (ha : (if 0 ≤ X 123 80 then X 123 80 else X 123 79) = nI a) (hact : ∀ k, k < a → ¬ X 168 k = 0 → ∃ s, s < 2000 ∧ X 167 (3 * k) = nI s) : E (C (d + 1)) MX12_isFit 155 [some (.ref 123), some (.int (nI m)), some (.int (nI e)), some (.int 0), l4, l5] [] (hp X J R) = some (some (.int (tgV (srF (fun i (_ : Unit) => agM (X 168) (X 167) (X 169) i) (fun _ s => s) a 0 ()).1)), hp X J R) := by
  have n1 : ¬ (1 : Int32) = 0 := by decide
  have n0 : ¬ (0 : Int32) = 1 := by decide
  have ek := kno_m (d := d) (I := X) (J := J) (R := R)
  rw [ha] at ek
  have h := for_s (P := fun i (s : Option Value × Option Value) => E (C (d + 1)) MX12_isFit 155 [some (.ref 123), some (.int (nI m)), some (.int (nI e)), some (.int (nI i)), s.1, s.2] [] (hp X J R)) (F := fun o => some (some (.int (tgV o.1)), hp X J R)) (c := fun i _ => agM (X 168) (X 167) (X 169) i) (f := fun i s => if X 168 i = 0 then s else (some (.int (X 169 (X 167 (3 * i)).toNatClampNeg)), some (.int (if 0 ≤ X 167 (3 * i + 1) then bi (isB (X 169 (X 167 (3 * i)).toNatClampNeg) (X 167 (3 * i + 1))) else bi (¬ X 169 (X 167 (3 * i)).toNatClampNeg = 0))))) (n := a) (by
    intro i s hi
    have c0 : ¬ a ≤ i := by omega
    rw [xX12_isFit_155]
    unfold agM
    by_cases z0 : X 168 i = 0
    · simp (disch := omega) only [xX12_isFit_156, xX12_isFit_157, xX12_isFit_160, xX12_isFit_163, xX12_isFit_164, xX12_isFit_167, xX12_isFit_168, xX12_isFit_169, xX12_isFit_172, xX12_isFit_175, xX12_isFit_176, xX12_isFit_179, xX12_isFit_180, xX12_isFit_183, xX12_isFit_184, xX12_isFit_185, xX12_isFit_186, xX12_isFit_187, xX12_isFit_188, xX12_isFit_190, xX12_isFit_191, xX12_isFit_194, xX12_isFit_195, xX12_isFit_196, xX12_isFit_197, xX12_isFit_198, xX12_isFit_199, xX12_isFit_200, xX12_isFit_203, xX12_isFit_205, xX12_isFit_208, xX12_isFit_209, xX12_isFit_212, xX12_isFit_213, xX12_isFit_216, xX12_isFit_218, xX12_isFit_219, xX12_isFit_222, xX12_isFit_223, xX12_isFit_224, xX12_isFit_225, xX12_isFit_226, xX12_isFit_227, xX12_isFit_228, xX12_isFit_231, xX12_isFit_233, xX12_isFit_235, xX12_isFit_236, xX12_isFit_239, xX12_isFit_240, xX12_isFit_241, xX12_isFit_242, xX12_isFit_243, xX12_isFit_244, xX12_isFit_245, xX12_isFit_246, xX12_isFit_249, xX12_isFit_250, xX12_isFit_253, xX12_isFit_254, xX12_isFit_257, xX12_isFit_258, xX12_isFit_259, xX12_isFit_262, xX12_isFit_265, xX12_isFit_266, kd_123, fi_123_27, kd_130, ln_130, fi_123_28, kd_131, ln_131, fi_123_36, kd_139, ln_139, fi_123_37, kd_140, ln_140, fi_123_55, kd_151, ln_151, fi_123_56, kd_152, ln_152, fi_123_81, kd_167, ln_167, fi_123_82, kd_168, ln_168, fi_123_83, kd_169, ln_169, kd_123, ↓reduceIte, gd_t, hK_p, hN_p, hF_p, hI_p, hJ_p, hR_p, stI_p, stJ_p, stR_p, stA_p, va_rf_s, va_rf_n, clr_i, clr_l, clr_r, clr_n, clr_o, w8_0, w8_1i, w8_1r, w8_2ii, w8_2ri, w8_2ir, w8_2rr, w8_3, beq_self_eq_true, Bool.and_self, Bool.and_true, Bool.true_and, decide_true, Option.toList_some, Option.toList_none, List.cons_append, List.nil_append, Option.bind_some, if_true, if_false, Nat.reduceLeDiff, Nat.reduceLT, Nat.reduceBEq, Bool.or_false, Bool.false_or, Bool.or_true, Bool.true_or, nI_leI, nI_ltI, nI_eq, nI_clamp, inb_n, up_s, up_n, bx_uu, nI_1, ix6, nI_0n, pk_us, pk_un, ge_0n, ek, c0, z0, not_true_eq_false, decide_false, Bool.false_and, Bool.false_eq_true]
    obtain ⟨y, y1, y2⟩ := hact i hi z0
    rw [y2, nI_clamp (by omega)]
    by_cases z1 : 0 ≤ X 167 (3 * i + 1)
    · have b1 : bi (isB (X 169 y) (X 167 (3 * i + 1))) = 0 ∨ bi (isB (X 169 y) (X 167 (3 * i + 1))) = 1 := by
        unfold bi
        split
        · exact Or.inr rfl
        · exact Or.inl rfl
      generalize hb : bi (isB (X 169 y) (X 167 (3 * i + 1))) = u at *
      have b2 : bi (X 167 (3 * i + 2) = 1) = if X 167 (3 * i + 2) = 1 then 1 else 0 := rfl
      rw [b2]
      rcases b1 with rfl | rfl <;> by_cases z3 : X 167 (3 * i + 2) = 1 <;> simp (disch := omega) only [xX12_isFit_156, xX12_isFit_157, xX12_isFit_160, xX12_isFit_163, xX12_isFit_164, xX12_isFit_167, xX12_isFit_168, xX12_isFit_169, xX12_isFit_172, xX12_isFit_175, xX12_isFit_176, xX12_isFit_179, xX12_isFit_180, xX12_isFit_183, xX12_isFit_184, xX12_isFit_185, xX12_isFit_186, xX12_isFit_187, xX12_isFit_188, xX12_isFit_190, xX12_isFit_191, xX12_isFit_194, xX12_isFit_195, xX12_isFit_196, xX12_isFit_197, xX12_isFit_198, xX12_isFit_199, xX12_isFit_200, xX12_isFit_203, xX12_isFit_205, xX12_isFit_208, xX12_isFit_209, xX12_isFit_212, xX12_isFit_213, xX12_isFit_216, xX12_isFit_218, xX12_isFit_219, xX12_isFit_222, xX12_isFit_223, xX12_isFit_224, xX12_isFit_225, xX12_isFit_226, xX12_isFit_227, xX12_isFit_228, xX12_isFit_231, xX12_isFit_233, xX12_isFit_235, xX12_isFit_236, xX12_isFit_239, xX12_isFit_240, xX12_isFit_241, xX12_isFit_242, xX12_isFit_243, xX12_isFit_244, xX12_isFit_245, xX12_isFit_246, xX12_isFit_249, xX12_isFit_250, xX12_isFit_253, xX12_isFit_254, xX12_isFit_257, xX12_isFit_258, xX12_isFit_259, xX12_isFit_262, xX12_isFit_265, xX12_isFit_266, kd_123, fi_123_27, kd_130, ln_130, fi_123_28, kd_131, ln_131, fi_123_36, kd_139, ln_139, fi_123_37, kd_140, ln_140, fi_123_55, kd_151, ln_151, fi_123_56, kd_152, ln_152, fi_123_81, kd_167, ln_167, fi_123_82, kd_168, ln_168, fi_123_83, kd_169, ln_169, kd_123, ↓reduceIte, gd_t, hK_p, hN_p, hF_p, hI_p, hJ_p, hR_p, stI_p, stJ_p, stR_p, stA_p, va_rf_s, va_rf_n, clr_i, clr_l, clr_r, clr_n, clr_o, w8_0, w8_1i, w8_1r, w8_2ii, w8_2ri, w8_2ir, w8_2rr, w8_3, beq_self_eq_true, Bool.and_self, Bool.and_true, Bool.true_and, decide_true, Option.toList_some, Option.toList_none, List.cons_append, List.nil_append, Option.bind_some, if_true, if_false, Nat.reduceLeDiff, Nat.reduceLT, Nat.reduceBEq, Bool.or_false, Bool.false_or, Bool.or_true, Bool.true_or, nI_leI, nI_ltI, nI_eq, nI_clamp, inb_n, up_s, up_n, bx_uu, nI_1, ix6, nI_0n, pk_us, pk_un, ge_0n, m3_0, m3_2, ek, c0, z0, y2, z1, isO_spec, hb, z3, n1, n0, tgV, z01, Option.isSome_some, not_true_eq_false, not_false_eq_true, decide_false, Bool.false_eq_true]
    · by_cases z2 : X 169 y = 0 <;> by_cases z3 : X 167 (3 * i + 2) = 1 <;> simp (disch := omega) only [xX12_isFit_156, xX12_isFit_157, xX12_isFit_160, xX12_isFit_163, xX12_isFit_164, xX12_isFit_167, xX12_isFit_168, xX12_isFit_169, xX12_isFit_172, xX12_isFit_175, xX12_isFit_176, xX12_isFit_179, xX12_isFit_180, xX12_isFit_183, xX12_isFit_184, xX12_isFit_185, xX12_isFit_186, xX12_isFit_187, xX12_isFit_188, xX12_isFit_190, xX12_isFit_191, xX12_isFit_194, xX12_isFit_195, xX12_isFit_196, xX12_isFit_197, xX12_isFit_198, xX12_isFit_199, xX12_isFit_200, xX12_isFit_203, xX12_isFit_205, xX12_isFit_208, xX12_isFit_209, xX12_isFit_212, xX12_isFit_213, xX12_isFit_216, xX12_isFit_218, xX12_isFit_219, xX12_isFit_222, xX12_isFit_223, xX12_isFit_224, xX12_isFit_225, xX12_isFit_226, xX12_isFit_227, xX12_isFit_228, xX12_isFit_231, xX12_isFit_233, xX12_isFit_235, xX12_isFit_236, xX12_isFit_239, xX12_isFit_240, xX12_isFit_241, xX12_isFit_242, xX12_isFit_243, xX12_isFit_244, xX12_isFit_245, xX12_isFit_246, xX12_isFit_249, xX12_isFit_250, xX12_isFit_253, xX12_isFit_254, xX12_isFit_257, xX12_isFit_258, xX12_isFit_259, xX12_isFit_262, xX12_isFit_265, xX12_isFit_266, kd_123, fi_123_27, kd_130, ln_130, fi_123_28, kd_131, ln_131, fi_123_36, kd_139, ln_139, fi_123_37, kd_140, ln_140, fi_123_55, kd_151, ln_151, fi_123_56, kd_152, ln_152, fi_123_81, kd_167, ln_167, fi_123_82, kd_168, ln_168, fi_123_83, kd_169, ln_169, kd_123, ↓reduceIte, gd_t, hK_p, hN_p, hF_p, hI_p, hJ_p, hR_p, stI_p, stJ_p, stR_p, stA_p, va_rf_s, va_rf_n, clr_i, clr_l, clr_r, clr_n, clr_o, w8_0, w8_1i, w8_1r, w8_2ii, w8_2ri, w8_2ir, w8_2rr, w8_3, beq_self_eq_true, Bool.and_self, Bool.and_true, Bool.true_and, decide_true, Option.toList_some, Option.toList_none, List.cons_append, List.nil_append, Option.bind_some, if_true, if_false, Nat.reduceLeDiff, Nat.reduceLT, Nat.reduceBEq, Bool.or_false, Bool.false_or, Bool.or_true, Bool.true_or, nI_leI, nI_ltI, nI_eq, nI_clamp, inb_n, up_s, up_n, bx_uu, nI_1, ix6, nI_0n, pk_us, pk_un, ge_0n, m3_0, m3_2, ek, c0, z0, y2, z1, bi, z2, z3, n1, n0, tgV, z01, Option.isSome_some, not_true_eq_false, not_false_eq_true, decide_false, Bool.false_eq_true]) (by
    intro s
    have c0 : a ≤ a := Nat.le_refl a
    rw [xX12_isFit_155]
    simp (disch := omega) only [xX12_isFit_156, xX12_isFit_157, xX12_isFit_160, xX12_isFit_163, xX12_isFit_164, xX12_isFit_167, xX12_isFit_168, xX12_isFit_169, xX12_isFit_172, xX12_isFit_175, xX12_isFit_176, xX12_isFit_179, xX12_isFit_180, xX12_isFit_183, xX12_isFit_184, xX12_isFit_185, xX12_isFit_186, xX12_isFit_187, xX12_isFit_188, xX12_isFit_190, xX12_isFit_191, xX12_isFit_194, xX12_isFit_195, xX12_isFit_196, xX12_isFit_197, xX12_isFit_198, xX12_isFit_199, xX12_isFit_200, xX12_isFit_203, xX12_isFit_205, xX12_isFit_208, xX12_isFit_209, xX12_isFit_212, xX12_isFit_213, xX12_isFit_216, xX12_isFit_218, xX12_isFit_219, xX12_isFit_222, xX12_isFit_223, xX12_isFit_224, xX12_isFit_225, xX12_isFit_226, xX12_isFit_227, xX12_isFit_228, xX12_isFit_231, xX12_isFit_233, xX12_isFit_235, xX12_isFit_236, xX12_isFit_239, xX12_isFit_240, xX12_isFit_241, xX12_isFit_242, xX12_isFit_243, xX12_isFit_244, xX12_isFit_245, xX12_isFit_246, xX12_isFit_249, xX12_isFit_250, xX12_isFit_253, xX12_isFit_254, xX12_isFit_257, xX12_isFit_258, xX12_isFit_259, xX12_isFit_262, xX12_isFit_265, xX12_isFit_266, kd_123, fi_123_27, kd_130, ln_130, fi_123_28, kd_131, ln_131, fi_123_36, kd_139, ln_139, fi_123_37, kd_140, ln_140, fi_123_55, kd_151, ln_151, fi_123_56, kd_152, ln_152, fi_123_81, kd_167, ln_167, fi_123_82, kd_168, ln_168, fi_123_83, kd_169, ln_169, kd_123, ↓reduceIte, gd_t, hK_p, hN_p, hF_p, hI_p, hJ_p, hR_p, stI_p, stJ_p, stR_p, stA_p, va_rf_s, va_rf_n, clr_i, clr_l, clr_r, clr_n, clr_o, w8_0, w8_1i, w8_1r, w8_2ii, w8_2ri, w8_2ir, w8_2rr, w8_3, beq_self_eq_true, Bool.and_self, Bool.and_true, Bool.true_and, decide_true, Option.toList_some, Option.toList_none, List.cons_append, List.nil_append, Option.bind_some, if_true, if_false, Nat.reduceLeDiff, Nat.reduceLT, Nat.reduceBEq, Bool.or_false, Bool.false_or, Bool.or_true, Bool.true_or, nI_leI, nI_ltI, nI_eq, nI_clamp, inb_n, up_s, up_n, bx_uu, nI_1, ix6, nI_0n, pk_us, pk_un, ge_0n, ek, c0, tgV, z11, Option.isSome_none, Bool.false_eq_true]) a 0 (l4, l5) (by omega)
  rw [nI_0, srF_u (c := fun i => agM (X 168) (X 167) (X 169) i) a 0 (l4, l5)] at h
  exact h
end FIM

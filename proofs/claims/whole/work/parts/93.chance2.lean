-- RUNS, 9: chance
def chx (x : Int64) : Int64 := (x * 1103515245 + 12345) &&& 2147483647
def chv (x : Int64) : Int32 := (x / 65536 - x / 65536 / 1000 * 1000).toInt32
def chL (x : Int64) : Nat → Int64
  | 0 => x
  | j + 1 => chx (chL x j)
theorem chv_ok (y : Int64) : ∃ p, p < 1000 ∧ chv (y &&& 2147483647) = nI p := by
  have e : y &&& 2147483647 = Int64.ofNat (y &&& 2147483647).toBitVec.toNat := Int64.toBitVec.inj (by rw [Int64.toBitVec_ofNat', BitVec.ofNat_toNat, BitVec.setWidth_eq])
  have hle : (y &&& 2147483647).toBitVec.toNat ≤ 2147483647 := by
    have : (y &&& 2147483647).toBitVec = y.toBitVec &&& (2147483647 : Int64).toBitVec := rfl
    rw [this, BitVec.toNat_and]
    exact Nat.and_le_right
  generalize (y &&& 2147483647).toBitVec.toNat = m at e hle
  unfold chv
  rw [e, show (65536 : Int64) = Int64.ofNat 65536 from rfl, show (1000 : Int64) = Int64.ofNat 1000 from rfl, ← Int64.ofNat_div (by omega) (by omega), ← Int64.ofNat_div (by omega) (by omega), ← Int64.ofNat_mul, ← Int64.ofNat_sub _ _ (by omega), Int64.toInt32_ofNat']
  exact ⟨m / 65536 - m / 65536 / 1000 * 1000, by omega, rfl⟩
def chF (x : Int64) : Nat → Int32 := fun c => chv (chL x (c + 1))
theorem chF_ph {n : Nat} {x : Int64} : phO n (chF x) := fun c _ => chv_ok _
section CHN
variable {I Q Q1 : Mem} {J : MemL} {R R' R1 : MemR} {t t' n nb nm fL lL fG lG st : Nat}
def chP (I : Mem) (t lL lG : Nat) (x : Int64) : PR := P1 I t lL lG (I (t + 10)) (acT (I (t + 14))) (chF x)
def chS (I : Mem) (t lL lG n k : Nat) (w : Int32) (_ : Nat) (s : Int64 × Int32) : Int64 × Int32 := (chL s.1 n, if tgR (chP I t lL lG s.1) n w k = 0 then s.2 else s.2 + 1)
theorem chn_c {d k : Nat} {sd w : Int32} (h : cAll I R t t' n nb nm fL lL fG lG st) (hk : k ≤ 500) : ∀ (q i : Nat) (x : Int64) (mn : Int32) (Q : Mem) (J : MemL) (R' : MemR) (l8 : Option Value), i + q = 10 → tk I Q → rk R R' → ∃ I1 J1 R1, E (C (d + 5)) MX11_chance 34 [some (.ref 0), some (.int sd), some (.int (nI k)), some (.int w), some (.long x), none, some (.int mn), some (.int (nI i)), l8] [] (hp Q J R') = some (some (.int (itf (chS I t lL lG n k w) q i (x, mn)).2), hp I1 J1 R1) ∧ tk I I1 ∧ rk R R1 := by
  have hn6 := h.n6
  have ht2 := te_hi h.te
  have hm : isMo 88 := Or.inr (Or.inr rfl)
  have m1 : (!(decide ((65536 : Int64) = 0))) = true := by decide
  have m2 : (!(decide ((1000 : Int64) = 0))) = true := by decide
  intro q
  induction q with
  | zero =>
    intro i x mn Q J R' l8 hi kq rq
    obtain rfl : i = 10 := by omega
    refine ⟨Q, J, R', ?_, kq, rq⟩
    have c0 : (10 : Int32) ≤ nI 10 := by decide
    rw [xX11_chance_34]
    simp (disch := omega) only [xX11_chance_36, xX11_chance_38, xX11_chance_41, xX11_chance_42, xX11_chance_45, xX11_chance_46, xX11_chance_48, xX11_chance_50, xX11_chance_51, xX11_chance_54, xX11_chance_57, xX11_chance_60, xX11_chance_63, xX11_chance_65, xX11_chance_68, xX11_chance_69, xX11_chance_72, xX11_chance_73, xX11_chance_76, xX11_chance_77, xX11_chance_79, xX11_chance_80, xX11_chance_83, xX11_chance_86, xX11_chance_88, xX11_chance_90, xX11_chance_93, xX11_chance_94, xX11_chance_97, xX11_chance_98, xX11_chance_99, xX11_chance_100, xX11_chance_103, xX11_chance_106, xX11_chance_107, xX11_chance_110, xX11_chance_111, xX11_chance_114, xX11_chance_115, xX11_chance_118, xX11_chance_119, xX11_chance_122, xX11_chance_125, xX11_chance_128, xX11_chance_131, xX11_chance_134, xX11_chance_136, kd_0, fi_0_8, kd_88, ↓reduceIte, gd_t, hK_p, hN_p, hF_p, hI_p, hJ_p, hR_p, stI_p, stJ_p, stR_p, stA_p, va_rf_s, va_rf_n, clr_i, clr_l, clr_r, clr_n, clr_o, w8_0, w8_1i, w8_1r, w8_2ii, w8_2ri, w8_2ir, w8_2rr, w8_3, beq_self_eq_true, Bool.and_self, Bool.and_true, Bool.true_and, decide_true, Option.toList_some, Option.toList_none, List.cons_append, List.nil_append, Option.bind_some, if_true, if_false, Nat.reduceLeDiff, Nat.reduceLT, Nat.reduceBEq, Bool.or_false, Bool.false_or, Bool.or_true, Bool.true_or, nI_leI, nI_ltI, nI_eq, nI_clamp, inb_n, up_s, up_n, bx_uu, nI_1, ix6, nI_0n, pk_us, pk_un, ge_0n, c0, itf]
  | succ q ih =>
    intro i x mn Q J R' l8 hi kq rq
    have c0 : ¬ (10 : Int32) ≤ nI i := fun w => absurd ((nI_leI (a := 10) (by omega) (by omega)).mp w) (by omega)
    obtain ⟨e1, k1, r1, s1⟩ := tri_c (d := d) (J := J) h kq rq
    generalize hR : va_up R' 88 (va_up (R' 88) 0 (some t)) = R1 at *
    generalize hQ : begM Q 88 t 62 63 n = Q1 at *
    have hR3 : R1 0 3 = some t := by rw [r1 0 (by decide)]; exact h.r3
    have hnc : Q1 (t + 5) 1 = nI n := by rw [k1.lo (by omega)]; exact h.nc
    have hl := for_0 (P := fun j (r : Nat → Int32) => E (C (d + 5)) MX11_chance 48 [some (.ref 0), some (.int sd), some (.int (nI k)), some (.int w), some (.long (chL x j)), none, some (.int mn), some (.int (nI i)), some (.int (nI j))] [] (hp (va_up Q1 95 r) J R1)) (fin := fun r => E (C (d + 5)) MX11_chance 106 [some (.ref 0), some (.int sd), some (.int (nI k)), some (.int w), some (.long (chL x n)), none, some (.int mn), some (.int (nI i)), some (.int (nI n))] [] (hp (va_up Q1 95 r) J R1)) (f := fun j r => upd r j (chF x j)) (n := n) (s := Q1 95) (by
      intro j r hj
      have c1 : ¬ n ≤ j := by omega
      have u5 : va_up Q1 95 r (t + 5) 1 = nI n := by rw [up_n (by omega)]; exact hnc
      rw [xX11_chance_48]
      simp (disch := omega) only [xX11_chance_50, xX11_chance_51, xX11_chance_54, xX11_chance_57, xX11_chance_60, xX11_chance_63, xX11_chance_65, xX11_chance_68, xX11_chance_69, xX11_chance_72, xX11_chance_73, xX11_chance_76, xX11_chance_77, xX11_chance_79, xX11_chance_80, xX11_chance_83, xX11_chance_86, xX11_chance_88, xX11_chance_90, xX11_chance_93, xX11_chance_94, xX11_chance_97, xX11_chance_98, xX11_chance_99, xX11_chance_100, xX11_chance_103, kd_0, fi_0_8, kd_88, fi_88_11, kd_95, ln_95, te_k0 h.te, te_f0_3 h.te, te_k5 h.te, te_k1 h.te, te_k15 h.te, kd_88, ↓reduceIte, gd_t, hK_p, hN_p, hF_p, hI_p, hJ_p, hR_p, stI_p, stJ_p, stR_p, stA_p, va_rf_s, va_rf_n, clr_i, clr_l, clr_r, clr_n, clr_o, w8_0, w8_1i, w8_1r, w8_2ii, w8_2ri, w8_2ir, w8_2rr, w8_3, beq_self_eq_true, Bool.and_self, Bool.and_true, Bool.true_and, decide_true, Option.toList_some, Option.toList_none, List.cons_append, List.nil_append, Option.bind_some, if_true, if_false, Nat.reduceLeDiff, Nat.reduceLT, Nat.reduceBEq, Bool.or_false, Bool.false_or, Bool.or_true, Bool.true_or, nI_leI, nI_ltI, nI_eq, nI_clamp, inb_n, up_s, up_n, bx_uu, nI_1, ix6, nI_0n, pk_us, pk_un, ge_0n, hR3, u5, c1, m1, m2, chL, chF, chx, chv]) (by
      intro r
      have c1 : n ≤ n := Nat.le_refl n
      have u5 : va_up Q1 95 r (t + 5) 1 = nI n := by rw [up_n (by omega)]; exact hnc
      rw [xX11_chance_48]
      simp (disch := omega) only [xX11_chance_50, xX11_chance_51, xX11_chance_54, xX11_chance_57, xX11_chance_60, xX11_chance_63, xX11_chance_65, xX11_chance_68, xX11_chance_69, xX11_chance_72, xX11_chance_73, xX11_chance_76, xX11_chance_77, xX11_chance_79, xX11_chance_80, xX11_chance_83, xX11_chance_86, xX11_chance_88, xX11_chance_90, xX11_chance_93, xX11_chance_94, xX11_chance_97, xX11_chance_98, xX11_chance_99, xX11_chance_100, xX11_chance_103, kd_0, fi_0_8, kd_88, fi_88_11, kd_95, ln_95, te_k0 h.te, te_f0_3 h.te, te_k5 h.te, te_k1 h.te, te_k15 h.te, kd_88, ↓reduceIte, gd_t, hK_p, hN_p, hF_p, hI_p, hJ_p, hR_p, stI_p, stJ_p, stR_p, stA_p, va_rf_s, va_rf_n, clr_i, clr_l, clr_r, clr_n, clr_o, w8_0, w8_1i, w8_1r, w8_2ii, w8_2ri, w8_2ir, w8_2rr, w8_3, beq_self_eq_true, Bool.and_self, Bool.and_true, Bool.true_and, decide_true, Option.toList_some, Option.toList_none, List.cons_append, List.nil_append, Option.bind_some, if_true, if_false, Nat.reduceLeDiff, Nat.reduceLT, Nat.reduceBEq, Bool.or_false, Bool.false_or, Bool.or_true, Bool.true_or, nI_leI, nI_ltI, nI_eq, nI_clamp, inb_n, up_s, up_n, bx_uu, nI_1, ix6, nI_0n, pk_us, pk_un, ge_0n, hR3, u5, c1])
    rw [itf_cp, nI_0, up_self, show chL x 0 = x from rfl] at hl
    have s2 : cSt (va_up Q1 95 (cpF (chF x) (Q1 95) n)) R1 88 t lL lG n (chP I t lL lG x) 0 := by
      refine cSt_567 hm h.te s1 (fun a _ _ h7 => up_n h7) ?_ ?_ ?_ chF_ph
      · rw [up_n (by decide)]; exact s1.1.2.2.2.2.2.2.1
      · rw [up_n (by decide)]; exact s1.1.2.2.2.2.2.2.2.2.2.2.1
      · rw [up_s]; exact fun c hc => cpF_at hc
    obtain ⟨I2, J2, e2, s3, o2⟩ := cSt_go (d := d) (J := J) (k := k) hm h.te hn6 (by omega) s2
    have e3 := cSt_tog (d := d + 2) (J := J2) (w := w) hn6 s3
    have k2 : tk I I2 := k1.tr (tk.mo (fun a ha => (o2 a ha).trans (up_n (by omega))))
    unfold itf
    have hS : chS I t lL lG n k w i (x, mn) = (chL x n, if tgR (chP I t lL lG x) n w k = 0 then mn else mn + 1) := rfl
    rw [hS]
    by_cases z : tgR (chP I t lL lG x) n w k = 0
    · rw [if_pos z]
      obtain ⟨I3, J3, R3, e4, k3, r3⟩ := ih (i + 1) (chL x n) mn I2 J2 R1 (some (.int (nI n))) (by omega) k2 r1
      refine ⟨I3, J3, R3, ?_, k3, r3⟩
      rw [xX11_chance_34]
      simp (disch := omega) only [xX11_chance_36, xX11_chance_38, xX11_chance_41, xX11_chance_42, xX11_chance_45, xX11_chance_46, kd_0, fi_0_8, kd_88, kd_0, ↓reduceIte, gd_t, hK_p, hN_p, hF_p, hI_p, hJ_p, hR_p, stI_p, stJ_p, stR_p, stA_p, va_rf_s, va_rf_n, clr_i, clr_l, clr_r, clr_n, clr_o, w8_0, w8_1i, w8_1r, w8_2ii, w8_2ri, w8_2ir, w8_2rr, w8_3, beq_self_eq_true, Bool.and_self, Bool.and_true, Bool.true_and, decide_true, Option.toList_some, Option.toList_none, List.cons_append, List.nil_append, Option.bind_some, if_true, if_false, Nat.reduceLeDiff, Nat.reduceLT, Nat.reduceBEq, Bool.or_false, Bool.false_or, Bool.or_true, Bool.true_or, nI_leI, nI_ltI, nI_eq, nI_clamp, inb_n, up_s, up_n, bx_uu, nI_1, ix6, nI_0n, pk_us, pk_un, ge_0n, c0, e1]
      rw [hl]
      simp (disch := omega) only [xX11_chance_106, xX11_chance_107, xX11_chance_110, xX11_chance_111, xX11_chance_114, xX11_chance_115, xX11_chance_118, xX11_chance_119, xX11_chance_122, xX11_chance_125, xX11_chance_128, xX11_chance_131, kd_0, fi_0_8, kd_88, kd_88, ↓reduceIte, gd_t, hK_p, hN_p, hF_p, hI_p, hJ_p, hR_p, stI_p, stJ_p, stR_p, stA_p, va_rf_s, va_rf_n, clr_i, clr_l, clr_r, clr_n, clr_o, w8_0, w8_1i, w8_1r, w8_2ii, w8_2ri, w8_2ir, w8_2rr, w8_3, beq_self_eq_true, Bool.and_self, Bool.and_true, Bool.true_and, decide_true, Option.toList_some, Option.toList_none, List.cons_append, List.nil_append, Option.bind_some, if_true, if_false, Nat.reduceLeDiff, Nat.reduceLT, Nat.reduceBEq, Bool.or_false, Bool.false_or, Bool.or_true, Bool.true_or, nI_leI, nI_ltI, nI_eq, nI_clamp, inb_n, up_s, up_n, bx_uu, nI_1, ix6, nI_0n, pk_us, pk_un, ge_0n, e2, e3, z, e4]
    · rw [if_neg z]
      obtain ⟨I3, J3, R3, e4, k3, r3⟩ := ih (i + 1) (chL x n) (mn + 1) I2 J2 R1 (some (.int (nI n))) (by omega) k2 r1
      refine ⟨I3, J3, R3, ?_, k3, r3⟩
      rw [xX11_chance_34]
      simp (disch := omega) only [xX11_chance_36, xX11_chance_38, xX11_chance_41, xX11_chance_42, xX11_chance_45, xX11_chance_46, kd_0, fi_0_8, kd_88, kd_0, ↓reduceIte, gd_t, hK_p, hN_p, hF_p, hI_p, hJ_p, hR_p, stI_p, stJ_p, stR_p, stA_p, va_rf_s, va_rf_n, clr_i, clr_l, clr_r, clr_n, clr_o, w8_0, w8_1i, w8_1r, w8_2ii, w8_2ri, w8_2ir, w8_2rr, w8_3, beq_self_eq_true, Bool.and_self, Bool.and_true, Bool.true_and, decide_true, Option.toList_some, Option.toList_none, List.cons_append, List.nil_append, Option.bind_some, if_true, if_false, Nat.reduceLeDiff, Nat.reduceLT, Nat.reduceBEq, Bool.or_false, Bool.false_or, Bool.or_true, Bool.true_or, nI_leI, nI_ltI, nI_eq, nI_clamp, inb_n, up_s, up_n, bx_uu, nI_1, ix6, nI_0n, pk_us, pk_un, ge_0n, c0, e1]
      rw [hl]
      simp (disch := omega) only [xX11_chance_106, xX11_chance_107, xX11_chance_110, xX11_chance_111, xX11_chance_114, xX11_chance_115, xX11_chance_118, xX11_chance_119, xX11_chance_122, xX11_chance_125, xX11_chance_128, xX11_chance_131, kd_0, fi_0_8, kd_88, kd_88, ↓reduceIte, gd_t, hK_p, hN_p, hF_p, hI_p, hJ_p, hR_p, stI_p, stJ_p, stR_p, stA_p, va_rf_s, va_rf_n, clr_i, clr_l, clr_r, clr_n, clr_o, w8_0, w8_1i, w8_1r, w8_2ii, w8_2ri, w8_2ir, w8_2rr, w8_3, beq_self_eq_true, Bool.and_self, Bool.and_true, Bool.true_and, decide_true, Option.toList_some, Option.toList_none, List.cons_append, List.nil_append, Option.bind_some, if_true, if_false, Nat.reduceLeDiff, Nat.reduceLT, Nat.reduceBEq, Bool.or_false, Bool.false_or, Bool.or_true, Bool.true_or, nI_leI, nI_ltI, nI_eq, nI_clamp, inb_n, up_s, up_n, bx_uu, nI_1, ix6, nI_0n, pk_us, pk_un, ge_0n, e2, e3, z, e4]
/-- behind plainRun: what a run is made of is as told -/
def plQ (I : Mem) (t n : Nat) (Q : Mem) : Prop := kp I Q ∧ Q 123 61 = I t 12 ∧ Q 123 62 = 1 ∧ Q 123 63 = 1 ∧ Q 123 64 = -1 ∧ Q 123 65 = 63 ∧ (∀ c, c < n → Q 157 c = I (t + 10) c) ∧ ∀ c, c < n → Q 158 c = I (t + 14) c
theorem plQ_pla (h : cAll I R t t' n nb nm fL lL fG lG st) (k : kp I Q) : plQ I t n (plaM Q) := by
  obtain ⟨q61, q157, q158⟩ := pla_q h k
  exact ⟨k.tr kp_pla, q61, pla_61.2.1, pla_61.2.2.1, pla_61.2.2.2.1, pla_61.2.2.2.2, q157, q158⟩
theorem plQ_lay (h : cAll I R t t' n nb nm fL lL fG lG st) (k : plQ I t n Q) : mSt (bgnM (hunM Q n) 6 n) n fL (fL + lL) fG (fG + lG) (P0 I t lL lG (I 62) (I 63)) 0 ∧ plQ I t n (bgnM (hunM Q n) 6 n) ∧ Q 123 13 = nI n := by
  have hn6 := h.n6
  obtain ⟨k1, q61, q62, q63, q64, q65, q157, q158⟩ := k
  obtain ⟨s, k2, e⟩ := lay_q (wall := I t 12) (ll := 0) (we := I (t + 9)) (stf := I (t + 4)) (sp := I (t + 10)) (ac := acT (I (t + 14))) h k1 (q_lo q62) (q_we h q63) (q_w9 h) q157 (fun i hi j hj => by
    rw [q65, isB63 i (by omega), Bool.and_true, q158 i hi]
    rfl) q61.symm (q_st h q64)
  refine ⟨s, ⟨k2, ?_, ?_, ?_, ?_, ?_, ?_, ?_⟩, e⟩
  · rw [bgq_o (by omega)]; exact q61
  · rw [bgq_o (by omega)]; exact q62
  · rw [bgq_o (by omega)]; exact q63
  · rw [bgq_o (by omega)]; exact q64
  · rw [bgq_o (by omega)]; exact q65
  · rw [bgq_o (by omega)]; exact q157
  · rw [bgq_o (by omega)]; exact q158
theorem plQ_rs (k : plQ I t n Q) (g : rsM Q Q1) : plQ I t n Q1 := by
  obtain ⟨k1, q61, q62, q63, q64, q65, q157, q158⟩ := k
  have g7 := g.1 157 (by decide) (by decide) (by decide) (by decide) (by decide) (by decide)
  have g8 := g.1 158 (by decide) (by decide) (by decide) (by decide) (by decide) (by decide)
  refine ⟨k1.tr g.kp, ?_, ?_, ?_, ?_, ?_, ?_, ?_⟩
  · rw [g.2.1 61 (by decide) (by decide)]; exact q61
  · rw [g.2.1 62 (by decide) (by decide)]; exact q62
  · rw [g.2.1 63 (by decide) (by decide)]; exact q63
  · rw [g.2.1 64 (by decide) (by decide)]; exact q64
  · rw [g.2.1 65 (by decide) (by decide)]; exact q65
  · rw [g7]; exact q157
  · rw [g8]; exact q158
theorem plQ_153 {f : Nat → Int32} (k : plQ I t n Q) (h : ∀ j, j < 6 → f j = Q 153 j) : plQ I t n (va_up Q 153 f) := by
  obtain ⟨k1, q61, q62, q63, q64, q65, q157, q158⟩ := k
  refine ⟨k1.tr ⟨fun a ha => up_n (by unfold kpA at ha; omega), fun k hk => by rw [up_n (by decide)], fun a k h1 h2 h3 => ?_⟩, ?_, ?_, ?_, ?_, ?_, ?_, ?_⟩
  · by_cases z : a = 153
    · rw [z, up_s]; exact h k h3
    · rw [up_n z]
  · rw [up_n (by decide)]; exact q61
  · rw [up_n (by decide)]; exact q62
  · rw [up_n (by decide)]; exact q63
  · rw [up_n (by decide)]; exact q64
  · rw [up_n (by decide)]; exact q65
  · rw [up_n (by decide)]; exact q157
  · rw [up_n (by decide)]; exact q158
theorem mSt_7 {K : Mem} {lL' lG' : Nat} {b p : Nat → Int32} {wall ll : Int32} {we stf sp : Nat → Int32} {ac : Nat → Nat → Bool} {ph ph' f : Nat → Int32} (s : mSt Q n fL lL' fG lG' (PG K t lL lG b p wall ll we stf sp ac ph) 0) (h : ∀ c, c < n → f (6 + c) = ph' c) : mSt (va_up Q 153 f) n fL lL' fG lG' (PG K t lL lG b p wall ll we stf sp ac ph') 0 := by
  obtain ⟨⟨⟨q1, q2, q3, q4, q5⟩, h2, h3, h4, h5, h6, h7, h8, h9⟩, w, -⟩ := s
  have e1 : losM (va_up Q 153 f) fL lL' = losM Q fL lL' := by
    funext nm
    unfold losM
    simp (disch := omega) only [up_n]
  have e2 : goMd (va_up Q 153 f) fG lG' = goMd Q fG lG' := by
    funext nm sp
    unfold goMd
    simp (disch := omega) only [up_n]
  have e3 : wghM (va_up Q 153 f) = wghM Q := by
    funext c
    unfold wghM
    simp (disch := omega) only [up_n]
  have e4 : ∀ a b, reaM (va_up Q 153 f) a b = reaM Q a b := by
    intro a b
    unfold reaM stfM
    simp (disch := omega) only [up_n]
  refine ⟨⟨⟨?_, q2, ?_, ?_, by rw [e3]; exact q5⟩, by rw [e1]; exact h2, by rw [e2]; exact h3, ?_, ?_, by rw [e3]; exact h6, ?_, by rw [e3]; simp only [e4]; exact h8, ?_⟩, ⟨?_, ?_, ?_, ?_⟩, fun q => absurd q (by omega)⟩
  · rw [up_n (by decide)]; exact q1
  · unfold okM okM1 at q3 ⊢
    simp (disch := omega) only [up_n]
    exact q3
  · rw [up_n (by decide)]; exact q4
  · rw [up_n (by decide)]; exact h4
  · rw [up_n (by decide)]; exact h5
  · rw [up_n (by decide)]; exact h7
  · rw [up_n (by decide), up_n (by decide)]; exact h9
  · show eqR n (shR 6 (va_up Q 153 f 153)) ph'
    rw [up_s]; exact h
  · show eqR n (shR 6 (va_up Q 153 f 154)) _
    rw [up_n (by decide)]; exact w.2.1
  · show eqR n (shR 6 (va_up Q 153 f 155)) _
    rw [up_n (by decide)]; exact w.2.2.1
  · show eqR n (shR 6 (va_up Q 153 f 156)) _
    rw [up_n (by decide)]; exact w.2.2.2
theorem chn_m {d k : Nat} {sd w : Int32} {R1 : MemR} (h : cAll I R t t' n nb nm fL lL fG lG st) (hk : k ≤ 500) : ∀ (q i : Nat) (x : Int64) (mn : Int32) (Q : Mem) (J : MemL) (l8 : Option Value), i + q = 10 → plQ I t n Q → ∃ I1 J1, E (C (d + 6)) MX12_chance 43 [some (.ref 123), some (.int sd), some (.int (nI k)), some (.int w), some (.long x), none, some (.int mn), some (.int (nI i)), l8] [] (hp Q J R1) = some (some (.int (itf (chS I t lL lG n k w) q i (x, mn)).2), hp I1 J1 R1) ∧ plQ I t n I1 := by
  have hn6 := h.n6
  have m1 : (!(decide ((65536 : Int64) = 0))) = true := by decide
  have m2 : (!(decide ((1000 : Int64) = 0))) = true := by decide
  have a6 : ∀ c, (6 : Int32) + nI c = nI (6 + c) := fun c => nI_add 6 c
  intro q
  induction q with
  | zero =>
    intro i x mn Q J l8 hi kq
    obtain rfl : i = 10 := by omega
    refine ⟨Q, J, ?_, kq⟩
    have c0 : (10 : Int32) ≤ nI 10 := by decide
    rw [xX12_chance_43]
    simp (disch := omega) only [xX12_chance_45, xX12_chance_47, xX12_chance_50, xX12_chance_51, xX12_chance_54, xX12_chance_55, xX12_chance_57, xX12_chance_59, xX12_chance_60, xX12_chance_63, xX12_chance_66, xX12_chance_68, xX12_chance_71, xX12_chance_72, xX12_chance_75, xX12_chance_76, xX12_chance_79, xX12_chance_80, xX12_chance_82, xX12_chance_83, xX12_chance_86, xX12_chance_88, xX12_chance_90, xX12_chance_91, xX12_chance_93, xX12_chance_96, xX12_chance_97, xX12_chance_100, xX12_chance_101, xX12_chance_102, xX12_chance_103, xX12_chance_106, xX12_chance_109, xX12_chance_110, xX12_chance_111, xX12_chance_114, xX12_chance_116, xX12_chance_117, xX12_chance_118, xX12_chance_121, xX12_chance_124, xX12_chance_125, xX12_chance_128, xX12_chance_129, xX12_chance_130, xX12_chance_132, xX12_chance_135, xX12_chance_138, xX12_chance_140, kd_123, fi_123_57, kd_153, ln_153, ↓reduceIte, gd_t, hK_p, hN_p, hF_p, hI_p, hJ_p, hR_p, stI_p, stJ_p, stR_p, stA_p, va_rf_s, va_rf_n, clr_i, clr_l, clr_r, clr_n, clr_o, w8_0, w8_1i, w8_1r, w8_2ii, w8_2ri, w8_2ir, w8_2rr, w8_3, beq_self_eq_true, Bool.and_self, Bool.and_true, Bool.true_and, decide_true, Option.toList_some, Option.toList_none, List.cons_append, List.nil_append, Option.bind_some, if_true, if_false, Nat.reduceLeDiff, Nat.reduceLT, Nat.reduceBEq, Bool.or_false, Bool.false_or, Bool.or_true, Bool.true_or, nI_leI, nI_ltI, nI_eq, nI_clamp, inb_n, up_s, up_n, bx_uu, nI_1, ix6, nI_0n, pk_us, pk_un, ge_0n, c0, itf]
  | succ q ih =>
    intro i x mn Q J l8 hi kq
    have c0 : ¬ (10 : Int32) ≤ nI i := fun w => absurd ((nI_leI (a := 10) (by omega) (by omega)).mp w) (by omega)
    obtain ⟨s1, k1, e13⟩ := plQ_lay h kq
    have e1 := brn_spec (d := d + 4) (n := n) (I := Q) (J := J) (R := R1) e13 hn6
    generalize hQ : bgnM (hunM Q n) 6 n = Q1 at *
    have hnd : Q1 123 13 = nI n := s1.1.1.1
    have hl := for_0 (P := fun j (r : Nat → Int32) => E (C (d + 6)) MX12_chance 57 [some (.ref 123), some (.int sd), some (.int (nI k)), some (.int w), some (.long (chL x j)), none, some (.int mn), some (.int (nI i)), some (.int (nI j))] [] (hp (va_up Q1 153 (pt 6 (Q1 153) r)) J R1)) (fin := fun r => E (C (d + 6)) MX12_chance 109 [some (.ref 123), some (.int sd), some (.int (nI k)), some (.int w), some (.long (chL x n)), none, some (.int mn), some (.int (nI i)), some (.int (nI n))] [] (hp (va_up Q1 153 (pt 6 (Q1 153) r)) J R1)) (f := fun j r => upd r j (chF x j)) (n := n) (s := shR 6 (Q1 153)) (by
      intro j r hj
      have c1 : ¬ n ≤ j := by omega
      have u5 : va_up Q1 153 (pt 6 (Q1 153) r) 123 13 = nI n := by rw [up_n (by omega)]; exact hnd
      rw [xX12_chance_57]
      simp (disch := omega) only [xX12_chance_59, xX12_chance_60, xX12_chance_63, xX12_chance_66, xX12_chance_68, xX12_chance_71, xX12_chance_72, xX12_chance_75, xX12_chance_76, xX12_chance_79, xX12_chance_80, xX12_chance_82, xX12_chance_83, xX12_chance_86, xX12_chance_88, xX12_chance_90, xX12_chance_91, xX12_chance_93, xX12_chance_96, xX12_chance_97, xX12_chance_100, xX12_chance_101, xX12_chance_102, xX12_chance_103, xX12_chance_106, kd_123, fi_123_57, kd_153, ln_153, ↓reduceIte, gd_t, hK_p, hN_p, hF_p, hI_p, hJ_p, hR_p, stI_p, stJ_p, stR_p, stA_p, va_rf_s, va_rf_n, clr_i, clr_l, clr_r, clr_n, clr_o, w8_0, w8_1i, w8_1r, w8_2ii, w8_2ri, w8_2ir, w8_2rr, w8_3, beq_self_eq_true, Bool.and_self, Bool.and_true, Bool.true_and, decide_true, Option.toList_some, Option.toList_none, List.cons_append, List.nil_append, Option.bind_some, if_true, if_false, Nat.reduceLeDiff, Nat.reduceLT, Nat.reduceBEq, Bool.or_false, Bool.false_or, Bool.or_true, Bool.true_or, nI_leI, nI_ltI, nI_eq, nI_clamp, inb_n, up_s, up_n, bx_uu, nI_1, ix6, nI_0n, pk_us, pk_un, ge_0n, u5, c1, a6, m1, m2, chL, chF, chx, chv, pt_up]) (by
      intro r
      have c1 : n ≤ n := Nat.le_refl n
      have u5 : va_up Q1 153 (pt 6 (Q1 153) r) 123 13 = nI n := by rw [up_n (by omega)]; exact hnd
      rw [xX12_chance_57]
      simp (disch := omega) only [xX12_chance_59, xX12_chance_60, xX12_chance_63, xX12_chance_66, xX12_chance_68, xX12_chance_71, xX12_chance_72, xX12_chance_75, xX12_chance_76, xX12_chance_79, xX12_chance_80, xX12_chance_82, xX12_chance_83, xX12_chance_86, xX12_chance_88, xX12_chance_90, xX12_chance_91, xX12_chance_93, xX12_chance_96, xX12_chance_97, xX12_chance_100, xX12_chance_101, xX12_chance_102, xX12_chance_103, xX12_chance_106, kd_123, fi_123_57, kd_153, ln_153, ↓reduceIte, gd_t, hK_p, hN_p, hF_p, hI_p, hJ_p, hR_p, stI_p, stJ_p, stR_p, stA_p, va_rf_s, va_rf_n, clr_i, clr_l, clr_r, clr_n, clr_o, w8_0, w8_1i, w8_1r, w8_2ii, w8_2ri, w8_2ir, w8_2rr, w8_3, beq_self_eq_true, Bool.and_self, Bool.and_true, Bool.true_and, decide_true, Option.toList_some, Option.toList_none, List.cons_append, List.nil_append, Option.bind_some, if_true, if_false, Nat.reduceLeDiff, Nat.reduceLT, Nat.reduceBEq, Bool.or_false, Bool.false_or, Bool.or_true, Bool.true_or, nI_leI, nI_ltI, nI_eq, nI_clamp, inb_n, up_s, up_n, bx_uu, nI_1, ix6, nI_0n, pk_us, pk_un, ge_0n, u5, c1])
    rw [itf_cp, nI_0, pt_sh, up_self, show chL x 0 = x from rfl] at hl
    have s2 : mSt (va_up Q1 153 (pt 6 (Q1 153) (cpF (chF x) (shR 6 (Q1 153)) n))) n fL (fL + lL) fG (fG + lG) (chP I t lL lG x) 0 := mSt_7 s1 (fun c hc => by rw [pt_at (by omega), cpF_at hc])
    have k2 : plQ I t n (va_up Q1 153 (pt 6 (Q1 153) (cpF (chF x) (shR 6 (Q1 153)) n))) := plQ_153 k1 (fun j hj => pt_lo hj)
    obtain ⟨I2, J2, e2, s3, o2⟩ := mSt_runs (d := d) (J := J) (R := R1) (k := k) (by omega) s2
    have e3 := mSt_tog (d := d + 3) (J := J2) (R := R1) (w := w) chF_ph s3
    have k3 := plQ_rs k2 o2
    unfold itf
    have hS : chS I t lL lG n k w i (x, mn) = (chL x n, if tgR (chP I t lL lG x) n w k = 0 then mn else mn + 1) := rfl
    rw [hS]
    by_cases z : tgR (chP I t lL lG x) n w k = 0
    · rw [if_pos z]
      obtain ⟨I3, J3, e4, k4⟩ := ih (i + 1) (chL x n) mn I2 J2 (some (.int (nI n))) (by omega) k3
      refine ⟨I3, J3, ?_, k4⟩
      rw [xX12_chance_43]
      simp (disch := omega) only [xX12_chance_45, xX12_chance_47, xX12_chance_50, xX12_chance_51, xX12_chance_54, xX12_chance_55, kd_123, fi_123_57, kd_153, ln_153, kd_123, ↓reduceIte, gd_t, hK_p, hN_p, hF_p, hI_p, hJ_p, hR_p, stI_p, stJ_p, stR_p, stA_p, va_rf_s, va_rf_n, clr_i, clr_l, clr_r, clr_n, clr_o, w8_0, w8_1i, w8_1r, w8_2ii, w8_2ri, w8_2ir, w8_2rr, w8_3, beq_self_eq_true, Bool.and_self, Bool.and_true, Bool.true_and, decide_true, Option.toList_some, Option.toList_none, List.cons_append, List.nil_append, Option.bind_some, if_true, if_false, Nat.reduceLeDiff, Nat.reduceLT, Nat.reduceBEq, Bool.or_false, Bool.false_or, Bool.or_true, Bool.true_or, nI_leI, nI_ltI, nI_eq, nI_clamp, inb_n, up_s, up_n, bx_uu, nI_1, ix6, nI_0n, pk_us, pk_un, ge_0n, c0, e1]
      rw [hl]
      simp (disch := omega) only [xX12_chance_109, xX12_chance_110, xX12_chance_111, xX12_chance_114, xX12_chance_116, xX12_chance_117, xX12_chance_118, xX12_chance_121, xX12_chance_124, xX12_chance_125, xX12_chance_128, xX12_chance_129, xX12_chance_130, xX12_chance_132, xX12_chance_135, kd_123, fi_123_57, kd_153, ln_153, kd_123, ↓reduceIte, gd_t, hK_p, hN_p, hF_p, hI_p, hJ_p, hR_p, stI_p, stJ_p, stR_p, stA_p, va_rf_s, va_rf_n, clr_i, clr_l, clr_r, clr_n, clr_o, w8_0, w8_1i, w8_1r, w8_2ii, w8_2ri, w8_2ir, w8_2rr, w8_3, beq_self_eq_true, Bool.and_self, Bool.and_true, Bool.true_and, decide_true, Option.toList_some, Option.toList_none, List.cons_append, List.nil_append, Option.bind_some, if_true, if_false, Nat.reduceLeDiff, Nat.reduceLT, Nat.reduceBEq, Bool.or_false, Bool.false_or, Bool.or_true, Bool.true_or, nI_leI, nI_ltI, nI_eq, nI_clamp, inb_n, up_s, up_n, bx_uu, nI_1, ix6, nI_0n, pk_us, pk_un, ge_0n, e2, e3, z, Int32.add_zero, e4]
    · rw [if_neg z]
      obtain ⟨I3, J3, e4, k4⟩ := ih (i + 1) (chL x n) (mn + 1) I2 J2 (some (.int (nI n))) (by omega) k3
      refine ⟨I3, J3, ?_, k4⟩
      rw [xX12_chance_43]
      simp (disch := omega) only [xX12_chance_45, xX12_chance_47, xX12_chance_50, xX12_chance_51, xX12_chance_54, xX12_chance_55, kd_123, fi_123_57, kd_153, ln_153, kd_123, ↓reduceIte, gd_t, hK_p, hN_p, hF_p, hI_p, hJ_p, hR_p, stI_p, stJ_p, stR_p, stA_p, va_rf_s, va_rf_n, clr_i, clr_l, clr_r, clr_n, clr_o, w8_0, w8_1i, w8_1r, w8_2ii, w8_2ri, w8_2ir, w8_2rr, w8_3, beq_self_eq_true, Bool.and_self, Bool.and_true, Bool.true_and, decide_true, Option.toList_some, Option.toList_none, List.cons_append, List.nil_append, Option.bind_some, if_true, if_false, Nat.reduceLeDiff, Nat.reduceLT, Nat.reduceBEq, Bool.or_false, Bool.false_or, Bool.or_true, Bool.true_or, nI_leI, nI_ltI, nI_eq, nI_clamp, inb_n, up_s, up_n, bx_uu, nI_1, ix6, nI_0n, pk_us, pk_un, ge_0n, c0, e1]
      rw [hl]
      simp (disch := omega) only [xX12_chance_109, xX12_chance_110, xX12_chance_111, xX12_chance_114, xX12_chance_116, xX12_chance_117, xX12_chance_118, xX12_chance_121, xX12_chance_124, xX12_chance_125, xX12_chance_128, xX12_chance_129, xX12_chance_130, xX12_chance_132, xX12_chance_135, kd_123, fi_123_57, kd_153, ln_153, kd_123, ↓reduceIte, gd_t, hK_p, hN_p, hF_p, hI_p, hJ_p, hR_p, stI_p, stJ_p, stR_p, stA_p, va_rf_s, va_rf_n, clr_i, clr_l, clr_r, clr_n, clr_o, w8_0, w8_1i, w8_1r, w8_2ii, w8_2ri, w8_2ir, w8_2rr, w8_3, beq_self_eq_true, Bool.and_self, Bool.and_true, Bool.true_and, decide_true, Option.toList_some, Option.toList_none, List.cons_append, List.nil_append, Option.bind_some, if_true, if_false, Nat.reduceLeDiff, Nat.reduceLT, Nat.reduceBEq, Bool.or_false, Bool.false_or, Bool.or_true, Bool.true_or, nI_leI, nI_ltI, nI_eq, nI_clamp, inb_n, up_s, up_n, bx_uu, nI_1, ix6, nI_0n, pk_us, pk_un, ge_0n, e2, e3, z, e4]
theorem chance_p (h : cAll I R t t' n nb nm fL lL fG lG st) {sd y w : Int32} : askP MX11_chance MX12_chance [.int sd, .int y, .int w] I J R := by
  have n1 : ¬ (1 : Int32) = 0 := by decide
  by_cases s0 : sd < 0
  · refine askP.mk0 (v := -1) (w := -1) ?_ ?_ rfl
    · rw [eX11_chance]
      simp (disch := omega) only [xX11_chance_0, xX11_chance_1, xX11_chance_4, xX11_chance_5, xX11_chance_8, xX11_chance_9, xX11_chance_12, xX11_chance_15, xX11_chance_16, xX11_chance_19, xX11_chance_22, xX11_chance_23, xX11_chance_24, xX11_chance_25, xX11_chance_26, xX11_chance_28, xX11_chance_29, xX11_chance_31, xX11_chance_32, kd_0, fi_0_8, kd_88, kd_0, ↓reduceIte, gd_t, hK_p, hN_p, hF_p, hI_p, hJ_p, hR_p, stI_p, stJ_p, stR_p, stA_p, va_rf_s, va_rf_n, clr_i, clr_l, clr_r, clr_n, clr_o, w8_0, w8_1i, w8_1r, w8_2ii, w8_2ri, w8_2ir, w8_2rr, w8_3, beq_self_eq_true, Bool.and_self, Bool.and_true, Bool.true_and, decide_true, Option.toList_some, Option.toList_none, List.cons_append, List.nil_append, Option.bind_some, if_true, if_false, Nat.reduceLeDiff, Nat.reduceLT, Nat.reduceBEq, Bool.or_false, Bool.false_or, Bool.or_true, Bool.true_or, nI_leI, nI_ltI, nI_eq, nI_clamp, inb_n, up_s, up_n, bx_uu, nI_1, ix6, nI_0n, pk_us, pk_un, ge_0n, s0]
    · rw [eX12_chance]
      simp (disch := omega) only [xX12_chance_0, xX12_chance_1, xX12_chance_2, xX12_chance_5, xX12_chance_6, xX12_chance_9, xX12_chance_10, xX12_chance_11, xX12_chance_14, xX12_chance_17, xX12_chance_20, xX12_chance_21, xX12_chance_24, xX12_chance_27, xX12_chance_28, xX12_chance_29, xX12_chance_30, xX12_chance_31, xX12_chance_33, xX12_chance_34, xX12_chance_36, xX12_chance_37, xX12_chance_40, xX12_chance_41, kd_123, fi_123_57, kd_153, ln_153, kd_123, ↓reduceIte, gd_t, hK_p, hN_p, hF_p, hI_p, hJ_p, hR_p, stI_p, stJ_p, stR_p, stA_p, va_rf_s, va_rf_n, clr_i, clr_l, clr_r, clr_n, clr_o, w8_0, w8_1i, w8_1r, w8_2ii, w8_2ri, w8_2ir, w8_2rr, w8_3, beq_self_eq_true, Bool.and_self, Bool.and_true, Bool.true_and, decide_true, Option.toList_some, Option.toList_none, List.cons_append, List.nil_append, Option.bind_some, if_true, if_false, Nat.reduceLeDiff, Nat.reduceLT, Nat.reduceBEq, Bool.or_false, Bool.false_or, Bool.or_true, Bool.true_or, nI_leI, nI_ltI, nI_eq, nI_clamp, inb_n, up_s, up_n, bx_uu, nI_1, ix6, nI_0n, pk_us, pk_un, ge_0n, s0]
  by_cases hy : ¬ y < 0 ∧ ¬ 500 < y
  · have hb : bi (¬ y < 0 ∧ ¬ 500 < y) = 1 := if_pos hy
    have y5 : y ≤ 500 := Int32.not_lt.mp hy.2
    obtain ⟨k, hk, rfl⟩ := nI_of2 (M := 500) (n := 500) (by decide) hy.1 y5
    rcases apR_or (x := w) with ⟨w', hw, rfl, ew⟩ | ew
    · obtain ⟨I1, J1, R1, e1, k1, r1⟩ := chn_c (d := 5) (sd := sd) (w := nI w') h hk 10 0 sd.toInt64 0 I J R none (by omega) tk.rf rk.rf
      obtain ⟨I2, J2, e2, k2⟩ := chn_m (d := 4) (sd := sd) (w := nI w') (R1 := R1) h hk 10 0 sd.toInt64 0 (plaM (va_up I1 123 (upd (I1 123) 2 0))) J1 none (by omega) (plQ_pla h (k1.kp.tr (kp.thr (v := 0))))
      have ep := pla_spec (d := 9) (I := va_up I1 123 (upd (I1 123) 2 0)) (J := J1) (R := R1)
      rw [nI_0] at e1 e2
      refine ⟨(itf (chS I t lL lG n k (nI w')) 10 0 (sd.toInt64, 0)).2, I1, J1, R1, I2, J2, ?_, ?_, k2.1, r1 _ (by decide), r1 _ (by decide), r1 _ (by decide)⟩
      · rw [eX11_chance]
        simp (disch := omega) only [xX11_chance_0, xX11_chance_1, xX11_chance_4, xX11_chance_5, xX11_chance_8, xX11_chance_9, xX11_chance_12, xX11_chance_15, xX11_chance_16, xX11_chance_19, xX11_chance_22, xX11_chance_23, xX11_chance_24, xX11_chance_25, xX11_chance_26, xX11_chance_28, xX11_chance_29, xX11_chance_31, xX11_chance_32, kd_0, fi_0_8, kd_88, kd_0, ↓reduceIte, gd_t, hK_p, hN_p, hF_p, hI_p, hJ_p, hR_p, stI_p, stJ_p, stR_p, stA_p, va_rf_s, va_rf_n, clr_i, clr_l, clr_r, clr_n, clr_o, w8_0, w8_1i, w8_1r, w8_2ii, w8_2ri, w8_2ir, w8_2rr, w8_3, beq_self_eq_true, Bool.and_self, Bool.and_true, Bool.true_and, decide_true, Option.toList_some, Option.toList_none, List.cons_append, List.nil_append, Option.bind_some, if_true, if_false, Nat.reduceLeDiff, Nat.reduceLT, Nat.reduceBEq, Bool.or_false, Bool.false_or, Bool.or_true, Bool.true_or, s0, hy.1, hy.2, isA_c, ew, n1, not_false_eq_true]
        exact e1
      · rw [eX12_chance]
        simp (disch := omega) only [xX12_chance_0, xX12_chance_1, xX12_chance_2, xX12_chance_5, xX12_chance_6, xX12_chance_9, xX12_chance_10, xX12_chance_11, xX12_chance_14, xX12_chance_17, xX12_chance_20, xX12_chance_21, xX12_chance_24, xX12_chance_27, xX12_chance_28, xX12_chance_29, xX12_chance_30, xX12_chance_31, xX12_chance_33, xX12_chance_34, xX12_chance_36, xX12_chance_37, xX12_chance_40, xX12_chance_41, kd_123, fi_123_57, kd_153, ln_153, kd_123, ↓reduceIte, gd_t, hK_p, hN_p, hF_p, hI_p, hJ_p, hR_p, stI_p, stJ_p, stR_p, stA_p, va_rf_s, va_rf_n, clr_i, clr_l, clr_r, clr_n, clr_o, w8_0, w8_1i, w8_1r, w8_2ii, w8_2ri, w8_2ir, w8_2rr, w8_3, beq_self_eq_true, Bool.and_self, Bool.and_true, Bool.true_and, decide_true, Option.toList_some, Option.toList_none, List.cons_append, List.nil_append, Option.bind_some, if_true, if_false, Nat.reduceLeDiff, Nat.reduceLT, Nat.reduceBEq, Bool.or_false, Bool.false_or, Bool.or_true, Bool.true_or, s0, isI_spec, hb, isN_m, ew, n1, ep, not_false_eq_true]
        exact e2
    · refine askP.mk0 (v := -1) (w := -1) ?_ ?_ rfl
      · rw [eX11_chance]
        simp (disch := omega) only [xX11_chance_0, xX11_chance_1, xX11_chance_4, xX11_chance_5, xX11_chance_8, xX11_chance_9, xX11_chance_12, xX11_chance_15, xX11_chance_16, xX11_chance_19, xX11_chance_22, xX11_chance_23, xX11_chance_24, xX11_chance_25, xX11_chance_26, xX11_chance_28, xX11_chance_29, xX11_chance_31, xX11_chance_32, kd_0, fi_0_8, kd_88, kd_0, ↓reduceIte, gd_t, hK_p, hN_p, hF_p, hI_p, hJ_p, hR_p, stI_p, stJ_p, stR_p, stA_p, va_rf_s, va_rf_n, clr_i, clr_l, clr_r, clr_n, clr_o, w8_0, w8_1i, w8_1r, w8_2ii, w8_2ri, w8_2ir, w8_2rr, w8_3, beq_self_eq_true, Bool.and_self, Bool.and_true, Bool.true_and, decide_true, Option.toList_some, Option.toList_none, List.cons_append, List.nil_append, Option.bind_some, if_true, if_false, Nat.reduceLeDiff, Nat.reduceLT, Nat.reduceBEq, Bool.or_false, Bool.false_or, Bool.or_true, Bool.true_or, s0, hy.1, hy.2, isA_c, ew, not_true_eq_false]
      · rw [eX12_chance]
        simp (disch := omega) only [xX12_chance_0, xX12_chance_1, xX12_chance_2, xX12_chance_5, xX12_chance_6, xX12_chance_9, xX12_chance_10, xX12_chance_11, xX12_chance_14, xX12_chance_17, xX12_chance_20, xX12_chance_21, xX12_chance_24, xX12_chance_27, xX12_chance_28, xX12_chance_29, xX12_chance_30, xX12_chance_31, xX12_chance_33, xX12_chance_34, xX12_chance_36, xX12_chance_37, xX12_chance_40, xX12_chance_41, kd_123, fi_123_57, kd_153, ln_153, kd_123, ↓reduceIte, gd_t, hK_p, hN_p, hF_p, hI_p, hJ_p, hR_p, stI_p, stJ_p, stR_p, stA_p, va_rf_s, va_rf_n, clr_i, clr_l, clr_r, clr_n, clr_o, w8_0, w8_1i, w8_1r, w8_2ii, w8_2ri, w8_2ir, w8_2rr, w8_3, beq_self_eq_true, Bool.and_self, Bool.and_true, Bool.true_and, decide_true, Option.toList_some, Option.toList_none, List.cons_append, List.nil_append, Option.bind_some, if_true, if_false, Nat.reduceLeDiff, Nat.reduceLT, Nat.reduceBEq, Bool.or_false, Bool.false_or, Bool.or_true, Bool.true_or, s0, isI_spec, hb, n1, isN_m, ew, not_true_eq_false]
  · have hb : bi (¬ y < 0 ∧ ¬ 500 < y) = 0 := if_neg hy
    refine askP.mk0 (v := -1) (w := -1) ?_ ?_ rfl
    · rw [eX11_chance]
      by_cases y0 : y < 0
      · simp (disch := omega) only [xX11_chance_0, xX11_chance_1, xX11_chance_4, xX11_chance_5, xX11_chance_8, xX11_chance_9, xX11_chance_12, xX11_chance_15, xX11_chance_16, xX11_chance_19, xX11_chance_22, xX11_chance_23, xX11_chance_24, xX11_chance_25, xX11_chance_26, xX11_chance_28, xX11_chance_29, xX11_chance_31, xX11_chance_32, kd_0, fi_0_8, kd_88, kd_0, ↓reduceIte, gd_t, hK_p, hN_p, hF_p, hI_p, hJ_p, hR_p, stI_p, stJ_p, stR_p, stA_p, va_rf_s, va_rf_n, clr_i, clr_l, clr_r, clr_n, clr_o, w8_0, w8_1i, w8_1r, w8_2ii, w8_2ri, w8_2ir, w8_2rr, w8_3, beq_self_eq_true, Bool.and_self, Bool.and_true, Bool.true_and, decide_true, Option.toList_some, Option.toList_none, List.cons_append, List.nil_append, Option.bind_some, if_true, if_false, Nat.reduceLeDiff, Nat.reduceLT, Nat.reduceBEq, Bool.or_false, Bool.false_or, Bool.or_true, Bool.true_or, nI_leI, nI_ltI, nI_eq, nI_clamp, inb_n, up_s, up_n, bx_uu, nI_1, ix6, nI_0n, pk_us, pk_un, ge_0n, s0, y0]
      · have y1 : 500 < y := Decidable.not_not.mp (fun q => hy ⟨y0, q⟩)
        simp (disch := omega) only [xX11_chance_0, xX11_chance_1, xX11_chance_4, xX11_chance_5, xX11_chance_8, xX11_chance_9, xX11_chance_12, xX11_chance_15, xX11_chance_16, xX11_chance_19, xX11_chance_22, xX11_chance_23, xX11_chance_24, xX11_chance_25, xX11_chance_26, xX11_chance_28, xX11_chance_29, xX11_chance_31, xX11_chance_32, kd_0, fi_0_8, kd_88, kd_0, ↓reduceIte, gd_t, hK_p, hN_p, hF_p, hI_p, hJ_p, hR_p, stI_p, stJ_p, stR_p, stA_p, va_rf_s, va_rf_n, clr_i, clr_l, clr_r, clr_n, clr_o, w8_0, w8_1i, w8_1r, w8_2ii, w8_2ri, w8_2ir, w8_2rr, w8_3, beq_self_eq_true, Bool.and_self, Bool.and_true, Bool.true_and, decide_true, Option.toList_some, Option.toList_none, List.cons_append, List.nil_append, Option.bind_some, if_true, if_false, Nat.reduceLeDiff, Nat.reduceLT, Nat.reduceBEq, Bool.or_false, Bool.false_or, Bool.or_true, Bool.true_or, nI_leI, nI_ltI, nI_eq, nI_clamp, inb_n, up_s, up_n, bx_uu, nI_1, ix6, nI_0n, pk_us, pk_un, ge_0n, s0, y0, y1]
    · rw [eX12_chance]
      simp (disch := omega) only [xX12_chance_0, xX12_chance_1, xX12_chance_2, xX12_chance_5, xX12_chance_6, xX12_chance_9, xX12_chance_10, xX12_chance_11, xX12_chance_14, xX12_chance_17, xX12_chance_20, xX12_chance_21, xX12_chance_24, xX12_chance_27, xX12_chance_28, xX12_chance_29, xX12_chance_30, xX12_chance_31, xX12_chance_33, xX12_chance_34, xX12_chance_36, xX12_chance_37, xX12_chance_40, xX12_chance_41, kd_123, fi_123_57, kd_153, ln_153, kd_123, ↓reduceIte, gd_t, hK_p, hN_p, hF_p, hI_p, hJ_p, hR_p, stI_p, stJ_p, stR_p, stA_p, va_rf_s, va_rf_n, clr_i, clr_l, clr_r, clr_n, clr_o, w8_0, w8_1i, w8_1r, w8_2ii, w8_2ri, w8_2ir, w8_2rr, w8_3, beq_self_eq_true, Bool.and_self, Bool.and_true, Bool.true_and, decide_true, Option.toList_some, Option.toList_none, List.cons_append, List.nil_append, Option.bind_some, if_true, if_false, Nat.reduceLeDiff, Nat.reduceLT, Nat.reduceBEq, Bool.or_false, Bool.false_or, Bool.or_true, Bool.true_or, nI_leI, nI_ltI, nI_eq, nI_clamp, inb_n, up_s, up_n, bx_uu, nI_1, ix6, nI_0n, pk_us, pk_un, ge_0n, s0, isI_spec, hb]
end CHN

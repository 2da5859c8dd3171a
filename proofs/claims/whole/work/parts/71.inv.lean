-- COUPLING, 2: what holds between the calls (but for what LEAST and ORDER keep)
/-- an int between two numbers -/
def inN (x : Int32) (lo hi : Nat) : Prop := ∃ p, lo ≤ p ∧ p ≤ hi ∧ x = nI p
/-- the text: Telling t and the model's first halves -/
def cTxt (I : Mem) (t n nb nm : Nat) : Prop :=
  (I (t + 1) 1 = nI nb ∧ I 123 12 = nI nb ∧ nb ≤ 3) ∧ (I (t + 5) 1 = nI n ∧ I 123 13 = nI n ∧ n ≤ 6) ∧ (I (t + 15) 1 = nI nm ∧ I 123 14 = nI nm ∧ nm ≤ 4) ∧
  (∀ i, i < nb → I (t + 2) i = I 126 i ∧ I (t + 3) i = I 127 i ∧ I (t + 4) i = I 128 i ∧ inN (I 127 i) 0 99 ∧ inN (I 128 i) 0 99) ∧
  (∀ i, i < n → I (t + 6) i = I 129 i ∧ I (t + 7) i = I 130 i ∧ I (t + 8) i = I 131 i ∧ I (t + 9) i = I 132 i ∧ I (t + 10) i = I 133 i ∧ I (t + 11) i = I 134 i ∧ I (t + 12) i = I 135 i ∧ I (t + 13) i = I 136 i ∧ I (t + 14) i = I 137 i) ∧
  (∀ i, i < n → (∃ x, x < nb ∧ I 130 i = nI x) ∧ inN (I 131 i) 0 30 ∧ inN (I 132 i) 1 9 ∧ inN (I 133 i) 1 99 ∧ inN (I 134 i) 0 999 ∧ inN (I 135 i) 0 99 ∧ inN (I 136 i) 1 999 ∧ inN (I 137 i) 0 999) ∧
  (∀ i, n ≤ i → i < 6 → I (t + 7) i = -1) ∧ (I t 12 = I 123 16 ∧ inN (I 123 16) 0 99) ∧
  (∀ m, m < nm → I (t + 16) m = I 138 m ∧ ∀ c, c < n → I (t + 17) (m * 6 + c) = I 139 (m * 6 + c) ∧ (I 139 (m * 6 + c) = -1 ∨ ((∃ x, x < nb ∧ I 139 (m * 6 + c) = nI x) ∧ I (t + 18) (m * 6 + c) = I 140 (m * 6 + c) ∧ inN (I 140 (m * 6 + c)) 0 30)))
/-- where all hang: the class's rows b, p and the model's clocks from at1 on -/
def cHg (I : Mem) (b p at1 n nb : Nat) : Prop := (∀ i, i < n → I b i = I 151 (at1 + i) ∧ (∃ x, x < nb ∧ I b i = nI x) ∧ I p i = I 152 (at1 + i) ∧ inN (I p i) 0 30) ∧ ∀ i, n ≤ i → i < 6 → I b i = -1
/-- the motion now, and the model's first halves -/
def cNow (I : Mem) (R : MemR) (t n nb st : Nat) : Prop :=
  R 60 0 = some t ∧ I 60 1 = nI n ∧ I 60 2 = nI st ∧ I 123 70 = nI st ∧ st ≤ 4000 ∧ I 60 3 = I t 12 ∧ I 60 4 = 0 ∧ (∀ i, i < nb → I 61 i = I (t + 4) i) ∧ cHg I 62 63 0 n nb ∧
  (∀ i, i < n → I 64 i = I (t + 9) i ∧ I 65 i = I (t + 10) i ∧ I 66 i = I (t + 14) i) ∧
  (∀ i, i < n → I 67 i = I 153 i ∧ (∃ p, p < 1000 ∧ I 67 i = nI p) ∧ I 68 i = I 154 i ∧ I 69 i = I 155 i ∧ I 70 i = I 156 i) ∧
  (∀ c q, c < n → q < n → I 71 (c * 6 + q) = bonF (I 64) (I (t + 3)) (I 61) (I 63) (I 62) (I 60 3) c q)
/-- the image -/
def cImg (I : Mem) (R : MemR) (t n nb st : Nat) : Prop :=
  I 0 7 = I 123 84 ∧ (I 0 7 = 0 ∨ (I 0 7 = 1 ∧ R 74 0 = some t ∧ ∃ si, I 74 2 = nI si ∧ I 123 85 = nI si ∧ si ≤ st ∧
    (∀ c, c < n → I 76 c = I 170 (6 * c) ∧ (∃ x, x < nb ∧ I 76 c = nI x) ∧ I 77 c = I 170 (6 * c + 1) ∧ inN (I 77 c) 0 30 ∧ I 81 c = I 170 (6 * c + 2) ∧ (∃ p, p < 1000 ∧ I 81 c = nI p) ∧ I 82 c = I 170 (6 * c + 3) ∧ I 83 c = I 170 (6 * c + 4) ∧ I 84 c = I 170 (6 * c + 5)) ∧ ∀ c, n ≤ c → c < 6 → I 76 c = -1))
/-- what the steps left behind -/
def cSto (I : Mem) (n st : Nat) : Prop := ∀ τ, τ < st → (∀ c, c < n → I 103 (τ * 6 + c) = I 160 (6 * τ + c) ∧ ∃ p, p < 1000 ∧ I 160 (6 * τ + c) = nI p) ∧ I 104 τ = I 161 τ ∧ inN (I 161 τ) 0 63
/-- what was done by hand -/
def cHnd (I : Mem) (n nb : Nat) : Prop := ∃ hs, I 105 1 = nI hs ∧ I 123 73 = nI hs ∧ hs ≤ 20 ∧ ∀ e, e < hs → (∃ c, c < n ∧ I 106 (5 * e) = nI c) ∧ (∃ x, x < nb ∧ I 106 (5 * e + 1) = nI x) ∧ inN (I 106 (5 * e + 2)) 0 30 ∧ ∀ j, j < 5 → I 106 (5 * e + j) = I 162 (5 * e + j)
/-- what was heard -/
def cHea (I : Mem) (n : Nat) : Prop := ∃ hz, I 107 4 = nI hz ∧ I 123 79 = nI hz ∧ hz ≤ 40 ∧ I 107 5 = I 123 80 ∧ (I 107 5 = -1 ∨ inN (I 107 5) 0 hz) ∧
  ∀ k, k < hz → (I 108 k = 2 ∧ I 167 (3 * k) = -1 ∧ I 167 (3 * k + 1) = I 109 k ∧ ∃ x, x < k ∧ I 109 k = nI x) ∨
    ((I 108 k = 0 ∨ I 108 k = 1) ∧ I 167 (3 * k) = I 109 k ∧ inN (I 109 k) 0 1999 ∧ I 167 (3 * k + 2) = I 108 k ∧ ((I 167 (3 * k + 1) = -1 ∧ I 110 k = 63) ∨ ∃ c, c < n ∧ I 167 (3 * k + 1) = nI c ∧ I 110 k = 1 <<< (nI c &&& 31)))
/-- the tape -/
def cTap (I : Mem) : Prop := ∃ tp, I 0 1 = nI tp ∧ I 123 1 = nI tp ∧ tp ≤ 700 ∧ ∀ k, k < tp → I 1 k = (I 124 k).toInt8.toInt32 ∧ inN (I 124 k) 0 255
/-- the text's fault; the words of the language -/
def wrdL : List Nat := [98, 101, 97, 109, 32, 99, 108, 111, 99, 107, 32, 119, 97, 108, 108, 32, 108, 97, 119, 32, 109, 97, 121, 32, 112, 104, 97, 115, 101, 32, 100, 114, 105, 118, 101, 32, 115, 116, 97, 114, 116, 32, 104, 97, 110, 103, 32, 108, 111, 115, 101, 32, 103, 111, 32, 97, 110, 100, 32, 111, 114, 32, 110, 111, 116, 32, 115, 112, 101, 101, 100, 32, 115, 119, 105, 110, 103, 32, 112, 117, 108, 108, 32, 119, 101, 105, 103, 104, 116, 32, 112, 108, 97, 99, 101, 32, 115, 116, 101, 112, 32, 99, 111, 117, 110, 116, 32]
def lngL : List Nat := [486146048, 48365568, 522190848, 654480512, 661960928, 559296512, 777297172, 549489824, 658685952, 117095040, 72397824, 113741152, 545311904, 153409696, 658557568, 773206016, 404455424, 419009536, 250609664, 438075392, 269949952]
def cFau (I : Mem) : Prop := I 56 2 = I 123 4 ∧ I 56 3 = I 123 5 ∧ (∀ k, k < 107 → I 125 k = nI (wrdL.getD k 0)) ∧ ∀ k, k < 21 → I 58 k = nI (lngL.getD k 0)
/-- all of it -/
def cAll (I : Mem) (R : MemR) (t t' n nb nm fL lL fG lG st : Nat) : Prop :=
  isTe t ∧ isTe t' ∧ t ≠ t' ∧ R 0 3 = some t ∧ R 0 4 = some t' ∧ cTxt I t n nb nm ∧ cLws I t fL lL fG lG ∧ I 123 15 = nI (lL + lG) ∧ cNow I R t n nb st ∧ cImg I R t n nb st ∧ cSto I n st ∧ cHnd I n nb ∧ cHea I n ∧ cTap I ∧ cFau I
-- THE FIRST PAIRS: fault
theorem fau_c {d : Nat} {I : Mem} {J : MemL} {R : MemR} {x : Int32} : C (d + 1) MX11_fault [.ref 0, .int x] (hp I J R) = some (some (.int (if x = 0 then I 56 2 else if x = 1 then I 56 3 else -1)), hp I J R) := by
  rw [eX11_fault]
  by_cases z : x = 0
  · simp only [xX11_fault_0, xX11_fault_1, xX11_fault_4, xX11_fault_5, xX11_fault_8, xX11_fault_11, xX11_fault_12, xX11_fault_13, xX11_fault_14, xX11_fault_17, xX11_fault_18, xX11_fault_21, xX11_fault_24, xX11_fault_27, xX11_fault_28, kd_0, fi_0_2, kd_56, ↓reduceIte, gd_t, hK_p, hN_p, hF_p, hI_p, hJ_p, hR_p, stI_p, stJ_p, stR_p, stA_p, va_rf_s, va_rf_n, clr_i, clr_l, clr_r, clr_n, clr_o, w8_0, w8_1i, w8_1r, w8_2ii, w8_2ri, w8_2ir, w8_2rr, w8_3, beq_self_eq_true, Bool.and_self, Bool.and_true, Bool.true_and, decide_true, Option.toList_some, Option.toList_none, List.cons_append, List.nil_append, Option.bind_some, if_true, if_false, Nat.reduceLeDiff, Nat.reduceLT, Nat.reduceBEq, Bool.or_false, Bool.false_or, Bool.or_true, Bool.true_or, z, not_true_eq_false]
  · by_cases y : x = 1
    · have n1 : ¬ (1 : Int32) = 0 := by decide
      simp only [xX11_fault_0, xX11_fault_1, xX11_fault_4, xX11_fault_5, xX11_fault_8, xX11_fault_11, xX11_fault_12, xX11_fault_13, xX11_fault_14, xX11_fault_17, xX11_fault_18, xX11_fault_21, xX11_fault_24, xX11_fault_27, xX11_fault_28, kd_0, fi_0_2, kd_56, ↓reduceIte, gd_t, hK_p, hN_p, hF_p, hI_p, hJ_p, hR_p, stI_p, stJ_p, stR_p, stA_p, va_rf_s, va_rf_n, clr_i, clr_l, clr_r, clr_n, clr_o, w8_0, w8_1i, w8_1r, w8_2ii, w8_2ri, w8_2ir, w8_2rr, w8_3, beq_self_eq_true, Bool.and_self, Bool.and_true, Bool.true_and, decide_true, Option.toList_some, Option.toList_none, List.cons_append, List.nil_append, Option.bind_some, if_true, if_false, Nat.reduceLeDiff, Nat.reduceLT, Nat.reduceBEq, Bool.or_false, Bool.false_or, Bool.or_true, Bool.true_or, y, n1, not_true_eq_false, not_false_eq_true]
    · simp only [xX11_fault_0, xX11_fault_1, xX11_fault_4, xX11_fault_5, xX11_fault_8, xX11_fault_11, xX11_fault_12, xX11_fault_13, xX11_fault_14, xX11_fault_17, xX11_fault_18, xX11_fault_21, xX11_fault_24, xX11_fault_27, xX11_fault_28, kd_0, fi_0_2, kd_56, ↓reduceIte, gd_t, hK_p, hN_p, hF_p, hI_p, hJ_p, hR_p, stI_p, stJ_p, stR_p, stA_p, va_rf_s, va_rf_n, clr_i, clr_l, clr_r, clr_n, clr_o, w8_0, w8_1i, w8_1r, w8_2ii, w8_2ri, w8_2ir, w8_2rr, w8_3, beq_self_eq_true, Bool.and_self, Bool.and_true, Bool.true_and, decide_true, Option.toList_some, Option.toList_none, List.cons_append, List.nil_append, Option.bind_some, if_true, if_false, Nat.reduceLeDiff, Nat.reduceLT, Nat.reduceBEq, Bool.or_false, Bool.false_or, Bool.or_true, Bool.true_or, z, y, not_false_eq_true]
theorem fau_m {d : Nat} {I : Mem} {J : MemL} {R : MemR} {x : Int32} : C (d + 1) MX12_fault [.ref 123, .int x] (hp I J R) = some (some (.int (if x = 0 then I 123 4 else if x = 1 then I 123 5 else -1)), hp (va_up I 123 (upd (I 123) 2 0)) J R) := by
  rw [eX12_fault]
  by_cases z : x = 0
  · simp (disch := omega) only [xX12_fault_0, xX12_fault_1, xX12_fault_2, xX12_fault_5, xX12_fault_6, xX12_fault_9, xX12_fault_10, xX12_fault_13, xX12_fault_16, xX12_fault_17, xX12_fault_18, xX12_fault_21, xX12_fault_22, xX12_fault_25, xX12_fault_28, xX12_fault_29, kd_123, ↓reduceIte, gd_t, hK_p, hN_p, hF_p, hI_p, hJ_p, hR_p, stI_p, stJ_p, stR_p, stA_p, va_rf_s, va_rf_n, clr_i, clr_l, clr_r, clr_n, clr_o, w8_0, w8_1i, w8_1r, w8_2ii, w8_2ri, w8_2ir, w8_2rr, w8_3, beq_self_eq_true, Bool.and_self, Bool.and_true, Bool.true_and, decide_true, Option.toList_some, Option.toList_none, List.cons_append, List.nil_append, Option.bind_some, if_true, if_false, Nat.reduceLeDiff, Nat.reduceLT, Nat.reduceBEq, Bool.or_false, Bool.false_or, Bool.or_true, Bool.true_or, nI_leI, nI_ltI, nI_eq, nI_clamp, inb_n, up_s, up_n, bx_uu, nI_1, ix6, nI_0n, pk_us, pk_un, ge_0n, z, not_true_eq_false]
  · by_cases y : x = 1
    · have n1 : ¬ (1 : Int32) = 0 := by decide
      simp (disch := omega) only [xX12_fault_0, xX12_fault_1, xX12_fault_2, xX12_fault_5, xX12_fault_6, xX12_fault_9, xX12_fault_10, xX12_fault_13, xX12_fault_16, xX12_fault_17, xX12_fault_18, xX12_fault_21, xX12_fault_22, xX12_fault_25, xX12_fault_28, xX12_fault_29, kd_123, ↓reduceIte, gd_t, hK_p, hN_p, hF_p, hI_p, hJ_p, hR_p, stI_p, stJ_p, stR_p, stA_p, va_rf_s, va_rf_n, clr_i, clr_l, clr_r, clr_n, clr_o, w8_0, w8_1i, w8_1r, w8_2ii, w8_2ri, w8_2ir, w8_2rr, w8_3, beq_self_eq_true, Bool.and_self, Bool.and_true, Bool.true_and, decide_true, Option.toList_some, Option.toList_none, List.cons_append, List.nil_append, Option.bind_some, if_true, if_false, Nat.reduceLeDiff, Nat.reduceLT, Nat.reduceBEq, Bool.or_false, Bool.false_or, Bool.or_true, Bool.true_or, nI_leI, nI_ltI, nI_eq, nI_clamp, inb_n, up_s, up_n, bx_uu, nI_1, ix6, nI_0n, pk_us, pk_un, ge_0n, y, n1, not_true_eq_false, not_false_eq_true]
    · simp (disch := omega) only [xX12_fault_0, xX12_fault_1, xX12_fault_2, xX12_fault_5, xX12_fault_6, xX12_fault_9, xX12_fault_10, xX12_fault_13, xX12_fault_16, xX12_fault_17, xX12_fault_18, xX12_fault_21, xX12_fault_22, xX12_fault_25, xX12_fault_28, xX12_fault_29, kd_123, ↓reduceIte, gd_t, hK_p, hN_p, hF_p, hI_p, hJ_p, hR_p, stI_p, stJ_p, stR_p, stA_p, va_rf_s, va_rf_n, clr_i, clr_l, clr_r, clr_n, clr_o, w8_0, w8_1i, w8_1r, w8_2ii, w8_2ri, w8_2ir, w8_2rr, w8_3, beq_self_eq_true, Bool.and_self, Bool.and_true, Bool.true_and, decide_true, Option.toList_some, Option.toList_none, List.cons_append, List.nil_append, Option.bind_some, if_true, if_false, Nat.reduceLeDiff, Nat.reduceLT, Nat.reduceBEq, Bool.or_false, Bool.false_or, Bool.or_true, Bool.true_or, nI_leI, nI_ltI, nI_eq, nI_clamp, inb_n, up_s, up_n, bx_uu, nI_1, ix6, nI_0n, pk_us, pk_un, ge_0n, z, y, not_false_eq_true]
/-- thrown is nobody's: it is written by each call of the model -/
theorem cAll_thr {I : Mem} {R : MemR} {t t' n nb nm fL lL fG lG st : Nat} {v : Int32} (h : cAll I R t t' n nb nm fL lL fG lG st) : cAll (va_up I 123 (upd (I 123) 2 v)) R t t' n nb nm fL lL fG lG st := by
  have ht2 := te_hi h.1
  unfold cAll cTxt cLws cNow cHg cImg cSto cHnd cHea cTap cFau at h ⊢
  simp (disch := omega) only [up_n, up_s, pk_un]
  exact h

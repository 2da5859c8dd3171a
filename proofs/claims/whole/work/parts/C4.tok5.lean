-- TEXT, 5: a word is the same for both; signs
def gW (k : Nat) : Nat → Nat := fun j => if j < wlL.getD k 0 then wrdL.getD (wsL.getD k 0 + j) 0 - 96 else 0
theorem lng_k : ∀ k, k < 21 → kcL.getD k 0 < 21 ∧ lngL.getD (kcL.getD k 0) 0 = hoN (gW k) 6 := by decide +kernel
theorem kc_on : ∀ i, i < 21 → ∃ k, k < 21 ∧ kcL.getD k 0 = i := by decide +kernel
theorem lng_in : ∀ i, i < 21 → ∀ j, j < 21 → lngL.getD i 0 = lngL.getD j 0 → i = j := by decide +kernel
theorem hoN_in {f g : Nat → Nat} (hf : ∀ j, f j < 32) (hg : ∀ j, g j < 32) (h : hoN f 6 = hoN g 6) : ∀ j, j < 6 → f j = g j := by
  simp only [hoN] at h
  have := hf 0; have := hf 1; have := hf 2; have := hf 3; have := hf 4; have := hf 5
  have := hg 0; have := hg 1; have := hg 2; have := hg 3; have := hg 4; have := hg 5
  intro j hj
  rcases (show j = 0 ∨ j = 1 ∨ j = 2 ∨ j = 3 ∨ j = 4 ∨ j = 5 by omega) with rfl | rfl | rfl | rfl | rfl | rfl <;> omega
section TOP
variable {X Y : Mem} {J : MemL} {R : MemR} {L : Nat} {u : Nat → Nat}
theorem wF_lt {p e : Nat} (hl : ∀ j, p ≤ j → j < e → isL u j = true) : ∀ j, wF u p e j < 32 := fun j => by
  unfold wF
  split
  · have := of_decide_eq_true (hl (p + j) (by omega) (by omega))
    omega
  · omega
theorem gW_lt {k : Nat} (hk : k < 21) : ∀ j, gW k j < 32 := fun j => by
  unfold gW
  split
  · next h => have := ws_let k hk j h; omega
  · omega
theorem mt_pk {p e k : Nat} (hk : k < 21) (hm : mtW u p e k) : pkW u p e = lngL.getD (kcL.getD k 0) 0 := by
  rw [(lng_k k hk).2]
  unfold pkW
  have : wF u p e = gW k := by
    funext j
    unfold wF gW
    rw [← hm.1]
    split
    · next h => rw [hm.2 j h]
    · rfl
  rw [this]
theorem pk_mt {p e k : Nat} (hk : k < 21) (hl : ∀ j, p ≤ j → j < e → isL u j = true) (h6 : e - p ≤ 6) (h : pkW u p e = lngL.getD (kcL.getD k 0) 0) : mtW u p e k := by
  rw [(lng_k k hk).2] at h
  have hd := hoN_in (wF_lt hl) (gW_lt hk) h
  have hw6 := (ws_next k hk).2.1
  have hlen : wlL.getD k 0 = e - p := by
    rcases Nat.lt_trichotomy (wlL.getD k 0) (e - p) with w | w | w
    · exfalso
      have := hd (wlL.getD k 0) (by omega)
      unfold wF gW at this
      rw [if_pos w, if_neg (by omega)] at this
      have := of_decide_eq_true (hl (p + wlL.getD k 0) (by omega) (by omega))
      omega
    · exact w
    · exfalso
      have := hd (e - p) (by omega)
      unfold wF gW at this
      rw [if_neg (by omega), if_pos w] at this
      have := ws_let k hk (e - p) w
      omega
  refine ⟨hlen, fun j hj => ?_⟩
  have := hd j (by omega)
  unfold wF gW at this
  rw [if_pos (by omega), if_pos hj] at this
  have a1 := of_decide_eq_true (hl (p + j) (by omega) (by omega))
  have a2 := ws_let k hk j hj
  omega
theorem lgO_mt {p e k : Nat} (hk : k < 21) (hm : mtW u p e k) : lgO (pkW u p e) = some (kcL.getD k 0) := by
  have h1 := mt_pk hk hm
  unfold lgO
  refine (srF_c (n := 21) (p := fun i => decide (lngL.getD i 0 = pkW u p e)) (lng_k k hk).1 (by simp [h1])).mpr (fun j hj => ?_)
  have hlt := (lng_k k hk).1
  refine decide_eq_false (fun q => ?_)
  rw [h1] at q
  have := lng_in j (by omega) _ hlt q
  omega
theorem lgO_no {p e : Nat} (hl : ∀ j, p ≤ j → j < e → isL u j = true) (h6 : e - p ≤ 6) (hn : ∀ k, k < 21 → ¬ mtW u p e k) : lgO (pkW u p e) = none := by
  cases h : lgO (pkW u p e) with
  | none => rfl
  | some i =>
    exfalso
    unfold lgO at h
    have h1 := srF_lt h
    have h2 := srF_is (c := fun i => decide (lngL.getD i 0 = pkW u p e)) _ _ _ h
    have h2 := of_decide_eq_true h2
    obtain ⟨k, k1, k2⟩ := kc_on i (by omega)
    exact hn k k1 (pk_mt k1 hl h6 (by rw [k2]; exact h2.symm))
theorem pkW_lt {p e : Nat} (hl : ∀ j, p ≤ j → j < e → isL u j = true) : pkW u p e < 2 ^ 30 := by
  have := hoN_lt (wF_lt hl) 6
  unfold pkW
  rw [show (2 : Nat) ^ 30 = 32 ^ 6 from by decide]
  exact this
/-- readWord -/
theorem rwd_c {d p : Nat} (h : tpR X Y L u) (hL : X 57 2 = nI L) (hpL : p ≤ L) (hat : X 57 3 = nI p) (hpl : X 57 5 = nI p) (hlg : ∀ k, k < 21 → X 58 k = nI (lngL.getD k 0)) : ∃ l : Int32, C (d + 1) MX10_readWord [.ref 57] (hp X J R) = some (none, hp (va_up X 57 (upd (upd (upd (X 57) 7 l) 3 (nI (skp (fun i => !(isL u i)) L p))) 4 (if skp (fun i => !(isL u i)) L p - p ≤ 6 then lgK (lgO (pkW u p (skp (fun i => !(isL u i)) L p))) else 1))) J R) ∧ (skp (fun i => !(isL u i)) L p - p ≤ 6 → l = nI (pkW u p (skp (fun i => !(isL u i)) L p))) := by
  obtain ⟨s, e1, hs⟩ := rwd_l (d := d) (J := J) (R := R) h hL hpL hat
  have hle := skp_le (c := fun i => !(isL u i)) hpL
  have hno : ∀ j, p ≤ j → j < skp (fun i => !(isL u i)) L p → isL u j = true := fun j h1 h2 => by
    have := skp_no (c := fun i => !(isL u i)) hpL h1 h2
    simpa using this
  have h700 := h.1
  generalize skp (fun i => !(isL u i)) L p = e at *
  refine ⟨s.1, ?_, hs⟩
  have es : nI e - nI p = nI (e - p) := pk_sub hle.1
  rw [eX10_readWord, e1]
  by_cases z : e - p ≤ 6
  · have z' : nI (e - p) ≤ 6 := (nI_leI (b := 6) (by omega) (by omega)).mpr z
    rw [if_pos z]
    have hv := pkW_lt hno
    have hk := rwd_k (d := d) (J := J) (R := R) (s := s.2) (v := pkW u p e) (X := va_up X 57 (upd (upd (upd (X 57) 7 s.1) 3 (nI e)) 4 3)) hv (by rw [up_s, pk_un (by decide), pk_un (by decide), pk_us]; exact hs z) (by rw [up_s, pk_us]) (by rw [up_n (by decide)]; exact hlg)
    rw [up_s, bx_uu, uu] at hk
    rw [← hk]
    simp (disch := omega) only [xX10_readWord_92, xX10_readWord_93, xX10_readWord_94, xX10_readWord_97, xX10_readWord_98, xX10_readWord_101, xX10_readWord_102, xX10_readWord_104, xX10_readWord_107, xX10_readWord_108, xX10_readWord_111, xX10_readWord_112, xX10_readWord_115, xX10_readWord_116, kd_57, fi_57_0, kd_1, ln_1, fi_57_1, kd_58, ln_58, ↓reduceIte, gd_t, hK_p, hN_p, hF_p, hI_p, hJ_p, hR_p, stI_p, stJ_p, stR_p, stA_p, va_rf_s, va_rf_n, clr_i, clr_l, clr_r, clr_n, clr_o, w8_0, w8_1i, w8_1r, w8_2ii, w8_2ri, w8_2ir, w8_2rr, w8_3, beq_self_eq_true, Bool.and_self, Bool.and_true, Bool.true_and, decide_true, Option.toList_some, Option.toList_none, List.cons_append, List.nil_append, Option.bind_some, if_true, if_false, Nat.reduceLeDiff, Nat.reduceLT, Nat.reduceBEq, Bool.or_false, Bool.false_or, Bool.or_true, Bool.true_or, nI_leI, nI_ltI, nI_eq, nI_clamp, inb_n, up_s, up_n, bx_uu, nI_1, ix6, nI_0n, pk_us, pk_un, ge_0n, up_s, bx_uu, hpl, es, z']
  · have z' : ¬ nI (e - p) ≤ 6 := fun q => z ((nI_leI (b := 6) (by omega) (by omega)).mp q)
    have n13 : ¬ (1 : Int32) = 3 := by decide
    have c0 : ¬ (21 : Int32) ≤ 0 := by decide
    rw [if_neg z]
    simp (disch := omega) only [xX10_readWord_92, xX10_readWord_93, xX10_readWord_94, xX10_readWord_97, xX10_readWord_98, xX10_readWord_101, xX10_readWord_102, xX10_readWord_104, xX10_readWord_107, xX10_readWord_108, xX10_readWord_111, xX10_readWord_112, xX10_readWord_115, xX10_readWord_116, xX10_readWord_117, xX10_readWord_118, xX10_readWord_120, xX10_readWord_123, xX10_readWord_124, xX10_readWord_127, xX10_readWord_128, xX10_readWord_131, xX10_readWord_132, xX10_readWord_135, xX10_readWord_136, xX10_readWord_137, xX10_readWord_138, xX10_readWord_141, xX10_readWord_144, xX10_readWord_145, xX10_readWord_147, xX10_readWord_148, xX10_readWord_149, xX10_readWord_152, xX10_readWord_155, xX10_readWord_158, kd_57, fi_57_0, kd_1, ln_1, fi_57_1, kd_58, ln_58, ↓reduceIte, gd_t, hK_p, hN_p, hF_p, hI_p, hJ_p, hR_p, stI_p, stJ_p, stR_p, stA_p, va_rf_s, va_rf_n, clr_i, clr_l, clr_r, clr_n, clr_o, w8_0, w8_1i, w8_1r, w8_2ii, w8_2ri, w8_2ir, w8_2rr, w8_3, beq_self_eq_true, Bool.and_self, Bool.and_true, Bool.true_and, decide_true, Option.toList_some, Option.toList_none, List.cons_append, List.nil_append, Option.bind_some, if_true, if_false, Nat.reduceLeDiff, Nat.reduceLT, Nat.reduceBEq, Bool.or_false, Bool.false_or, Bool.or_true, Bool.true_or, nI_leI, nI_ltI, nI_eq, nI_clamp, inb_n, up_s, up_n, bx_uu, nI_1, ix6, nI_0n, pk_us, pk_un, ge_0n, up_s, bx_uu, hpl, es, z', c0, n13, not_false_eq_true]
theorem bq_hi : ∀ q, q < 256 → 128 ≤ q → bq q < 0 := by decide +kernel
theorem bq_c (q : Nat) (hq : q < 256) (c : Nat) (hc : c < 128) : bq q = nI c ↔ q = c := by
  rcases Nat.lt_or_ge q 128 with w | w
  · rw [bq_lo q w, nI_eq (by omega) (by omega)]
  · have := bq_hi q hq w
    constructor
    · intro e
      rw [e] at this
      exact absurd this (nI_pos (by omega))
    · intro e; omega
end TOP

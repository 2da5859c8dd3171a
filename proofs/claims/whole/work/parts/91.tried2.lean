-- RUNS, 7: tried, by what is tried
def acX (st : Nat → Int32) (i : Nat) : Nat → Nat → Bool := fun j k => decide (st k = nI j) && decide (¬ k = i)
theorem thr_ok : ∀ n, n ≤ 6 → ∀ i, i < n → ∀ k, k < 6 → decide (isB (thrB (nI n) (nI i)) (nI k)) = decide (¬ k = i) := by decide
theorem st99 : ∀ p, p ≤ 99 → btwF 0 (2 * nI p) 99 = if 2 * nI p ≤ 99 then 2 * nI p else 99 := by decide
section TRF
variable {I Q Q1 Q2 : Mem} {J : MemL} {R R' R1 : MemR} {t t' n nb nm fL lL fG lG st : Nat}
theorem trd_0 {i c k : Nat} (h : cAll I R t t' n nb nm fL lL fG lG st) (hc : c < n) (hk : k ≤ 2000) (hr : ruR (nI k) = 1) (hcan : canF (nI nb) (nI n) 0 (nI i) = 1) (hi : i < n) : askP MX11_tried MX12_tried [.int 0, .int (nI i), .int (nI k), .int (nI c)] I J R := by
  have hn6 := h.n6
  refine trd_f (P := PG I t lL lG (I 62) (I 63) (I t 12) 0 (I (t + 9)) (I (t + 4)) (I (t + 10)) (acX (I (t + 14)) i) (I (t + 11))) h hc hk hr hcan (fun _ => by omega) (fun q => absurd q (by decide)) ?_ ?_
  · intro Q1 R1 s1 k1 q90 q92 q89 q3 q4
    have e : triC Q1 0 i = va_up Q1 94 (upd (Q1 94) i (-1)) := if_pos rfl
    rw [e]
    refine cMes h s1 k1 q90 (fun a _ _ _ h4 => up_n h4) (by rw [up_n (by decide)]) (by rw [up_n (by decide)]) (by rw [up_n (by decide)]; exact q3) (by rw [up_n (by decide)]; exact q4) (by rw [up_n (by decide)]; exact q92) (by rw [up_n (by decide)]; exact q89) (fun k' hk' j hj => ?_)
    rw [up_s]
    have h6 := s1.1.2.2.2.2.2.2.2.2.2.2.1 k' hk' j hj
    unfold acX
    by_cases z : k' = i
    · rw [z, pk_us, decide_eq_false (nI_nm hj), decide_eq_false (p := ¬ i = i) (fun q => q rfl), Bool.and_false]
    · rw [pk_un z, decide_eq_true z, Bool.and_true]
      exact h6
  · intro Q kq
    have e : triM (plaM Q) (nI n) 0 (nI i) = va_up (plaM Q) 123 (upd (plaM Q 123) 65 (thrB (nI n) (nI i))) := if_pos rfl
    obtain ⟨q61, q157, q158⟩ := pla_q h kq
    rw [e]
    exact (lay_q h ((kq.tr kp_pla).tr (kp_1 (by omega))) (q_lo (by rw [up_s, pk_un (by decide), pla_61.2.1])) (q_we h (by rw [up_s, pk_un (by decide), pla_61.2.2.1])) (q_w9 h) (fun c hc => by rw [up_n (by decide)]; exact q157 c hc) (fun i' hi' j hj => by
      rw [up_n (by decide), up_s, pk_us, thr_ok n hn6 i hi i' (by omega), q158 i' hi']
      rfl) (by rw [up_s, pk_un (by decide)]; exact q61.symm) (q_st h (by rw [up_s, pk_un (by decide), pla_61.2.2.2.1]))).1
theorem q_ac (h : cAll I R t t' n nb nm fL lL fG lG st) (kq : kp I Q) (e65 : Q1 123 65 = 63) (e158 : Q1 158 = plaM Q 158) : ∀ i, i < n → ∀ j : Nat, j < 2 ^ 31 → (decide (Q1 158 i = nI j) && decide (isB (Q1 123 65) (nI i))) = acT (I (t + 14)) j i := by
  intro i hi j hj
  have hn6 := h.n6
  rw [e65, isB63 i (by omega), Bool.and_true, e158, (pla_q h kq).2.2 i hi]
  rfl
theorem trd_1 {c k : Nat} (h : cAll I R t t' n nb nm fL lL fG lG st) (hc : c < n) (hk : k ≤ 2000) (hr : ruR (nI k) = 1) : askP MX11_tried MX12_tried [.int 1, .int (nI 0), .int (nI k), .int (nI c)] I J R := by
  refine trd_f (P := PG I t lL lG (I 62) (I 63) 0 0 (I (t + 9)) (I (t + 4)) (I (t + 10)) (acT (I (t + 14))) (I (t + 11))) h hc hk hr rfl (fun _ => by omega) (fun q => absurd q (by decide)) ?_ ?_
  · intro Q1 R1 s1 k1 q90 q92 q89 q3 q4
    have e : triC Q1 1 0 = va_up Q1 88 (upd (Q1 88) 3 0) := rfl
    rw [e]
    exact cMes h s1 k1 q90 (fun a h1 _ _ _ => up_n h1) (by rw [up_s, pk_un (by decide)]) (by rw [up_s, pk_un (by decide)]) (by rw [up_s, pk_us]) (by rw [up_s, pk_un (by decide)]; exact q4) (by rw [up_n (by decide)]; exact q92) (by rw [up_n (by decide)]; exact q89) (by rw [up_n (by decide)]; exact s1.1.2.2.2.2.2.2.2.2.2.2.1)
  · intro Q kq
    have e : triM (plaM Q) (nI n) 1 (nI 0) = va_up (plaM Q) 123 (upd (plaM Q 123) 61 0) := rfl
    obtain ⟨q61, q157, q158⟩ := pla_q h kq
    rw [e]
    exact (lay_q h ((kq.tr kp_pla).tr (kp_1 (by omega))) (q_lo (by rw [up_s, pk_un (by decide), pla_61.2.1])) (q_we h (by rw [up_s, pk_un (by decide), pla_61.2.2.1])) (q_w9 h) (fun c hc => by rw [up_n (by decide)]; exact q157 c hc) (q_ac h kq (by rw [up_s, pk_un (by decide), pla_61.2.2.2.2]) (up_n (by decide))) (by rw [up_s, pk_us]) (q_st h (by rw [up_s, pk_un (by decide), pla_61.2.2.2.1]))).1
theorem trd_2 {c k : Nat} (h : cAll I R t t' n nb nm fL lL fG lG st) (hc : c < n) (hk : k ≤ 2000) (hr : ruR (nI k) = 1) : askP MX11_tried MX12_tried [.int 2, .int (nI 0), .int (nI k), .int (nI c)] I J R := by
  refine trd_f (P := PG I t lL lG (I 62) (I 63) (I t 12) 1 (I (t + 9)) (I (t + 4)) (I (t + 10)) (acT (I (t + 14))) (I (t + 11))) h hc hk hr rfl (fun _ => by omega) (fun q => absurd q (by decide)) ?_ ?_
  · intro Q1 R1 s1 k1 q90 q92 q89 q3 q4
    have e : triC Q1 2 0 = va_up Q1 88 (upd (Q1 88) 4 1) := rfl
    rw [e]
    exact cMes h s1 k1 q90 (fun a h1 _ _ _ => up_n h1) (by rw [up_s, pk_un (by decide)]) (by rw [up_s, pk_un (by decide)]) (by rw [up_s, pk_un (by decide)]; exact q3) (by rw [up_s, pk_us]) (by rw [up_n (by decide)]; exact q92) (by rw [up_n (by decide)]; exact q89) (by rw [up_n (by decide)]; exact s1.1.2.2.2.2.2.2.2.2.2.2.1)
  · intro Q kq
    have e : triM (plaM Q) (nI n) 2 (nI 0) = va_up (plaM Q) 123 (upd (plaM Q 123) 62 0) := rfl
    obtain ⟨q61, q157, q158⟩ := pla_q h kq
    rw [e]
    exact (lay_q h ((kq.tr kp_pla).tr (kp_1 (by omega))) (by rw [up_s, pk_us]; decide) (q_we h (by rw [up_s, pk_un (by decide), pla_61.2.2.1])) (q_w9 h) (fun c hc => by rw [up_n (by decide)]; exact q157 c hc) (q_ac h kq (by rw [up_s, pk_un (by decide), pla_61.2.2.2.2]) (up_n (by decide))) (by rw [up_s, pk_un (by decide)]; exact q61.symm) (q_st h (by rw [up_s, pk_un (by decide), pla_61.2.2.2.1]))).1
theorem trd_3 {c k : Nat} (h : cAll I R t t' n nb nm fL lL fG lG st) (hc : c < n) (hk : k ≤ 2000) (hr : ruR (nI k) = 1) : askP MX11_tried MX12_tried [.int 3, .int (nI 0), .int (nI k), .int (nI c)] I J R := by
  have hn6 := h.n6
  refine trd_f (P := PG I t lL lG (I 62) (I 63) (I t 12) 0 (fun _ => 1) (I (t + 4)) (I (t + 10)) (acT (I (t + 14))) (I (t + 11))) h hc hk hr rfl (fun _ => by omega) (fun q => absurd q (by decide)) ?_ ?_
  · intro Q1 R1 s1 k1 q90 q92 q89 q3 q4
    have e : triC Q1 3 0 = va_up Q1 92 (cpF (fun _ => 1) (Q1 92) 6) := rfl
    rw [e]
    exact cMes h s1 k1 q90 (fun a _ _ h1 _ => up_n h1) (by rw [up_n (by decide)]) (by rw [up_n (by decide)]) (by rw [up_n (by decide)]; exact q3) (by rw [up_n (by decide)]; exact q4) (by rw [up_s]; exact fun c hc => cpF_at (by omega)) (by rw [up_n (by decide)]; exact q89) (by rw [up_n (by decide)]; exact s1.1.2.2.2.2.2.2.2.2.2.2.1)
  · intro Q kq
    have e : triM (plaM Q) (nI n) 3 (nI 0) = va_up (plaM Q) 123 (upd (plaM Q 123) 63 0) := rfl
    obtain ⟨q61, q157, q158⟩ := pla_q h kq
    rw [e]
    exact (lay_q h ((kq.tr kp_pla).tr (kp_1 (by omega))) (q_lo (by rw [up_s, pk_un (by decide), pla_61.2.1])) (fun c _ => if_pos (by rw [up_s, pk_us])) (fun c _ => ⟨1, by omega, by omega, rfl⟩) (fun c hc => by rw [up_n (by decide)]; exact q157 c hc) (q_ac h kq (by rw [up_s, pk_un (by decide), pla_61.2.2.2.2]) (up_n (by decide))) (by rw [up_s, pk_un (by decide)]; exact q61.symm) (q_st h (by rw [up_s, pk_un (by decide), pla_61.2.2.2.1]))).1
theorem trd_4 {i c k : Nat} (h : cAll I R t t' n nb nm fL lL fG lG st) (hc : c < n) (hk : k ≤ 2000) (hr : ruR (nI k) = 1) (hcan : canF (nI nb) (nI n) 4 (nI i) = 1) (hi : i < nb) : askP MX11_tried MX12_tried [.int 4, .int (nI i), .int (nI k), .int (nI c)] I J R := by
  have hb3 := h.txt.1.2.2
  refine trd_f (P := PG I t lL lG (I 62) (I 63) (I t 12) 0 (I (t + 9)) (upd (I (t + 4)) i (btwF 0 (2 * I (t + 4) i) 99)) (I (t + 10)) (acT (I (t + 14))) (I (t + 11))) h hc hk hr hcan (fun q => absurd rfl q) (fun _ => by omega) ?_ ?_
  · intro Q1 R1 s1 k1 q90 q92 q89 q3 q4
    have e : triC Q1 4 i = va_up Q1 89 (upd (Q1 89) i (btwF 0 (2 * Q1 89 i) 99)) := rfl
    rw [e]
    refine cMes h s1 k1 q90 (fun a _ h1 _ _ => up_n h1) (by rw [up_n (by decide)]) (by rw [up_n (by decide)]) (by rw [up_n (by decide)]; exact q3) (by rw [up_n (by decide)]; exact q4) (by rw [up_n (by decide)]; exact q92) (fun x hx => ?_) (by rw [up_n (by decide)]; exact s1.1.2.2.2.2.2.2.2.2.2.2.1)
    rw [up_s, q89 i (by omega)]
    by_cases z : x = i
    · rw [z, pk_us, pk_us]
    · rw [pk_un z, pk_un z]
      exact q89 x hx
  · intro Q kq
    have e : triM (plaM Q) (nI n) 4 (nI i) = va_up (plaM Q) 123 (upd (plaM Q 123) 64 (nI i)) := rfl
    obtain ⟨q61, q157, q158⟩ := pla_q h kq
    rw [e]
    refine (lay_q h ((kq.tr kp_pla).tr (kp_1 (by omega))) (q_lo (by rw [up_s, pk_un (by decide), pla_61.2.1])) (q_we h (by rw [up_s, pk_un (by decide), pla_61.2.2.1])) (q_w9 h) (fun c hc => by rw [up_n (by decide)]; exact q157 c hc) (q_ac h kq (by rw [up_s, pk_un (by decide), pla_61.2.2.2.2]) (up_n (by decide))) (by rw [up_s, pk_un (by decide)]; exact q61.symm) (fun x hx => ?_)).1
    rw [up_s, pk_us]
    obtain ⟨_, _, e4, _, ⟨p, _, p2, p3⟩⟩ := h.txt.2.2.2.1 x hx
    by_cases z : x = i
    · rw [z, pk_us, if_pos rfl]
      rw [z] at e4 p3
      rw [e4, p3, st99 p p2]
    · rw [pk_un z, if_neg (fun q => z ((nI_eq (by omega) (by omega)).mp q))]
      exact e4
theorem trd_5 {i c k : Nat} (h : cAll I R t t' n nb nm fL lL fG lG st) (hc : c < n) (hk : k ≤ 2000) (hr : ruR (nI k) = 1) (hcan : canF (nI nb) (nI n) 5 (nI i) = 1) (hi : i < n) (hic : icF (nI n) (nI i) = 1) : askP MX11_tried MX12_tried [.int 5, .int (nI i), .int (nI k), .int (nI c)] I J R := by
  have hn6 := h.n6
  refine trd_f (P := PG I t lL lG (I 62) (I 63) (I t 12) 0 (I (t + 9)) (I (t + 4)) (I (t + 10)) (acT (upd (I (t + 14)) i 0)) (I (t + 11))) h hc hk hr hcan (fun _ => by omega) (fun q => absurd q (by decide)) ?_ ?_
  · intro Q1 R1 s1 k1 q90 q92 q89 q3 q4
    have e : triC Q1 5 i = va_up Q1 94 (upd (Q1 94) i 0) := rfl
    rw [e]
    refine cMes h s1 k1 q90 (fun a _ _ _ h4 => up_n h4) (by rw [up_n (by decide)]) (by rw [up_n (by decide)]) (by rw [up_n (by decide)]; exact q3) (by rw [up_n (by decide)]; exact q4) (by rw [up_n (by decide)]; exact q92) (by rw [up_n (by decide)]; exact q89) (fun k' hk' j hj => ?_)
    rw [up_s]
    have h6 := s1.1.2.2.2.2.2.2.2.2.2.2.1 k' hk' j hj
    unfold acT
    by_cases z : k' = i
    · rw [z, pk_us, pk_us]
    · rw [pk_un z, pk_un z]
      exact h6
  · intro Q kq
    have e : triM (plaM Q) (nI n) 5 (nI i) = va_up (plaM Q) 158 (upd (plaM Q 158) i 0) := by
      unfold triM
      rw [hic, nI_clamp (by omega)]
      rfl
    obtain ⟨q61, q157, q158⟩ := pla_q h kq
    rw [e]
    exact (lay_q h ((kq.tr kp_pla).tr kp_158) (q_lo (by rw [up_n (by decide), pla_61.2.1])) (q_we h (by rw [up_n (by decide), pla_61.2.2.1])) (q_w9 h) (fun c hc => by rw [up_n (by decide)]; exact q157 c hc) (fun i' hi' j hj => by
      rw [up_s, up_n (by decide), pla_61.2.2.2.2, isB63 i' (by omega), Bool.and_true]
      unfold acT
      by_cases z : i' = i
      · rw [z, pk_us, pk_us]
      · rw [pk_un z, pk_un z, q158 i' hi']) (by rw [up_n (by decide)]; exact q61.symm) (q_st h (by rw [up_n (by decide), pla_61.2.2.2.1]))).1
theorem tried_0 {w i x : Int32} {k : Nat} (h : cAll I R t t' n nb nm fL lL fG lG st) (hx : icF (nI n) x = 1) (hr : ruR (nI k) = 1) (hcan : canF (nI nb) (nI n) w i = 0) : askP MX11_tried MX12_tried [.int w, .int i, .int (nI k), .int x] I J R := by
  have n1 : ¬ (1 : Int32) = 0 := by decide
  have e5 := trs_m (d := 8) (n := n) (Q := va_up I 123 (upd (I 123) 2 0)) (J := J) (R1 := R) (w := w) (i := i) (by rw [up_s, pk_un (by decide)]; exact h.nd) h.n6
  rw [up_s, pk_un (by decide), h.txt.1.2.1, hcan] at e5
  refine ⟨-1, I, J, R, triM (plaM (va_up I 123 (upd (I 123) 2 0))) (nI n) w i, J, ?_, ?_, (kp.thr.tr kp_pla).tr kp_tri, rfl, rfl, rfl⟩
  · rw [eX11_tried]
    simp (disch := omega) only [xX11_tried_0, xX11_tried_1, xX11_tried_3, xX11_tried_6, xX11_tried_9, xX11_tried_10, xX11_tried_13, xX11_tried_16, xX11_tried_17, xX11_tried_18, xX11_tried_19, xX11_tried_22, xX11_tried_25, xX11_tried_26, xX11_tried_27, xX11_tried_28, xX11_tried_31, xX11_tried_32, xX11_tried_33, xX11_tried_34, xX11_tried_37, xX11_tried_38, xX11_tried_41, xX11_tried_44, xX11_tried_45, xX11_tried_48, xX11_tried_49, xX11_tried_52, xX11_tried_53, xX11_tried_56, xX11_tried_59, xX11_tried_61, xX11_tried_62, kd_0, fi_0_8, kd_88, fi_88_13, kd_97, ln_97, kd_0, kd_88, ↓reduceIte, gd_t, hK_p, hN_p, hF_p, hI_p, hJ_p, hR_p, stI_p, stJ_p, stR_p, stA_p, va_rf_s, va_rf_n, clr_i, clr_l, clr_r, clr_n, clr_o, w8_0, w8_1i, w8_1r, w8_2ii, w8_2ri, w8_2ir, w8_2rr, w8_3, beq_self_eq_true, Bool.and_self, Bool.and_true, Bool.true_and, decide_true, Option.toList_some, Option.toList_none, List.cons_append, List.nil_append, Option.bind_some, if_true, if_false, Nat.reduceLeDiff, Nat.reduceLT, Nat.reduceBEq, Bool.or_false, Bool.false_or, Bool.or_true, Bool.true_or, nI_leI, nI_ltI, nI_eq, nI_clamp, inb_n, up_s, up_n, bx_uu, nI_1, ix6, nI_0n, pk_us, pk_un, ge_0n, icl_c h.te h.r3, h.nc, hx, n1, isR_c, hr, can_c h.te h.r3, h.txt.1.1, hcan, not_true_eq_false]
  · rw [eX12_tried]
    simp (disch := omega) only [xX12_tried_0, xX12_tried_1, xX12_tried_2, xX12_tried_5, xX12_tried_6, xX12_tried_8, xX12_tried_11, xX12_tried_14, xX12_tried_15, xX12_tried_18, xX12_tried_21, xX12_tried_22, xX12_tried_23, xX12_tried_24, xX12_tried_27, xX12_tried_30, xX12_tried_31, xX12_tried_32, xX12_tried_33, xX12_tried_36, xX12_tried_37, xX12_tried_38, xX12_tried_41, xX12_tried_42, xX12_tried_45, xX12_tried_47, xX12_tried_49, xX12_tried_50, xX12_tried_51, kd_123, fi_123_59, kd_155, ln_155, kd_123, ↓reduceIte, gd_t, hK_p, hN_p, hF_p, hI_p, hJ_p, hR_p, stI_p, stJ_p, stR_p, stA_p, va_rf_s, va_rf_n, clr_i, clr_l, clr_r, clr_n, clr_o, w8_0, w8_1i, w8_1r, w8_2ii, w8_2ri, w8_2ir, w8_2rr, w8_3, beq_self_eq_true, Bool.and_self, Bool.and_true, Bool.true_and, decide_true, Option.toList_some, Option.toList_none, List.cons_append, List.nil_append, Option.bind_some, if_true, if_false, Nat.reduceLeDiff, Nat.reduceLT, Nat.reduceBEq, Bool.or_false, Bool.false_or, Bool.or_true, Bool.true_or, nI_leI, nI_ltI, nI_eq, nI_clamp, inb_n, up_s, up_n, bx_uu, nI_1, ix6, nI_0n, pk_us, pk_un, ge_0n, icl_m, h.nd, hx, n1, isR_m, hr, e5, not_true_eq_false]
theorem tried_p (h : cAll I R t t' n nb nm fL lL fG lG st) {w i y x : Int32} : askP MX11_tried MX12_tried [.int w, .int i, .int y, .int x] I J R := by
  have n1 : ¬ (1 : Int32) = 0 := by decide
  have hb3 := h.txt.1.2.2
  rcases ic_or (x := x) h.n6 with ⟨c, hc, rfl, e⟩ | e
  · rcases ruR_or (x := y) with ⟨k, hk, rfl, er⟩ | er
    · by_cases w0 : w = 0
      · subst w0
        rcases ic_or (x := i) h.n6 with ⟨a, ha, rfl, ea⟩ | ea
        · exact trd_0 h hc hk er (by unfold canF; exact ea) ha
        · exact tried_0 h e er (by unfold canF; exact ea)
      by_cases w1 : w = 1
      · subst w1
        by_cases z : i = 0
        · subst z
          exact trd_1 h hc hk er
        · exact tried_0 h e er (by unfold canF; rw [if_neg w0, if_pos rfl]; exact if_neg z)
      by_cases w2 : w = 2
      · subst w2
        by_cases z : i = 0
        · subst z
          exact trd_2 h hc hk er
        · exact tried_0 h e er (by unfold canF; rw [if_neg w0, if_neg w1, if_pos rfl]; exact if_neg z)
      by_cases w3 : w = 3
      · subst w3
        by_cases z : i = 0
        · subst z
          exact trd_3 h hc hk er
        · exact tried_0 h e er (by unfold canF; rw [if_neg w0, if_neg w1, if_neg w2, if_pos rfl]; exact if_neg z)
      by_cases w4 : w = 4
      · subst w4
        rcases ic_or (n := nb) (x := i) (by omega) with ⟨a, ha, rfl, ea⟩ | ea
        · exact trd_4 h hc hk er (by unfold canF; rw [if_neg w0, if_neg w1, if_neg w2, if_neg w3, if_pos rfl]; exact ea) ha
        · exact tried_0 h e er (by unfold canF; rw [if_neg w0, if_neg w1, if_neg w2, if_neg w3, if_pos rfl]; exact ea)
      by_cases w5 : w = 5
      · subst w5
        rcases ic_or (x := i) h.n6 with ⟨a, ha, rfl, ea⟩ | ea
        · exact trd_5 h hc hk er (by unfold canF; rw [if_neg w0, if_neg w1, if_neg w2, if_neg w3, if_neg w4, if_pos rfl]; exact ea) ha ea
        · exact tried_0 h e er (by unfold canF; rw [if_neg w0, if_neg w1, if_neg w2, if_neg w3, if_neg w4, if_pos rfl]; exact ea)
      exact tried_0 h e er (by unfold canF; rw [if_neg w0, if_neg w1, if_neg w2, if_neg w3, if_neg w4, if_neg w5])
    · refine askP.mk0 (v := -1) (w := -1) ?_ ?_ rfl
      · rw [eX11_tried]
        simp (disch := omega) only [xX11_tried_0, xX11_tried_1, xX11_tried_3, xX11_tried_6, xX11_tried_9, xX11_tried_10, xX11_tried_13, xX11_tried_16, xX11_tried_17, xX11_tried_18, xX11_tried_19, xX11_tried_22, xX11_tried_25, xX11_tried_26, xX11_tried_27, xX11_tried_28, xX11_tried_31, xX11_tried_32, xX11_tried_33, xX11_tried_34, xX11_tried_37, xX11_tried_38, xX11_tried_41, xX11_tried_44, xX11_tried_45, xX11_tried_48, xX11_tried_49, xX11_tried_52, xX11_tried_53, xX11_tried_56, xX11_tried_59, xX11_tried_61, xX11_tried_62, kd_0, fi_0_8, kd_88, fi_88_13, kd_97, ln_97, kd_0, ↓reduceIte, gd_t, hK_p, hN_p, hF_p, hI_p, hJ_p, hR_p, stI_p, stJ_p, stR_p, stA_p, va_rf_s, va_rf_n, clr_i, clr_l, clr_r, clr_n, clr_o, w8_0, w8_1i, w8_1r, w8_2ii, w8_2ri, w8_2ir, w8_2rr, w8_3, beq_self_eq_true, Bool.and_self, Bool.and_true, Bool.true_and, decide_true, Option.toList_some, Option.toList_none, List.cons_append, List.nil_append, Option.bind_some, if_true, if_false, Nat.reduceLeDiff, Nat.reduceLT, Nat.reduceBEq, Bool.or_false, Bool.false_or, Bool.or_true, Bool.true_or, nI_leI, nI_ltI, nI_eq, nI_clamp, inb_n, up_s, up_n, bx_uu, nI_1, ix6, nI_0n, pk_us, pk_un, ge_0n, icl_c h.te h.r3, h.nc, e, n1, isR_c, er]
      · rw [eX12_tried]
        simp (disch := omega) only [xX12_tried_0, xX12_tried_1, xX12_tried_2, xX12_tried_5, xX12_tried_6, xX12_tried_8, xX12_tried_11, xX12_tried_14, xX12_tried_15, xX12_tried_18, xX12_tried_21, xX12_tried_22, xX12_tried_23, xX12_tried_24, xX12_tried_27, xX12_tried_30, xX12_tried_31, xX12_tried_32, xX12_tried_33, xX12_tried_36, xX12_tried_37, xX12_tried_38, xX12_tried_41, xX12_tried_42, xX12_tried_45, xX12_tried_47, xX12_tried_49, xX12_tried_50, xX12_tried_51, kd_123, fi_123_59, kd_155, ln_155, kd_123, ↓reduceIte, gd_t, hK_p, hN_p, hF_p, hI_p, hJ_p, hR_p, stI_p, stJ_p, stR_p, stA_p, va_rf_s, va_rf_n, clr_i, clr_l, clr_r, clr_n, clr_o, w8_0, w8_1i, w8_1r, w8_2ii, w8_2ri, w8_2ir, w8_2rr, w8_3, beq_self_eq_true, Bool.and_self, Bool.and_true, Bool.true_and, decide_true, Option.toList_some, Option.toList_none, List.cons_append, List.nil_append, Option.bind_some, if_true, if_false, Nat.reduceLeDiff, Nat.reduceLT, Nat.reduceBEq, Bool.or_false, Bool.false_or, Bool.or_true, Bool.true_or, nI_leI, nI_ltI, nI_eq, nI_clamp, inb_n, up_s, up_n, bx_uu, nI_1, ix6, nI_0n, pk_us, pk_un, ge_0n, icl_m, h.nd, e, n1, isR_m, er]
  · refine askP.mk0 (v := -1) (w := -1) ?_ ?_ rfl
    · rw [eX11_tried]
      simp (disch := omega) only [xX11_tried_0, xX11_tried_1, xX11_tried_3, xX11_tried_6, xX11_tried_9, xX11_tried_10, xX11_tried_13, xX11_tried_16, xX11_tried_17, xX11_tried_18, xX11_tried_19, xX11_tried_22, xX11_tried_25, xX11_tried_26, xX11_tried_27, xX11_tried_28, xX11_tried_31, xX11_tried_32, xX11_tried_33, xX11_tried_34, xX11_tried_37, xX11_tried_38, xX11_tried_41, xX11_tried_44, xX11_tried_45, xX11_tried_48, xX11_tried_49, xX11_tried_52, xX11_tried_53, xX11_tried_56, xX11_tried_59, xX11_tried_61, xX11_tried_62, kd_0, fi_0_8, kd_88, fi_88_13, kd_97, ln_97, kd_0, ↓reduceIte, gd_t, hK_p, hN_p, hF_p, hI_p, hJ_p, hR_p, stI_p, stJ_p, stR_p, stA_p, va_rf_s, va_rf_n, clr_i, clr_l, clr_r, clr_n, clr_o, w8_0, w8_1i, w8_1r, w8_2ii, w8_2ri, w8_2ir, w8_2rr, w8_3, beq_self_eq_true, Bool.and_self, Bool.and_true, Bool.true_and, decide_true, Option.toList_some, Option.toList_none, List.cons_append, List.nil_append, Option.bind_some, if_true, if_false, Nat.reduceLeDiff, Nat.reduceLT, Nat.reduceBEq, Bool.or_false, Bool.false_or, Bool.or_true, Bool.true_or, nI_leI, nI_ltI, nI_eq, nI_clamp, inb_n, up_s, up_n, bx_uu, nI_1, ix6, nI_0n, pk_us, pk_un, ge_0n, icl_c h.te h.r3, h.nc, e]
    · rw [eX12_tried]
      simp (disch := omega) only [xX12_tried_0, xX12_tried_1, xX12_tried_2, xX12_tried_5, xX12_tried_6, xX12_tried_8, xX12_tried_11, xX12_tried_14, xX12_tried_15, xX12_tried_18, xX12_tried_21, xX12_tried_22, xX12_tried_23, xX12_tried_24, xX12_tried_27, xX12_tried_30, xX12_tried_31, xX12_tried_32, xX12_tried_33, xX12_tried_36, xX12_tried_37, xX12_tried_38, xX12_tried_41, xX12_tried_42, xX12_tried_45, xX12_tried_47, xX12_tried_49, xX12_tried_50, xX12_tried_51, kd_123, fi_123_59, kd_155, ln_155, kd_123, ↓reduceIte, gd_t, hK_p, hN_p, hF_p, hI_p, hJ_p, hR_p, stI_p, stJ_p, stR_p, stA_p, va_rf_s, va_rf_n, clr_i, clr_l, clr_r, clr_n, clr_o, w8_0, w8_1i, w8_1r, w8_2ii, w8_2ri, w8_2ir, w8_2rr, w8_3, beq_self_eq_true, Bool.and_self, Bool.and_true, Bool.true_and, decide_true, Option.toList_some, Option.toList_none, List.cons_append, List.nil_append, Option.bind_some, if_true, if_false, Nat.reduceLeDiff, Nat.reduceLT, Nat.reduceBEq, Bool.or_false, Bool.false_or, Bool.or_true, Bool.true_or, nI_leI, nI_ltI, nI_eq, nI_clamp, inb_n, up_s, up_n, bx_uu, nI_1, ix6, nI_0n, pk_us, pk_un, ge_0n, icl_m, h.nd, e]
end TRF

-- MODEL, 4: a step
def shR (at1 : Nat) (r : Nat → Int32) : Nat → Int32 := fun k => r (at1 + k)
theorem pt_sh {at1 : Nat} {r : Nat → Int32} : pt at1 r (shR at1 r) = r := by
  funext k
  unfold pt shR
  split
  · congr 1
    omega
  · rfl
def staM (n : Nat) (t : Int32) (rs : Nat → Int32) (th : Int32) (f : Nat → Int32) : Nat → Int32 := itf (fun i f => if f i = 0 then (if rs i = t then (if isB th (nI i) then upd f i 1 else f) else f) else f) n 0 f
def pulM (I : Mem) (at1 n : Nat) (sa : Nat → Int32) : Nat → Int32 := fun c => if c < n then (if sa c = 1 then smI (tugM (va_up I 156 (pt at1 (I 156) sa)) at1 c) n else 0) else I 159 c
def mdA (I : Mem) (at1 n : Nat) (t : Int32) : Nat → Int32 := staM n t (I 158) (I 123 65) (shR at1 (I 156))
def mdP (I : Mem) (at1 n : Nat) (t : Int32) : Nat → Int32 := pulM I at1 n (mdA I at1 n t)
def mdV (I : Mem) (at1 n : Nat) (t : Int32) (fL lL fG lG : Nat) : S5 := runS (losM I fL lL) (goMd I fG lG) (I 135) (I 157) (wghM I) (shR at1 (I 152)) (mdP I at1 n t) t n (shR at1 (I 153), shR at1 (I 154), shR at1 (I 155), mdA I at1 n t, 0)
/-- the memory behind a step of the model (e: whether the latest law had an error) -/
def stpM (I : Mem) (at1 n : Nat) (t : Int32) (fL lL fG lG : Nat) (e : Int32) : Mem := mdS (va_up I 159 (mdP I at1 n t)) at1 (upd (I 123) 54 e) (mdV I at1 n t fL lL fG lG)
theorem updC {f : Nat → Int32} {e e' k k' : Int32} : upd (upd (upd (upd f 54 e) 69 k) 54 e') 69 k' = upd (upd f 54 e') 69 k' := by
  funext j
  unfold upd
  repeat' split
  all_goals first | rfl | omega
theorem stp_spec {d at1 n fL lL fG lG : Nat} {t : Int32} {I : Mem} {J : MemL} {R : MemR} (ha : at1 ≤ 6) (hn : I 123 13 = nI n) (hn6 : n ≤ 6) (hw : okM I fL lL fG lG) (hbm : ∀ c, c < n → ∃ x, x < 6 ∧ I 151 (at1 + c) = nI x) (hm0 : ∀ c, c < n → ¬ 1000 * wghM I c = 0) :
    ∃ e' J', C (d + 5) MX12_step [.ref 123, .int (nI at1), .int t] (hp I J R) = some (none, hp (stpM I at1 n t fL lL fG lG e') J' R) := by
  have h1 : ∀ f, E (C (d + 4)) MX12_step 2 [some (.ref 123), some (.int (nI at1)), some (.int t), some (.int (nI 0))] [] (hp (va_up I 156 (pt at1 (I 156) f)) J R) = E (C (d + 4)) MX12_step 57 [some (.ref 123), some (.int (nI at1)), some (.int t), some (.int (nI n))] [] (hp (va_up I 156 (pt at1 (I 156) (staM n t (I 158) (I 123 65) f))) J R) := by
    intro f
    refine for_0 (P := fun i f => E (C (d + 4)) MX12_step 2 [some (.ref 123), some (.int (nI at1)), some (.int t), some (.int (nI i))] [] (hp (va_up I 156 (pt at1 (I 156) f)) J R)) (fin := fun f => E (C (d + 4)) MX12_step 57 [some (.ref 123), some (.int (nI at1)), some (.int t), some (.int (nI n))] [] (hp (va_up I 156 (pt at1 (I 156) f)) J R)) ?_ ?_
    · intro i f hi
      have c0 : ¬ n ≤ i := by omega
      have n1 : ¬ (1 : Int32) = 0 := by decide
      rw [xX12_step_2]
      by_cases z : f i = 0
      · by_cases y : I 158 i = t
        · by_cases w : isB (I 123 65) (nI i)
          · simp (disch := omega) only [xX12_step_3, xX12_step_4, xX12_step_7, xX12_step_10, xX12_step_11, xX12_step_14, xX12_step_15, xX12_step_16, xX12_step_17, xX12_step_18, xX12_step_21, xX12_step_22, xX12_step_25, xX12_step_26, xX12_step_27, xX12_step_28, xX12_step_31, xX12_step_32, xX12_step_35, xX12_step_36, xX12_step_39, xX12_step_42, xX12_step_43, xX12_step_46, xX12_step_47, xX12_step_48, xX12_step_49, xX12_step_50, xX12_step_51, xX12_step_54, kd_123, fi_123_60, kd_156, ln_156, fi_123_67, kd_158, ln_158, fi_123_68, kd_159, ln_159, ↓reduceIte, gd_t, hK_p, hN_p, hF_p, hI_p, hJ_p, hR_p, stI_p, stJ_p, stR_p, stA_p, va_rf_s, va_rf_n, clr_i, clr_l, clr_r, clr_n, clr_o, w8_0, w8_1i, w8_1r, w8_2ii, w8_2ri, w8_2ir, w8_2rr, w8_3, beq_self_eq_true, Bool.and_self, Bool.and_true, Bool.true_and, decide_true, Option.toList_some, Option.toList_none, List.cons_append, List.nil_append, Option.bind_some, if_true, if_false, Nat.reduceLeDiff, Nat.reduceLT, Nat.reduceBEq, Bool.or_false, Bool.false_or, Bool.or_true, Bool.true_or, nI_leI, nI_ltI, nI_eq, nI_clamp, inb_n, up_s, up_n, bx_uu, nI_1, ix6, nI_0n, pk_us, pk_un, ge_0n, hn, c0, nI_add, pt_at, pt_up, z, y, isO_spec, bi, if_pos w, n1, not_true_eq_false]
          · simp (disch := omega) only [xX12_step_3, xX12_step_4, xX12_step_7, xX12_step_10, xX12_step_11, xX12_step_14, xX12_step_15, xX12_step_16, xX12_step_17, xX12_step_18, xX12_step_21, xX12_step_22, xX12_step_25, xX12_step_26, xX12_step_27, xX12_step_28, xX12_step_31, xX12_step_32, xX12_step_35, xX12_step_36, xX12_step_39, xX12_step_42, xX12_step_43, xX12_step_46, xX12_step_47, xX12_step_48, xX12_step_49, xX12_step_50, xX12_step_51, xX12_step_54, kd_123, fi_123_60, kd_156, ln_156, fi_123_67, kd_158, ln_158, fi_123_68, kd_159, ln_159, ↓reduceIte, gd_t, hK_p, hN_p, hF_p, hI_p, hJ_p, hR_p, stI_p, stJ_p, stR_p, stA_p, va_rf_s, va_rf_n, clr_i, clr_l, clr_r, clr_n, clr_o, w8_0, w8_1i, w8_1r, w8_2ii, w8_2ri, w8_2ir, w8_2rr, w8_3, beq_self_eq_true, Bool.and_self, Bool.and_true, Bool.true_and, decide_true, Option.toList_some, Option.toList_none, List.cons_append, List.nil_append, Option.bind_some, if_true, if_false, Nat.reduceLeDiff, Nat.reduceLT, Nat.reduceBEq, Bool.or_false, Bool.false_or, Bool.or_true, Bool.true_or, nI_leI, nI_ltI, nI_eq, nI_clamp, inb_n, up_s, up_n, bx_uu, nI_1, ix6, nI_0n, pk_us, pk_un, ge_0n, hn, c0, nI_add, pt_at, pt_up, z, y, isO_spec, bi, if_neg w, not_true_eq_false]
        · simp (disch := omega) only [xX12_step_3, xX12_step_4, xX12_step_7, xX12_step_10, xX12_step_11, xX12_step_14, xX12_step_15, xX12_step_16, xX12_step_17, xX12_step_18, xX12_step_21, xX12_step_22, xX12_step_25, xX12_step_26, xX12_step_27, xX12_step_28, xX12_step_31, xX12_step_32, xX12_step_35, xX12_step_36, xX12_step_39, xX12_step_42, xX12_step_43, xX12_step_46, xX12_step_47, xX12_step_48, xX12_step_49, xX12_step_50, xX12_step_51, xX12_step_54, kd_123, fi_123_60, kd_156, ln_156, fi_123_67, kd_158, ln_158, fi_123_68, kd_159, ln_159, ↓reduceIte, gd_t, hK_p, hN_p, hF_p, hI_p, hJ_p, hR_p, stI_p, stJ_p, stR_p, stA_p, va_rf_s, va_rf_n, clr_i, clr_l, clr_r, clr_n, clr_o, w8_0, w8_1i, w8_1r, w8_2ii, w8_2ri, w8_2ir, w8_2rr, w8_3, beq_self_eq_true, Bool.and_self, Bool.and_true, Bool.true_and, decide_true, Option.toList_some, Option.toList_none, List.cons_append, List.nil_append, Option.bind_some, if_true, if_false, Nat.reduceLeDiff, Nat.reduceLT, Nat.reduceBEq, Bool.or_false, Bool.false_or, Bool.or_true, Bool.true_or, nI_leI, nI_ltI, nI_eq, nI_clamp, inb_n, up_s, up_n, bx_uu, nI_1, ix6, nI_0n, pk_us, pk_un, ge_0n, hn, c0, nI_add, pt_at, pt_up, z, y, not_true_eq_false, not_false_eq_true]
      · simp (disch := omega) only [xX12_step_3, xX12_step_4, xX12_step_7, xX12_step_10, xX12_step_11, xX12_step_14, xX12_step_15, xX12_step_16, xX12_step_17, xX12_step_18, xX12_step_21, xX12_step_22, xX12_step_25, xX12_step_26, xX12_step_27, xX12_step_28, xX12_step_31, xX12_step_32, xX12_step_35, xX12_step_36, xX12_step_39, xX12_step_42, xX12_step_43, xX12_step_46, xX12_step_47, xX12_step_48, xX12_step_49, xX12_step_50, xX12_step_51, xX12_step_54, kd_123, fi_123_60, kd_156, ln_156, fi_123_67, kd_158, ln_158, fi_123_68, kd_159, ln_159, ↓reduceIte, gd_t, hK_p, hN_p, hF_p, hI_p, hJ_p, hR_p, stI_p, stJ_p, stR_p, stA_p, va_rf_s, va_rf_n, clr_i, clr_l, clr_r, clr_n, clr_o, w8_0, w8_1i, w8_1r, w8_2ii, w8_2ri, w8_2ir, w8_2rr, w8_3, beq_self_eq_true, Bool.and_self, Bool.and_true, Bool.true_and, decide_true, Option.toList_some, Option.toList_none, List.cons_append, List.nil_append, Option.bind_some, if_true, if_false, Nat.reduceLeDiff, Nat.reduceLT, Nat.reduceBEq, Bool.or_false, Bool.false_or, Bool.or_true, Bool.true_or, nI_leI, nI_ltI, nI_eq, nI_clamp, inb_n, up_s, up_n, bx_uu, nI_1, ix6, nI_0n, pk_us, pk_un, ge_0n, hn, c0, nI_add, pt_at, pt_up, z, not_false_eq_true]
    · intro f
      have c0 : n ≤ n := Nat.le_refl n
      rw [xX12_step_2]
      simp (disch := omega) only [xX12_step_3, xX12_step_4, xX12_step_7, xX12_step_10, xX12_step_11, xX12_step_14, xX12_step_15, xX12_step_16, xX12_step_17, xX12_step_18, xX12_step_21, xX12_step_22, xX12_step_25, xX12_step_26, xX12_step_27, xX12_step_28, xX12_step_31, xX12_step_32, xX12_step_35, xX12_step_36, xX12_step_39, xX12_step_42, xX12_step_43, xX12_step_46, xX12_step_47, xX12_step_48, xX12_step_49, xX12_step_50, xX12_step_51, xX12_step_54, kd_123, fi_123_60, kd_156, ln_156, fi_123_67, kd_158, ln_158, fi_123_68, kd_159, ln_159, ↓reduceIte, gd_t, hK_p, hN_p, hF_p, hI_p, hJ_p, hR_p, stI_p, stJ_p, stR_p, stA_p, va_rf_s, va_rf_n, clr_i, clr_l, clr_r, clr_n, clr_o, w8_0, w8_1i, w8_1r, w8_2ii, w8_2ri, w8_2ir, w8_2rr, w8_3, beq_self_eq_true, Bool.and_self, Bool.and_true, Bool.true_and, decide_true, Option.toList_some, Option.toList_none, List.cons_append, List.nil_append, Option.bind_some, if_true, if_false, Nat.reduceLeDiff, Nat.reduceLT, Nat.reduceBEq, Bool.or_false, Bool.false_or, Bool.or_true, Bool.true_or, nI_leI, nI_ltI, nI_eq, nI_clamp, inb_n, up_s, up_n, bx_uu, nI_1, ix6, nI_0n, pk_us, pk_un, ge_0n, hn, c0]
  have h2 : ∀ (f r : Nat → Int32), E (C (d + 4)) MX12_step 59 [some (.ref 123), some (.int (nI at1)), some (.int t), some (.int (nI 0))] [] (hp (va_up (va_up I 156 (pt at1 (I 156) f)) 159 r) J R) = E (C (d + 4)) MX12_step 101 [some (.ref 123), some (.int (nI at1)), some (.int t), some (.int (nI n))] [] (hp (va_up (va_up I 156 (pt at1 (I 156) f)) 159 (itf (fun i r => upd r i (if f i = 1 then smI (tugM (va_up I 156 (pt at1 (I 156) f)) at1 i) n else 0)) n 0 r)) J R) := by
    intro f r
    refine for_0 (P := fun i r => E (C (d + 4)) MX12_step 59 [some (.ref 123), some (.int (nI at1)), some (.int t), some (.int (nI i))] [] (hp (va_up (va_up I 156 (pt at1 (I 156) f)) 159 r) J R)) (fin := fun r => E (C (d + 4)) MX12_step 101 [some (.ref 123), some (.int (nI at1)), some (.int t), some (.int (nI n))] [] (hp (va_up (va_up I 156 (pt at1 (I 156) f)) 159 r) J R)) ?_ ?_
    · intro i r hi
      have c0 : ¬ n ≤ i := by omega
      rw [xX12_step_59]
      by_cases z : f i = 1
      · have hp1 := puM_spec (d := d + 1) (at1 := at1) (c := i) (n := n) (I := va_up (va_up I 156 (pt at1 (I 156) f)) 159 r) (J := J) (R := R) ha (by omega) (by simp (disch := omega) only [up_n]; exact hn) hn6 (by simp (disch := omega) only [up_n]; exact hbm i hi)
        have hsm : smI (tugM (va_up (va_up I 156 (pt at1 (I 156) f)) 159 r) at1 i) n = smI (tugM (va_up I 156 (pt at1 (I 156) f)) at1 i) n := by
          refine smI_cong (fun k _ => ?_)
          unfold tugM wghM reaM stfM
          simp (disch := omega) only [up_n, up_s]
        rw [hsm] at hp1
        simp (disch := omega) only [xX12_step_60, xX12_step_61, xX12_step_64, xX12_step_67, xX12_step_68, xX12_step_71, xX12_step_72, xX12_step_73, xX12_step_76, xX12_step_77, xX12_step_78, xX12_step_79, xX12_step_80, xX12_step_81, xX12_step_84, xX12_step_85, xX12_step_86, xX12_step_87, xX12_step_90, xX12_step_93, xX12_step_94, xX12_step_95, xX12_step_98, kd_123, fi_123_60, kd_156, ln_156, fi_123_67, kd_158, ln_158, fi_123_68, kd_159, ln_159, ↓reduceIte, gd_t, hK_p, hN_p, hF_p, hI_p, hJ_p, hR_p, stI_p, stJ_p, stR_p, stA_p, va_rf_s, va_rf_n, clr_i, clr_l, clr_r, clr_n, clr_o, w8_0, w8_1i, w8_1r, w8_2ii, w8_2ri, w8_2ir, w8_2rr, w8_3, beq_self_eq_true, Bool.and_self, Bool.and_true, Bool.true_and, decide_true, Option.toList_some, Option.toList_none, List.cons_append, List.nil_append, Option.bind_some, if_true, if_false, Nat.reduceLeDiff, Nat.reduceLT, Nat.reduceBEq, Bool.or_false, Bool.false_or, Bool.or_true, Bool.true_or, nI_leI, nI_ltI, nI_eq, nI_clamp, inb_n, up_s, up_n, bx_uu, nI_1, ix6, nI_0n, pk_us, pk_un, ge_0n, hn, c0, nI_add, pt_at, z, hp1, not_true_eq_false]
      · simp (disch := omega) only [xX12_step_60, xX12_step_61, xX12_step_64, xX12_step_67, xX12_step_68, xX12_step_71, xX12_step_72, xX12_step_73, xX12_step_76, xX12_step_77, xX12_step_78, xX12_step_79, xX12_step_80, xX12_step_81, xX12_step_84, xX12_step_85, xX12_step_86, xX12_step_87, xX12_step_90, xX12_step_93, xX12_step_94, xX12_step_95, xX12_step_98, kd_123, fi_123_60, kd_156, ln_156, fi_123_67, kd_158, ln_158, fi_123_68, kd_159, ln_159, ↓reduceIte, gd_t, hK_p, hN_p, hF_p, hI_p, hJ_p, hR_p, stI_p, stJ_p, stR_p, stA_p, va_rf_s, va_rf_n, clr_i, clr_l, clr_r, clr_n, clr_o, w8_0, w8_1i, w8_1r, w8_2ii, w8_2ri, w8_2ir, w8_2rr, w8_3, beq_self_eq_true, Bool.and_self, Bool.and_true, Bool.true_and, decide_true, Option.toList_some, Option.toList_none, List.cons_append, List.nil_append, Option.bind_some, if_true, if_false, Nat.reduceLeDiff, Nat.reduceLT, Nat.reduceBEq, Bool.or_false, Bool.false_or, Bool.or_true, Bool.true_or, nI_leI, nI_ltI, nI_eq, nI_clamp, inb_n, up_s, up_n, bx_uu, nI_1, ix6, nI_0n, pk_us, pk_un, ge_0n, hn, c0, nI_add, pt_at, z, not_false_eq_true]
    · intro r
      have c0 : n ≤ n := Nat.le_refl n
      rw [xX12_step_59]
      simp (disch := omega) only [xX12_step_60, xX12_step_61, xX12_step_64, xX12_step_67, xX12_step_68, xX12_step_71, xX12_step_72, xX12_step_73, xX12_step_76, xX12_step_77, xX12_step_78, xX12_step_79, xX12_step_80, xX12_step_81, xX12_step_84, xX12_step_85, xX12_step_86, xX12_step_87, xX12_step_90, xX12_step_93, xX12_step_94, xX12_step_95, xX12_step_98, kd_123, fi_123_60, kd_156, ln_156, fi_123_67, kd_158, ln_158, fi_123_68, kd_159, ln_159, ↓reduceIte, gd_t, hK_p, hN_p, hF_p, hI_p, hJ_p, hR_p, stI_p, stJ_p, stR_p, stA_p, va_rf_s, va_rf_n, clr_i, clr_l, clr_r, clr_n, clr_o, w8_0, w8_1i, w8_1r, w8_2ii, w8_2ri, w8_2ir, w8_2rr, w8_3, beq_self_eq_true, Bool.and_self, Bool.and_true, Bool.true_and, decide_true, Option.toList_some, Option.toList_none, List.cons_append, List.nil_append, Option.bind_some, if_true, if_false, Nat.reduceLeDiff, Nat.reduceLT, Nat.reduceBEq, Bool.or_false, Bool.false_or, Bool.or_true, Bool.true_or, nI_leI, nI_ltI, nI_eq, nI_clamp, inb_n, up_s, up_n, bx_uu, nI_1, ix6, nI_0n, pk_us, pk_un, ge_0n, hn, c0]
  have h3 : ∀ (I2 : Mem), I2 123 = I 123 → okM I2 fL lL fG lG → (∀ c, c < n → ¬ 1000 * wghM I2 c = 0) → ∀ (k i : Nat) (s : S5) (g : Int32 × MemL), i + k = n → ∃ q : Int32 × MemL, E (C (d + 4)) MX12_step 108 [some (.ref 123), some (.int (nI at1)), some (.int t), some (.int (nI i))] [] (hp (mdS I2 at1 (upd (I 123) 54 g.1) s) g.2 R) =
      E (C (d + 4)) MX12_step 141 [some (.ref 123), some (.int (nI at1)), some (.int t), some (.int (nI n))] [] (hp (mdS I2 at1 (upd (I 123) 54 q.1) (itf (fun i s => if s.2.2.2.1 i = 1 then movS (losM I2 fL lL) (goMd I2 fG lG) (I2 135) (I2 157) (wghM I2) (shR at1 (I2 152)) (I2 159) t i s else s) k i s)) q.2 R) := by
    intro I2 hI2 hok2 hm2
    refine for_j (P := fun i (s : S5) (g : Int32 × MemL) => E (C (d + 4)) MX12_step 108 [some (.ref 123), some (.int (nI at1)), some (.int t), some (.int (nI i))] [] (hp (mdS I2 at1 (upd (I 123) 54 g.1) s) g.2 R)) (F := fun (s : S5) (q : Int32 × MemL) => E (C (d + 4)) MX12_step 141 [some (.ref 123), some (.int (nI at1)), some (.int t), some (.int (nI n))] [] (hp (mdS I2 at1 (upd (I 123) 54 q.1) s) q.2 R)) (n := n) ?_ ?_
    · intro i s g hi
      obtain ⟨ph, sw, ct, sa, kk⟩ := s
      obtain ⟨e, J⟩ := g
      have c0 : ¬ n ≤ i := by omega
      have hcl : upd (upd (I 123) 54 e) 69 kk 13 = nI n := by rw [pk_un (by decide), pk_un (by decide)]; exact hn
      by_cases z : sa i = 1
      · obtain ⟨e', J', h⟩ := goe_spec (d := d) (at1 := at1) (c := i) (t := t) (I := I2) (J := J) (R := R) (o := upd (upd (I 123) 54 e) 69 kk) (ph := ph) (sw := sw) (ct := ct) (sa := sa) ha (show i < 6 by omega) hok2 (by rw [pk_un (by decide), pk_un (by decide), hI2]) (by rw [pk_un (by decide), pk_un (by decide), hI2]) (hm2 i hi)
        refine ⟨(e', J'), ?_⟩
        rw [pk_us] at h
        rw [if_pos z]
        unfold mdS at h ⊢
        rw [updC] at h
        dsimp only
        rw [xX12_step_108]
        simp (disch := omega) only [xX12_step_109, xX12_step_110, xX12_step_113, xX12_step_116, xX12_step_117, xX12_step_120, xX12_step_121, xX12_step_122, xX12_step_123, xX12_step_124, xX12_step_125, xX12_step_128, xX12_step_129, xX12_step_130, xX12_step_131, xX12_step_132, xX12_step_135, xX12_step_138, kd_123, fi_123_60, kd_156, ln_156, fi_123_67, kd_158, ln_158, fi_123_68, kd_159, ln_159, ↓reduceIte, gd_t, hK_p, hN_p, hF_p, hI_p, hJ_p, hR_p, stI_p, stJ_p, stR_p, stA_p, va_rf_s, va_rf_n, clr_i, clr_l, clr_r, clr_n, clr_o, w8_0, w8_1i, w8_1r, w8_2ii, w8_2ri, w8_2ir, w8_2rr, w8_3, beq_self_eq_true, Bool.and_self, Bool.and_true, Bool.true_and, decide_true, Option.toList_some, Option.toList_none, List.cons_append, List.nil_append, Option.bind_some, if_true, if_false, Nat.reduceLeDiff, Nat.reduceLT, Nat.reduceBEq, Bool.or_false, Bool.false_or, Bool.or_true, Bool.true_or, nI_leI, nI_ltI, nI_eq, nI_clamp, inb_n, up_s, up_n, bx_uu, nI_1, ix6, nI_0n, pk_us, pk_un, ge_0n, mdM_0, mdM_4, hn, c0, nI_add, pt_at, z, h, not_true_eq_false]
        rfl
      · refine ⟨(e, J), ?_⟩
        rw [if_neg z]
        unfold mdS
        dsimp only
        rw [xX12_step_108]
        simp (disch := omega) only [xX12_step_109, xX12_step_110, xX12_step_113, xX12_step_116, xX12_step_117, xX12_step_120, xX12_step_121, xX12_step_122, xX12_step_123, xX12_step_124, xX12_step_125, xX12_step_128, xX12_step_129, xX12_step_130, xX12_step_131, xX12_step_132, xX12_step_135, xX12_step_138, kd_123, fi_123_60, kd_156, ln_156, fi_123_67, kd_158, ln_158, fi_123_68, kd_159, ln_159, ↓reduceIte, gd_t, hK_p, hN_p, hF_p, hI_p, hJ_p, hR_p, stI_p, stJ_p, stR_p, stA_p, va_rf_s, va_rf_n, clr_i, clr_l, clr_r, clr_n, clr_o, w8_0, w8_1i, w8_1r, w8_2ii, w8_2ri, w8_2ir, w8_2rr, w8_3, beq_self_eq_true, Bool.and_self, Bool.and_true, Bool.true_and, decide_true, Option.toList_some, Option.toList_none, List.cons_append, List.nil_append, Option.bind_some, if_true, if_false, Nat.reduceLeDiff, Nat.reduceLT, Nat.reduceBEq, Bool.or_false, Bool.false_or, Bool.or_true, Bool.true_or, nI_leI, nI_ltI, nI_eq, nI_clamp, inb_n, up_s, up_n, bx_uu, nI_1, ix6, nI_0n, pk_us, pk_un, ge_0n, mdM_0, mdM_4, hn, c0, nI_add, pt_at, z, not_false_eq_true]
    · intro s g
      refine ⟨g, ?_⟩
      have c0 : n ≤ n := Nat.le_refl n
      have hcl : ∀ kk, upd (upd (I 123) 54 g.1) 69 kk 13 = nI n := by intro kk; rw [pk_un (by decide), pk_un (by decide)]; exact hn
      unfold mdS
      rw [xX12_step_108]
      simp (disch := omega) only [xX12_step_109, xX12_step_110, xX12_step_113, xX12_step_116, xX12_step_117, xX12_step_120, xX12_step_121, xX12_step_122, xX12_step_123, xX12_step_124, xX12_step_125, xX12_step_128, xX12_step_129, xX12_step_130, xX12_step_131, xX12_step_132, xX12_step_135, xX12_step_138, kd_123, fi_123_60, kd_156, ln_156, fi_123_67, kd_158, ln_158, fi_123_68, kd_159, ln_159, ↓reduceIte, gd_t, hK_p, hN_p, hF_p, hI_p, hJ_p, hR_p, stI_p, stJ_p, stR_p, stA_p, va_rf_s, va_rf_n, clr_i, clr_l, clr_r, clr_n, clr_o, w8_0, w8_1i, w8_1r, w8_2ii, w8_2ri, w8_2ir, w8_2rr, w8_3, beq_self_eq_true, Bool.and_self, Bool.and_true, Bool.true_and, decide_true, Option.toList_some, Option.toList_none, List.cons_append, List.nil_append, Option.bind_some, if_true, if_false, Nat.reduceLeDiff, Nat.reduceLT, Nat.reduceBEq, Bool.or_false, Bool.false_or, Bool.or_true, Bool.true_or, nI_leI, nI_ltI, nI_eq, nI_clamp, inb_n, up_s, up_n, bx_uu, nI_1, ix6, nI_0n, pk_us, pk_un, ge_0n, mdM_0, hn, c0]
  have e1 := h1 (shR at1 (I 156))
  rw [pt_sh, up_self] at e1
  have hA : staM n t (I 158) (I 123 65) (shR at1 (I 156)) = mdA I at1 n t := rfl
  rw [hA] at e1
  have e2 := h2 (mdA I at1 n t) (I 159)
  have hs9 : va_up (va_up I 156 (pt at1 (I 156) (mdA I at1 n t))) 159 (I 159) = va_up I 156 (pt at1 (I 156) (mdA I at1 n t)) := by
    funext a
    by_cases h : a = 159
    · subst h
      rw [up_s, up_n (by decide)]
    · rw [up_n h]
  have hP : itf (fun i r => upd r i (if mdA I at1 n t i = 1 then smI (tugM (va_up I 156 (pt at1 (I 156) (mdA I at1 n t))) at1 i) n else 0)) n 0 (I 159) = mdP I at1 n t := by
    rw [itf_fill (v := fun i => if mdA I at1 n t i = 1 then smI (tugM (va_up I 156 (pt at1 (I 156) (mdA I at1 n t))) at1 i) n else 0)]
    rfl
  rw [hs9, hP] at e2
  have hokI : okM (va_up I 159 (mdP I at1 n t)) fL lL fG lG := by
    unfold okM okM1 at hw ⊢
    simp (disch := omega) only [up_n]
    exact hw
  have hwI : wghM (va_up I 159 (mdP I at1 n t)) = wghM I := by
    funext c
    unfold wghM
    simp (disch := omega) only [up_n]
  have hlI : losM (va_up I 159 (mdP I at1 n t)) fL lL = losM I fL lL := by
    funext nm
    unfold losM
    simp (disch := omega) only [up_n]
  have hgI : goMd (va_up I 159 (mdP I at1 n t)) fG lG = goMd I fG lG := by
    funext nm sp
    unfold goMd
    simp (disch := omega) only [up_n]
  obtain ⟨⟨e', J'⟩, e3⟩ := h3 (va_up I 159 (mdP I at1 n t)) (up_n (by decide)) hokI (by rw [hwI]; exact hm0) n 0 (shR at1 (I 153), shR at1 (I 154), shR at1 (I 155), mdA I at1 n t, 0) (I 123 54, J) (by omega)
  refine ⟨e', J', ?_⟩
  rw [hwI, hlI, hgI, up_s, up_n (show (135 : Nat) ≠ 159 by decide), up_n (show (157 : Nat) ≠ 159 by decide), up_n (show (152 : Nat) ≠ 159 by decide), upd_self rfl] at e3
  have hmem : mdS (va_up I 159 (mdP I at1 n t)) at1 (I 123) (shR at1 (I 153), shR at1 (I 154), shR at1 (I 155), mdA I at1 n t, 0) = va_up (va_up (va_up I 156 (pt at1 (I 156) (mdA I at1 n t))) 159 (mdP I at1 n t)) 123 (upd (I 123) 69 0) := by
    unfold mdS
    dsimp only
    rw [up_n (show (153 : Nat) ≠ 159 by decide), up_n (show (154 : Nat) ≠ 159 by decide), up_n (show (155 : Nat) ≠ 159 by decide), up_n (show (156 : Nat) ≠ 159 by decide), pt_sh, pt_sh, pt_sh]
    funext a
    unfold mdM va_up
    repeat' split
    all_goals first | rfl | omega | (subst_vars; rfl)
  rw [hmem, nI_0] at e3
  rw [nI_0] at e1 e2
  rw [eX12_step]
  simp only [xX12_step_0, xX12_step_1, clr_i]
  rw [e1]
  simp only [xX12_step_57, xX12_step_58, clr_i]
  rw [e2]
  simp (disch := omega) only [xX12_step_101, xX12_step_102, xX12_step_103, xX12_step_106, xX12_step_107, kd_123, fi_123_60, kd_156, ln_156, fi_123_67, kd_158, ln_158, fi_123_68, kd_159, ln_159, ↓reduceIte, gd_t, hK_p, hN_p, hF_p, hI_p, hJ_p, hR_p, stI_p, stJ_p, stR_p, stA_p, va_rf_s, va_rf_n, clr_i, clr_l, clr_r, clr_n, clr_o, w8_0, w8_1i, w8_1r, w8_2ii, w8_2ri, w8_2ir, w8_2rr, w8_3, beq_self_eq_true, Bool.and_self, Bool.and_true, Bool.true_and, decide_true, Option.toList_some, Option.toList_none, List.cons_append, List.nil_append, Option.bind_some, if_true, if_false, Nat.reduceLeDiff, Nat.reduceLT, Nat.reduceBEq, Bool.or_false, Bool.false_or, Bool.or_true, Bool.true_or, nI_leI, nI_ltI, nI_eq, nI_clamp, inb_n, up_s, up_n, bx_uu, nI_1, ix6, nI_0n, pk_us, pk_un, ge_0n]
  rw [e3]
  simp only [xX12_step_141]
  rfl

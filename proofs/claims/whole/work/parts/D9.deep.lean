-- a call that ends at depth d ends so at every greater depth
theorem gd_mo {α : Type} {b : Bool} {o o' : Option α} {x : α} (h : o = some x → o' = some x) (g : gd b o = some x) : gd b o' = some x := by
  unfold gd at g ⊢
  cases b
  · exact absurd g (by simp)
  · exact h g
theorem bd_mo {α β : Type} {o o' : Option α} {f : α → Option β} {x : β} (h : ∀ r, o = some r → o' = some r) (g : o.bind f = some x) : o'.bind f = some x := by
  cases e : o with
  | none => rw [e] at g; cases g
  | some r => rw [h r e]; rw [e] at g; exact g
section DP
variable {O O' : Orc}
theorem cal_mo (hO : ∀ M as h r, O M as h = some r → O' M as h = some r) {o idx pc vk : Nat} {ls : Lc} {st : List Value} {h : Hp} {x : Cf ⊕ Rs} (g : cal O o idx pc ls st h vk = some x) : cal O' o idx pc ls st h vk = some x := by
  unfold cal at g ⊢
  cases e : mRes o idx with
  | none => rw [e] at g; cases g
  | some q =>
    obtain ⟨M, np, kd, ci⟩ := q
    rw [e] at g
    simp only at g ⊢
    split at g
    · rename_i z
      rw [if_pos z]
      split at g
      · rename_i w
        rw [if_pos w]
        exact gd_mo (bd_mo (fun r q => hO _ _ _ _ q)) g
      · rename_i w
        rw [if_neg w]
        cases e2 : popA (st.drop np) with
        | none => rw [e2] at g; cases g
        | some y =>
          rw [e2] at g
          exact gd_mo (bd_mo (fun r q => hO _ _ _ _ q)) g
    · cases g
theorem ex1_mo (hO : ∀ M as h r, O M as h = some r → O' M as h = some r) {M : Mth} {i : Instr} {n pc : Nat} {ls : Lc} {st : List Value} {h : Hp} {x : Cf ⊕ Rs} (g : ex1 O M i n pc ls st h = some x) : ex1 O' M i n pc ls st h = some x := by
  cases i
  case invokevirtual idx => exact gd_mo (cal_mo hO) g
  case invokespecial idx =>
    refine gd_mo (fun q => ?_) g
    cases e : (oITab M.2.2.2.2).lookup idx with
    | none => rw [e] at q; exact cal_mo hO q
    | some y => rw [e] at q; exact q
  case invokestatic idx =>
    refine gd_mo (fun q => ?_) g
    cases e : (aCTab M.2.2.2.2).lookup idx with
    | none => rw [e] at q; exact cal_mo hO q
    | some y => rw [e] at q; exact q
  all_goals exact g
theorem runs_mo (hO : ∀ M as h r, O M as h = some r → O' M as h = some r) {M : Mth} : ∀ (n : Nat) (c : Cf) (r : Rs), runs O M n c = some r → runs O' M n c = some r
  | 0, c, r, h => by cases h
  | n + 1, c, r, h => by
    have hs : ∀ x, stp O M c = some x → stp O' M c = some x := by
      intro x g
      unfold stp at g ⊢
      split at g
      · exact ex1_mo hO g
      · cases g
    unfold runs at h ⊢
    cases e : stp O M c with
    | none => rw [e] at h; cases h
    | some x =>
      rw [e] at h
      rw [hs x e]
      cases x with
      | inl c' => exact runs_mo hO n c' r h
      | inr r' => exact h
theorem E_mo (hO : ∀ M as h r, O M as h = some r → O' M as h = some r) {M : Mth} {pc : Nat} {ls : Lc} {st : List Value} {h : Hp} {r : Rs} (g : E O M pc ls st h = some r) : E O' M pc ls st h = some r := by
  obtain ⟨n, hn⟩ := E_iff.mp g
  exact E_iff.mpr ⟨n, runs_mo hO n _ r hn⟩
theorem C_up : ∀ (d : Nat) (M : Mth) (as : List Value) (h : Hp) (r : Rs), C d M as h = some r → C (d + 1) M as h = some r
  | 0, _, _, _, _, g => by cases g
  | d + 1, M, as, h, r, g => by
    unfold C at g ⊢
    split at g
    · unfold extF gd at g
      split at g <;> cases g
    · rename_i z
      rw [if_neg z]
      exact gd_mo (E_mo (C_up d)) g
theorem E_up {d : Nat} {M : Mth} {pc : Nat} {ls : Lc} {st : List Value} {h : Hp} {r : Rs} (g : E (C d) M pc ls st h = some r) : E (C (d + 1)) M pc ls st h = some r := E_mo (C_up d) g
end DP
section XE
variable {X : Mem} {J : MemL} {R : MemR}
theorem ext_c {d n : Nat} : C (d + 1) MX7_extras [.ref 56, .int (nI n)] (hp X J R) = E (C d) MX7_extras 4 [some (.ref 56), some (.int (nI n)), some (.int (bitC false false false false)), some (.int (nI 0)), none, none] [] (hp X J R) := by
  have b0 : bitC false false false false = 0 := by decide
  have q0 : nI 0 = 0 := rfl
  rw [eX7_extras, b0, q0]
  simp only [xX7_extras_0, xX7_extras_1, xX7_extras_2, xX7_extras_3, ↓reduceIte, gd_t, hK_p, hN_p, hF_p, hI_p, hJ_p, hR_p, stI_p, stJ_p, stR_p, stA_p, va_rf_s, va_rf_n, clr_i, clr_l, clr_r, clr_n, clr_o, w8_0, w8_1i, w8_1r, w8_2ii, w8_2ri, w8_2ir, w8_2rr, w8_3, beq_self_eq_true, Bool.and_self, Bool.and_true, Bool.true_and, decide_true, Option.toList_some, Option.toList_none, List.cons_append, List.nil_append, Option.bind_some, if_true, if_false, Nat.reduceLeDiff, Nat.reduceLT, Nat.reduceBEq, Bool.or_false, Bool.false_or, Bool.or_true, Bool.true_or]
end XE

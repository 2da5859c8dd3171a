-- THE PURE MACHINE BY EQUATIONS: what a step makes of E
section EQ
variable {O : Orc} {M : Mth} {pc pc' n : Nat} {ls ls' : Lc} {st st' : List Value} {h h' : Hp} {i : Instr}
theorem E_go (hd : decode M.2.1 pc = .ok (i, n)) (he : ex1 O M i n pc ls st h = some (.inl (pc', ls', st', h'))) : E O M pc ls st h = E O M pc' ls' st' h' := E_step (stp_of hd he)
theorem E_gd {g : Bool} (hd : decode M.2.1 pc = .ok (i, n)) (he : ex1 O M i n pc ls st h = gd g (some (.inl (pc', ls', st', h')))) : E O M pc ls st h = gd g (E O M pc' ls' st' h') := by
  cases g with
  | false => exact E_no (stp_of hd he)
  | true => exact E_step (stp_of hd he)
theorem E_br {c : Prop} [Decidable c] {g : Bool} {t f : Nat} (hd : decode M.2.1 pc = .ok (i, n)) (he : ex1 O M i n pc ls st h = some (.inl (if g = true then t else f, ls', st', h'))) (hg : (g = true) = c) : E O M pc ls st h = if c then E O M t ls' st' h' else E O M f ls' st' h' := by
  rw [E_step (stp_of hd he)]
  subst hg
  split <;> rfl
theorem E_ret {r : Rs} (hd : decode M.2.1 pc = .ok (i, n)) (he : ex1 O M i n pc ls st h = some (.inr r)) : E O M pc ls st h = some r := E_end (stp_of hd he)
theorem E_retg {g : Bool} {r : Rs} (hd : decode M.2.1 pc = .ok (i, n)) (he : ex1 O M i n pc ls st h = gd g (some (.inr r))) : E O M pc ls st h = gd g (some r) := by
  cases g with
  | false => exact E_no (stp_of hd he)
  | true => exact E_end (stp_of hd he)
theorem E_call {g : Bool} {x : Option Rs} {rest : List Value} (hd : decode M.2.1 pc = .ok (i, n)) (he : ex1 O M i n pc ls st h = gd g (x.bind fun r => some (.inl (pc', ls, r.1.toList ++ rest, r.2)))) : E O M pc ls st h = gd g (x.bind fun r => E O M pc' ls (r.1.toList ++ rest) r.2) := by
  cases g with
  | false => exact E_no (stp_of hd he)
  | true =>
    cases x with
    | none => exact E_no (stp_of hd he)
    | some r => exact E_step (stp_of hd he)
end EQ
theorem c_eq (x y : Int32) : (cmpI .eq x y = true) = (x = y) := by simp [cmpI]
theorem c_ne (x y : Int32) : (cmpI .ne x y = true) = (¬ x = y) := by simp [cmpI]
theorem c_lt (x y : Int32) : (cmpI .lt x y = true) = (x < y) := by simp [cmpI]
theorem c_ge (x y : Int32) : (cmpI .ge x y = true) = (y ≤ x) := by simp [cmpI]
theorem c_gt (x y : Int32) : (cmpI .gt x y = true) = (y < x) := by simp [cmpI]
theorem c_le (x y : Int32) : (cmpI .le x y = true) = (x ≤ y) := by simp [cmpI]
theorem C_in {d : Nat} {M : Mth} {as : List Value} {h : Hp} {ls : Lc} (h1 : M.2.2.2.2 < 100) (h2 : (entA as).length ≤ M.2.2.1) (h3 : entL M.2.2.1 as = ls) : C (d + 1) M as h = E (C d) M 0 ls [] h := by
  show (if 100 ≤ M.2.2.2.2 then _ else _) = _
  rw [if_neg (by omega), h3]
  unfold gd
  rw [if_pos (decide_eq_true h2)]
-- shapes that the rows below use
theorem xp_I {O : Orc} {M : Mth} {idx pc ci k : Nat} {ne : Bool} {ls : Lc} {st : List Value} {h : Hp} {x : Int32} {a : Nat} (h1 : fRes M.2.2.2.2 idx = some (ci, k, ne)) (h2 : tyT ci k = .int) (h3 : (TT ci k).2.2.2 = false) : ex1 O M (.putfield idx) 3 pc ls (.int x :: .ref a :: st) h = gd (hK h a == ci) (some (.inl (pc + 3, ls, st, stI h a k x))) := by
  have h4 : isRf (tyT ci k) = false := by rw [h2]; rfl
  have h5 : fits (tyT ci k) (.int x) = true := by rw [h2]; rfl
  simp [ex1, h1, h4, popI, popA, h5, h3, go1]
theorem xp_Z {O : Orc} {M : Mth} {idx pc ci k : Nat} {ne : Bool} {ls : Lc} {st : List Value} {h : Hp} {x : Int32} {a : Nat} (h1 : fRes M.2.2.2.2 idx = some (ci, k, ne)) (h2 : tyT ci k = .boolean) (h3 : (TT ci k).2.2.2 = false) : ex1 O M (.putfield idx) 3 pc ls (.int x :: .ref a :: st) h = gd (hK h a == ci && (x == 0 || x == 1)) (some (.inl (pc + 3, ls, st, stI h a k x))) := by
  have h4 : isRf (tyT ci k) = false := by rw [h2]; rfl
  have h5 : fits (tyT ci k) (.int x) = (x == 0 || x == 1) := by rw [h2]; rfl
  simp [ex1, h1, h4, popI, popA, h5, h3, go1]
theorem xp_N {O : Orc} {M : Mth} {pc kd : Nat} {t : ArrayType} {ls : Lc} {st : List Value} {h : Hp} {x : Int32} (h1 : akd t = kd) (h2 : kd < 18 := by decide) : ex1 O M (.newarray t) 2 pc ls (.int x :: st) h = gd (hAl h && !(decide (x < 0)) && decide (x.toNatClampNeg ≤ 60000)) (some (.inl (pc + 2, ls, .ref (hTop h) :: st, hNew h kd x.toNatClampNeg))) := by
  subst h1
  simp [ex1, popI, go1, h2]
theorem xp_S {O : Orc} {M M' : Mth} {idx pc np kd ci : Nat} {ls : Lc} {st : List Value} {h : Hp} (h1 : (aCTab M.2.2.2.2).lookup idx = none ∧ mRes M.2.2.2.2 idx = some (M', np, kd, ci) ∧ kd / 2 = 1) (h2 : np ≤ st.length) : ex1 O M (.invokestatic idx) 3 pc ls st h = gd (w8 (st.drop np)) ((O M' (st.take np).reverse h).bind fun r => some (.inl (pc + 3, ls, r.1.toList ++ st.drop np, r.2))) := by
  simp [ex1, cal, h1.1, h1.2.1, h1.2.2, go1, gd, h2]
theorem xp_C {O : Orc} {M M' : Mth} {idx pc np kd ci a : Nat} {ls : Lc} {st rest : List Value} {h : Hp} (h1 : (oITab M.2.2.2.2).lookup idx = none ∧ mRes M.2.2.2.2 idx = some (M', np, kd, ci) ∧ kd / 2 = 2) (h2 : st.drop np = .ref a :: rest) : ex1 O M (.invokespecial idx) 3 pc ls st h = gd (w8 rest) ((O M' (.ref a :: (st.take np).reverse) h).bind fun r => some (.inl (pc + 3, ls, r.1.toList ++ rest, r.2))) := by
  simp [ex1, cal, h1.1, h1.2.1, h1.2.2, go1, gd, h2, popA]
theorem E_tabO {O : Orc} {M : Mth} {pc n tgt : Nat} {ls : Lc} {st : List Value} {h : Hp} {x : Int32} (dflt lo hi : Int) (offs : Array Int) (hd : decode M.2.1 pc = .ok (.tableswitch dflt lo hi offs, n)) (hx : x.toInt < lo ∨ hi < x.toInt) (ht : (jok pc dflt && (jmp pc dflt == tgt)) = true) : E O M pc ls (.int x :: st) h = E O M tgt ls st h := by
  simp only [Bool.and_eq_true, beq_iff_eq] at ht
  refine E_go hd ?_
  simp only [ex1, popI, Option.bind_some, if_pos hx, gd, ht.1, if_true, go1, ht.2]
theorem E_lkO {O : Orc} {M : Mth} {pc n tgt : Nat} {ls : Lc} {st : List Value} {h : Hp} {x : Int32} (dflt : Int) (ps : Array (Int × Int)) (hd : decode M.2.1 pc = .ok (.lookupswitch dflt ps, n)) (hp : (ps.toList.zip (ps.toList.drop 1)).all (fun (a, next) => a.1 < next.1) = true) (hx : Op.lookupswitch.offset ps.toList dflt x.toInt = dflt) (ht : (jok pc dflt && (jmp pc dflt == tgt)) = true) : E O M pc ls (.int x :: st) h = E O M tgt ls st h := by
  simp only [Bool.and_eq_true, beq_iff_eq] at ht
  refine E_go hd ?_
  simp only [ex1, popI, Option.bind_some, hx, gd, ht.1, hp, Bool.and_self, if_true, go1, ht.2]
theorem E_iinc {O : Orc} {M : Mth} {pc : Nat} {ls ls' : Lc} {st : List Value} {h : Hp} {x v : Int32} {j : Nat} {k : Int} (hd : decode M.2.1 pc = .ok (.iinc j k, 3)) (hl : getI ls j = some x) (hv : Int32.ofInt k = v) (hL : j < ls.length) (hs : lset1 ls j (.int (x + v)) = ls') : E O M pc ls st h = E O M (pc + 3) ls' st h := by
  subst hs
  subst hv
  refine E_go hd ?_
  simp [ex1, hl, gd, hL, go1]
theorem E_iincW {O : Orc} {M : Mth} {pc : Nat} {ls ls' : Lc} {st : List Value} {h : Hp} {x v : Int32} {j : Nat} {k : Int} (hd : decode M.2.1 pc = .ok (.iinc j k, 6)) (hl : getI ls j = some x) (hv : Int32.ofInt k = v) (hL : j < ls.length) (hs : lset1 ls j (.int (x + v)) = ls') : E O M pc ls st h = E O M (pc + 6) ls' st h := by
  subst hs
  subst hv
  refine E_go hd ?_
  simp [ex1, hl, gd, hL, go1]

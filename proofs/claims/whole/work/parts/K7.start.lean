-- THE START: what holds at the law's entry
theorem arr_of {s : State} {args : Array Value} {ty : FieldType} (h : (Cond.arrayClass ty).before args s = true) : ∃ cA, ArrOfT s cA ty ∧ s.vm.findClass ("[" ++ ty.toString) = some cA := by
  obtain ⟨cA, kA, comp, h1, h2, h3⟩ := Cond.arrayClass_spec h
  exact ⟨cA, fun n z => ⟨fun k h => (by cases h), kA, h2, comp, h3⟩, h1⟩
theorem in_ok : ∀ ci, ci < 13 → Cond.instantiable (cnm ci) (NN ci) ∈ gtbl
  | 0, _ => nC_11_67.2.1
  | 1, _ => nC_11_74.2.1
  | 2, _ => nC_9_63.2.1
  | 3, _ => nC_11_81.2.1
  | 4, _ => nC_11_41.2.1
  | 5, _ => nC_9_9.2.1
  | 6, _ => nC_11_90.2.1
  | 7, _ => nC_11_27.2.1
  | 8, _ => nC_11_60.2.1
  | 9, _ => nC_11_17.2.1
  | 10, _ => nC_11_29.2.1
  | 11, _ => ln_L8.2.1
  | 12, _ => ln_L18.2.1
  | n + 13, h => absurd h (by omega)
def cyO (c13 c14 c15 c16 c17 : ClassId) : Nat → ClassId := fun k => match k with
  | 13 => c13
  | 14 => c14
  | 15 => c15
  | 16 => c16
  | _ => c17
theorem LF_of {p : Program} {s : State} {m : MethodId} {meth : Method} {c : Code} {b L : Nat} {xs : Nat → Int32} (C0 : lw_At p s m meth c b L xs) : ∃ (D : va_G) (cy : Nat → ClassId), LF p s m meth c b L xs D cy := by
  obtain ⟨a1, a2, a3, a4, a5, a6, a7, a8, a9, a10⟩ := C0
  have F5 : ∀ w ∈ gtbl, w.before #[Value.ref b] s = true := fun w hw => a6 w (List.mem_filter.mp hw).1
  have T1 : ∀ w ∈ tables_1, w.before #[Value.ref b] s = true := fun w hw => a6 w (List.mem_append_right _ hw)
  have hcl : ∀ ci : Nat, ∃ q : ClassId × (Nat → Nat), ci < 13 → u_Kn s (cnm ci) (TT ci) (NN ci) q.1 q.2 := by
    intro ci
    by_cases h : ci < 13
    · obtain ⟨cC, iS, hk⟩ := u_known F5 (cls_ok ci h).2.1 (F5 _ (in_ok ci h))
      exact ⟨(cC, iS), fun _ => hk⟩
    · exact ⟨(0, fun _ => 0), fun z => absurd z h⟩
  obtain ⟨f, hf⟩ := Classical.axiomOfChoice hcl
  obtain ⟨c13, A13, B13⟩ := arr_of (F5 _ aK_byte)
  obtain ⟨c14, A14, B14⟩ := arr_of (F5 _ aK_int)
  obtain ⟨c15, A15, B15⟩ := arr_of (F5 _ aK_long)
  obtain ⟨c16, A16, B16⟩ := arr_of (F5 _ aK_short)
  obtain ⟨c17, A17, B17⟩ := arr_of (F5 _ aK_boolean)
  refine ⟨(fun c => (f c).1, fun c => (f c).2), cyO c13 c14 c15 c16 c17, a1, a2, a4, a5, F5, ⟨fun c q hq => ?_, fun k q hq => ?_⟩, fun x hx => ?_, fun x hx => ?_, a7, a8, a9, a3, s, b, rfl, T1, a10, State.WarmedH.refl s, fun q _ => rfl⟩
  · have hc : c < 13 := (List.getElem?_eq_some_iff.mp hq).1
    have h1 := (cls_ok c hc).1
    rw [h1] at hq
    cases hq
    exact hf c hc
  · have hk : k < 5 := (List.getElem?_eq_some_iff.mp hq).1
    rcases (show k = 0 ∨ k = 1 ∨ k = 2 ∨ k = 3 ∨ k = 4 by omega) with rfl | rfl | rfl | rfl | rfl
    · cases hq
      exact ⟨A13, B13⟩
    · cases hq
      exact ⟨A14, B14⟩
    · cases hq
      exact ⟨A15, B15⟩
    · cases hq
      exact ⟨A16, B16⟩
    · cases hq
      exact ⟨A17, B17⟩
  · exact va_Nw.of rfl (T1 _ (nwF_ok x hx))
  · exact va_Nw.of rfl (T1 _ (nwM_ok x hx))

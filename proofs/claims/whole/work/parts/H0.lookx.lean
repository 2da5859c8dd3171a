-- equations of E: look of the class, where it answers
theorem xX11_look_0 {d : Nat} {l1 l2 : Option Value} {x : Nat} {st : List Value} {h : Hp} : E (C d) MX11_look 0 [some (.ref x), l1, l2] (st) h = E (C d) MX11_look 1 [some (.ref x), l1, l2] (.ref x :: st) h := E_go (i := .aload_n 0) (n := 1) (by decide +kernel) rfl
theorem xX11_look_1 {d : Nat} {l0 l2 : Option Value} {x : Int32} {st : List Value} {h : Hp} : E (C d) MX11_look 1 [l0, some (.int x), l2] (st) h = E (C d) MX11_look 2 [l0, some (.int x), l2] (.int x :: st) h := E_go (i := .iload_n 1) (n := 1) (by decide +kernel) rfl
theorem xX11_look_2 {d : Nat} {ls : Lc} {v0 : Value} {a : Nat} {st : List Value} {h : Hp} : E (C d) MX11_look 2 ls (v0 :: .ref a :: st) h = gd (w8 st && hK h a == 11) ((C d MX11_isClock [.ref a, v0] h).bind fun r => E (C d) MX11_look 5 ls (r.1.toList ++ st) r.2) := E_call (i := .invokevirtual 157) (n := 3) (by decide +kernel) rfl
theorem xX11_look_5 {d : Nat} {ls : Lc} {x : Int32} {st : List Value} {h : Hp} : E (C d) MX11_look 5 ls (.int x :: st) h = if ¬ x = 0 then E (C d) MX11_look 18 ls (st) h else E (C d) MX11_look 8 ls (st) h := E_br (i := .ifCond .ne 13) (n := 3) (by decide +kernel) rfl (c_ne _ _)
theorem xX11_look_18 {d : Nat} {l0 l1 : Option Value} {x : Int32} {st : List Value} {h : Hp} : E (C d) MX11_look 18 [l0, l1, some (.int x)] (st) h = E (C d) MX11_look 19 [l0, l1, some (.int x)] (.int x :: st) h := E_go (i := .iload_n 2) (n := 1) (by decide +kernel) rfl
theorem xX11_look_19 {d : Nat} {ls : Lc} {x : Int32} {st : List Value} {h : Hp} : E (C d) MX11_look 19 ls (.int x :: st) h = if x = 0 then E (C d) MX11_look 64 ls (st) h else if x = 1 then E (C d) MX11_look 74 ls (st) h else if x = 2 then E (C d) MX11_look 84 ls (st) h else if x = 3 then E (C d) MX11_look 94 ls (st) h else if x = 4 then E (C d) MX11_look 104 ls (st) h else if x = 5 then E (C d) MX11_look 114 ls (st) h else if x = 6 then E (C d) MX11_look 124 ls (st) h else if x = 7 then E (C d) MX11_look 134 ls (st) h else E (C d) MX11_look 144 ls (st) h := by
  by_cases q0 : x = 0
  · subst q0
    rw [if_pos rfl]
    exact E_go (i := .tableswitch 125 0 7 #[45, 55, 65, 75, 85, 95, 105, 115]) (n := 45) (by decide +kernel) rfl
  rw [if_neg q0]
  by_cases q1 : x = 1
  · subst q1
    rw [if_pos rfl]
    exact E_go (i := .tableswitch 125 0 7 #[45, 55, 65, 75, 85, 95, 105, 115]) (n := 45) (by decide +kernel) rfl
  rw [if_neg q1]
  by_cases q2 : x = 2
  · subst q2
    rw [if_pos rfl]
    exact E_go (i := .tableswitch 125 0 7 #[45, 55, 65, 75, 85, 95, 105, 115]) (n := 45) (by decide +kernel) rfl
  rw [if_neg q2]
  by_cases q3 : x = 3
  · subst q3
    rw [if_pos rfl]
    exact E_go (i := .tableswitch 125 0 7 #[45, 55, 65, 75, 85, 95, 105, 115]) (n := 45) (by decide +kernel) rfl
  rw [if_neg q3]
  by_cases q4 : x = 4
  · subst q4
    rw [if_pos rfl]
    exact E_go (i := .tableswitch 125 0 7 #[45, 55, 65, 75, 85, 95, 105, 115]) (n := 45) (by decide +kernel) rfl
  rw [if_neg q4]
  by_cases q5 : x = 5
  · subst q5
    rw [if_pos rfl]
    exact E_go (i := .tableswitch 125 0 7 #[45, 55, 65, 75, 85, 95, 105, 115]) (n := 45) (by decide +kernel) rfl
  rw [if_neg q5]
  by_cases q6 : x = 6
  · subst q6
    rw [if_pos rfl]
    exact E_go (i := .tableswitch 125 0 7 #[45, 55, 65, 75, 85, 95, 105, 115]) (n := 45) (by decide +kernel) rfl
  rw [if_neg q6]
  by_cases q7 : x = 7
  · subst q7
    rw [if_pos rfl]
    exact E_go (i := .tableswitch 125 0 7 #[45, 55, 65, 75, 85, 95, 105, 115]) (n := 45) (by decide +kernel) rfl
  rw [if_neg q7]
  have a0 : x.toInt ≠ 0 := fun q => q0 (Int32.toInt_inj.mp (q.trans (by decide)))
  have a1 : x.toInt ≠ 1 := fun q => q1 (Int32.toInt_inj.mp (q.trans (by decide)))
  have a2 : x.toInt ≠ 2 := fun q => q2 (Int32.toInt_inj.mp (q.trans (by decide)))
  have a3 : x.toInt ≠ 3 := fun q => q3 (Int32.toInt_inj.mp (q.trans (by decide)))
  have a4 : x.toInt ≠ 4 := fun q => q4 (Int32.toInt_inj.mp (q.trans (by decide)))
  have a5 : x.toInt ≠ 5 := fun q => q5 (Int32.toInt_inj.mp (q.trans (by decide)))
  have a6 : x.toInt ≠ 6 := fun q => q6 (Int32.toInt_inj.mp (q.trans (by decide)))
  have a7 : x.toInt ≠ 7 := fun q => q7 (Int32.toInt_inj.mp (q.trans (by decide)))
  exact E_tabO (125) 0 7 #[45, 55, 65, 75, 85, 95, 105, 115] (n := 45) (by decide +kernel) (by omega) rfl
theorem xX11_look_64 {d : Nat} {l1 l2 : Option Value} {x : Nat} {st : List Value} {h : Hp} : E (C d) MX11_look 64 [some (.ref x), l1, l2] (st) h = E (C d) MX11_look 65 [some (.ref x), l1, l2] (.ref x :: st) h := E_go (i := .aload_n 0) (n := 1) (by decide +kernel) rfl
theorem xX11_look_65 {d : Nat} {ls : Lc} {a : Nat} {st : List Value} {h : Hp} : E (C d) MX11_look 65 ls (.ref a :: st) h = gd (hK h a == 11) (E (C d) MX11_look 68 ls (va_rf (hF h a 5) :: st) h) := E_gd (i := .getfield 46) (n := 3) (by decide +kernel) rfl
theorem xX11_look_68 {d : Nat} {ls : Lc} {a : Nat} {st : List Value} {h : Hp} : E (C d) MX11_look 68 ls (.ref a :: st) h = gd (hK h a == 4) (E (C d) MX11_look 71 ls (va_rf (hF h a 6) :: st) h) := E_gd (i := .getfield 168) (n := 3) (by decide +kernel) rfl
theorem xX11_look_71 {d : Nat} {l0 l2 : Option Value} {x : Int32} {st : List Value} {h : Hp} : E (C d) MX11_look 71 [l0, some (.int x), l2] (st) h = E (C d) MX11_look 72 [l0, some (.int x), l2] (.int x :: st) h := E_go (i := .iload_n 1) (n := 1) (by decide +kernel) rfl
theorem xX11_look_72 {d : Nat} {ls : Lc} {a : Nat} {i : Int32} {st : List Value} {h : Hp} : E (C d) MX11_look 72 ls (.int i :: .ref a :: st) h = gd (hK h a == 14 && inb i (hN h a)) (E (C d) MX11_look 73 ls (.int (hI h a i.toNatClampNeg) :: st) h) := E_gd (i := .iaload) (n := 1) (by decide +kernel) rfl
theorem xX11_look_73 {d : Nat} {ls : Lc} {x : Int32} {h : Hp} : E (C d) MX11_look 73 ls ([.int x]) h = some (some (.int x), h) := E_ret (i := .ireturn) (n := 1) (by decide +kernel) rfl
theorem xX11_look_74 {d : Nat} {l1 l2 : Option Value} {x : Nat} {st : List Value} {h : Hp} : E (C d) MX11_look 74 [some (.ref x), l1, l2] (st) h = E (C d) MX11_look 75 [some (.ref x), l1, l2] (.ref x :: st) h := E_go (i := .aload_n 0) (n := 1) (by decide +kernel) rfl
theorem xX11_look_75 {d : Nat} {ls : Lc} {a : Nat} {st : List Value} {h : Hp} : E (C d) MX11_look 75 ls (.ref a :: st) h = gd (hK h a == 11) (E (C d) MX11_look 78 ls (va_rf (hF h a 5) :: st) h) := E_gd (i := .getfield 46) (n := 3) (by decide +kernel) rfl
theorem xX11_look_78 {d : Nat} {ls : Lc} {a : Nat} {st : List Value} {h : Hp} : E (C d) MX11_look 78 ls (.ref a :: st) h = gd (hK h a == 4) (E (C d) MX11_look 81 ls (va_rf (hF h a 7) :: st) h) := E_gd (i := .getfield 169) (n := 3) (by decide +kernel) rfl
theorem xX11_look_81 {d : Nat} {l0 l2 : Option Value} {x : Int32} {st : List Value} {h : Hp} : E (C d) MX11_look 81 [l0, some (.int x), l2] (st) h = E (C d) MX11_look 82 [l0, some (.int x), l2] (.int x :: st) h := E_go (i := .iload_n 1) (n := 1) (by decide +kernel) rfl
theorem xX11_look_82 {d : Nat} {ls : Lc} {a : Nat} {i : Int32} {st : List Value} {h : Hp} : E (C d) MX11_look 82 ls (.int i :: .ref a :: st) h = gd (hK h a == 14 && inb i (hN h a)) (E (C d) MX11_look 83 ls (.int (hI h a i.toNatClampNeg) :: st) h) := E_gd (i := .iaload) (n := 1) (by decide +kernel) rfl
theorem xX11_look_83 {d : Nat} {ls : Lc} {x : Int32} {h : Hp} : E (C d) MX11_look 83 ls ([.int x]) h = some (some (.int x), h) := E_ret (i := .ireturn) (n := 1) (by decide +kernel) rfl
theorem xX11_look_84 {d : Nat} {l1 l2 : Option Value} {x : Nat} {st : List Value} {h : Hp} : E (C d) MX11_look 84 [some (.ref x), l1, l2] (st) h = E (C d) MX11_look 85 [some (.ref x), l1, l2] (.ref x :: st) h := E_go (i := .aload_n 0) (n := 1) (by decide +kernel) rfl
theorem xX11_look_85 {d : Nat} {ls : Lc} {a : Nat} {st : List Value} {h : Hp} : E (C d) MX11_look 85 ls (.ref a :: st) h = gd (hK h a == 11) (E (C d) MX11_look 88 ls (va_rf (hF h a 5) :: st) h) := E_gd (i := .getfield 46) (n := 3) (by decide +kernel) rfl
theorem xX11_look_88 {d : Nat} {ls : Lc} {a : Nat} {st : List Value} {h : Hp} : E (C d) MX11_look 88 ls (.ref a :: st) h = gd (hK h a == 4) (E (C d) MX11_look 91 ls (va_rf (hF h a 8) :: st) h) := E_gd (i := .getfield 170) (n := 3) (by decide +kernel) rfl
theorem xX11_look_91 {d : Nat} {l0 l2 : Option Value} {x : Int32} {st : List Value} {h : Hp} : E (C d) MX11_look 91 [l0, some (.int x), l2] (st) h = E (C d) MX11_look 92 [l0, some (.int x), l2] (.int x :: st) h := E_go (i := .iload_n 1) (n := 1) (by decide +kernel) rfl
theorem xX11_look_92 {d : Nat} {ls : Lc} {a : Nat} {i : Int32} {st : List Value} {h : Hp} : E (C d) MX11_look 92 ls (.int i :: .ref a :: st) h = gd (hK h a == 14 && inb i (hN h a)) (E (C d) MX11_look 93 ls (.int (hI h a i.toNatClampNeg) :: st) h) := E_gd (i := .iaload) (n := 1) (by decide +kernel) rfl
theorem xX11_look_93 {d : Nat} {ls : Lc} {x : Int32} {h : Hp} : E (C d) MX11_look 93 ls ([.int x]) h = some (some (.int x), h) := E_ret (i := .ireturn) (n := 1) (by decide +kernel) rfl
theorem xX11_look_94 {d : Nat} {l1 l2 : Option Value} {x : Nat} {st : List Value} {h : Hp} : E (C d) MX11_look 94 [some (.ref x), l1, l2] (st) h = E (C d) MX11_look 95 [some (.ref x), l1, l2] (.ref x :: st) h := E_go (i := .aload_n 0) (n := 1) (by decide +kernel) rfl
theorem xX11_look_95 {d : Nat} {ls : Lc} {a : Nat} {st : List Value} {h : Hp} : E (C d) MX11_look 95 ls (.ref a :: st) h = gd (hK h a == 11) (E (C d) MX11_look 98 ls (va_rf (hF h a 5) :: st) h) := E_gd (i := .getfield 46) (n := 3) (by decide +kernel) rfl
theorem xX11_look_98 {d : Nat} {ls : Lc} {a : Nat} {st : List Value} {h : Hp} : E (C d) MX11_look 98 ls (.ref a :: st) h = gd (hK h a == 4) (E (C d) MX11_look 101 ls (va_rf (hF h a 9) :: st) h) := E_gd (i := .getfield 173) (n := 3) (by decide +kernel) rfl
theorem xX11_look_101 {d : Nat} {l0 l2 : Option Value} {x : Int32} {st : List Value} {h : Hp} : E (C d) MX11_look 101 [l0, some (.int x), l2] (st) h = E (C d) MX11_look 102 [l0, some (.int x), l2] (.int x :: st) h := E_go (i := .iload_n 1) (n := 1) (by decide +kernel) rfl
theorem xX11_look_102 {d : Nat} {ls : Lc} {a : Nat} {i : Int32} {st : List Value} {h : Hp} : E (C d) MX11_look 102 ls (.int i :: .ref a :: st) h = gd (hK h a == 14 && inb i (hN h a)) (E (C d) MX11_look 103 ls (.int (hI h a i.toNatClampNeg) :: st) h) := E_gd (i := .iaload) (n := 1) (by decide +kernel) rfl
theorem xX11_look_103 {d : Nat} {ls : Lc} {x : Int32} {h : Hp} : E (C d) MX11_look 103 ls ([.int x]) h = some (some (.int x), h) := E_ret (i := .ireturn) (n := 1) (by decide +kernel) rfl
theorem xX11_look_104 {d : Nat} {l1 l2 : Option Value} {x : Nat} {st : List Value} {h : Hp} : E (C d) MX11_look 104 [some (.ref x), l1, l2] (st) h = E (C d) MX11_look 105 [some (.ref x), l1, l2] (.ref x :: st) h := E_go (i := .aload_n 0) (n := 1) (by decide +kernel) rfl
theorem xX11_look_105 {d : Nat} {ls : Lc} {a : Nat} {st : List Value} {h : Hp} : E (C d) MX11_look 105 ls (.ref a :: st) h = gd (hK h a == 11) (E (C d) MX11_look 108 ls (va_rf (hF h a 5) :: st) h) := E_gd (i := .getfield 46) (n := 3) (by decide +kernel) rfl
theorem xX11_look_108 {d : Nat} {ls : Lc} {a : Nat} {st : List Value} {h : Hp} : E (C d) MX11_look 108 ls (.ref a :: st) h = gd (hK h a == 4) (E (C d) MX11_look 111 ls (va_rf (hF h a 11) :: st) h) := E_gd (i := .getfield 176) (n := 3) (by decide +kernel) rfl
theorem xX11_look_111 {d : Nat} {l0 l2 : Option Value} {x : Int32} {st : List Value} {h : Hp} : E (C d) MX11_look 111 [l0, some (.int x), l2] (st) h = E (C d) MX11_look 112 [l0, some (.int x), l2] (.int x :: st) h := E_go (i := .iload_n 1) (n := 1) (by decide +kernel) rfl
theorem xX11_look_112 {d : Nat} {ls : Lc} {a : Nat} {i : Int32} {st : List Value} {h : Hp} : E (C d) MX11_look 112 ls (.int i :: .ref a :: st) h = gd (hK h a == 14 && inb i (hN h a)) (E (C d) MX11_look 113 ls (.int (hI h a i.toNatClampNeg) :: st) h) := E_gd (i := .iaload) (n := 1) (by decide +kernel) rfl
theorem xX11_look_113 {d : Nat} {ls : Lc} {x : Int32} {h : Hp} : E (C d) MX11_look 113 ls ([.int x]) h = some (some (.int x), h) := E_ret (i := .ireturn) (n := 1) (by decide +kernel) rfl
theorem xX11_look_114 {d : Nat} {l1 l2 : Option Value} {x : Nat} {st : List Value} {h : Hp} : E (C d) MX11_look 114 [some (.ref x), l1, l2] (st) h = E (C d) MX11_look 115 [some (.ref x), l1, l2] (.ref x :: st) h := E_go (i := .aload_n 0) (n := 1) (by decide +kernel) rfl
theorem xX11_look_115 {d : Nat} {ls : Lc} {a : Nat} {st : List Value} {h : Hp} : E (C d) MX11_look 115 ls (.ref a :: st) h = gd (hK h a == 11) (E (C d) MX11_look 118 ls (va_rf (hF h a 5) :: st) h) := E_gd (i := .getfield 46) (n := 3) (by decide +kernel) rfl
theorem xX11_look_118 {d : Nat} {ls : Lc} {a : Nat} {st : List Value} {h : Hp} : E (C d) MX11_look 118 ls (.ref a :: st) h = gd (hK h a == 4) (E (C d) MX11_look 121 ls (va_rf (hF h a 12) :: st) h) := E_gd (i := .getfield 179) (n := 3) (by decide +kernel) rfl
theorem xX11_look_121 {d : Nat} {l0 l2 : Option Value} {x : Int32} {st : List Value} {h : Hp} : E (C d) MX11_look 121 [l0, some (.int x), l2] (st) h = E (C d) MX11_look 122 [l0, some (.int x), l2] (.int x :: st) h := E_go (i := .iload_n 1) (n := 1) (by decide +kernel) rfl
theorem xX11_look_122 {d : Nat} {ls : Lc} {a : Nat} {i : Int32} {st : List Value} {h : Hp} : E (C d) MX11_look 122 ls (.int i :: .ref a :: st) h = gd (hK h a == 14 && inb i (hN h a)) (E (C d) MX11_look 123 ls (.int (hI h a i.toNatClampNeg) :: st) h) := E_gd (i := .iaload) (n := 1) (by decide +kernel) rfl
theorem xX11_look_123 {d : Nat} {ls : Lc} {x : Int32} {h : Hp} : E (C d) MX11_look 123 ls ([.int x]) h = some (some (.int x), h) := E_ret (i := .ireturn) (n := 1) (by decide +kernel) rfl
theorem xX11_look_124 {d : Nat} {l1 l2 : Option Value} {x : Nat} {st : List Value} {h : Hp} : E (C d) MX11_look 124 [some (.ref x), l1, l2] (st) h = E (C d) MX11_look 125 [some (.ref x), l1, l2] (.ref x :: st) h := E_go (i := .aload_n 0) (n := 1) (by decide +kernel) rfl
theorem xX11_look_125 {d : Nat} {ls : Lc} {a : Nat} {st : List Value} {h : Hp} : E (C d) MX11_look 125 ls (.ref a :: st) h = gd (hK h a == 11) (E (C d) MX11_look 128 ls (va_rf (hF h a 5) :: st) h) := E_gd (i := .getfield 46) (n := 3) (by decide +kernel) rfl
theorem xX11_look_128 {d : Nat} {ls : Lc} {a : Nat} {st : List Value} {h : Hp} : E (C d) MX11_look 128 ls (.ref a :: st) h = gd (hK h a == 4) (E (C d) MX11_look 131 ls (va_rf (hF h a 13) :: st) h) := E_gd (i := .getfield 182) (n := 3) (by decide +kernel) rfl
theorem xX11_look_131 {d : Nat} {l0 l2 : Option Value} {x : Int32} {st : List Value} {h : Hp} : E (C d) MX11_look 131 [l0, some (.int x), l2] (st) h = E (C d) MX11_look 132 [l0, some (.int x), l2] (.int x :: st) h := E_go (i := .iload_n 1) (n := 1) (by decide +kernel) rfl
theorem xX11_look_132 {d : Nat} {ls : Lc} {a : Nat} {i : Int32} {st : List Value} {h : Hp} : E (C d) MX11_look 132 ls (.int i :: .ref a :: st) h = gd (hK h a == 14 && inb i (hN h a)) (E (C d) MX11_look 133 ls (.int (hI h a i.toNatClampNeg) :: st) h) := E_gd (i := .iaload) (n := 1) (by decide +kernel) rfl
theorem xX11_look_133 {d : Nat} {ls : Lc} {x : Int32} {h : Hp} : E (C d) MX11_look 133 ls ([.int x]) h = some (some (.int x), h) := E_ret (i := .ireturn) (n := 1) (by decide +kernel) rfl
theorem xX11_look_134 {d : Nat} {l1 l2 : Option Value} {x : Nat} {st : List Value} {h : Hp} : E (C d) MX11_look 134 [some (.ref x), l1, l2] (st) h = E (C d) MX11_look 135 [some (.ref x), l1, l2] (.ref x :: st) h := E_go (i := .aload_n 0) (n := 1) (by decide +kernel) rfl
theorem xX11_look_135 {d : Nat} {ls : Lc} {a : Nat} {st : List Value} {h : Hp} : E (C d) MX11_look 135 ls (.ref a :: st) h = gd (hK h a == 11) (E (C d) MX11_look 138 ls (va_rf (hF h a 5) :: st) h) := E_gd (i := .getfield 46) (n := 3) (by decide +kernel) rfl
theorem xX11_look_138 {d : Nat} {ls : Lc} {a : Nat} {st : List Value} {h : Hp} : E (C d) MX11_look 138 ls (.ref a :: st) h = gd (hK h a == 4) (E (C d) MX11_look 141 ls (va_rf (hF h a 14) :: st) h) := E_gd (i := .getfield 185) (n := 3) (by decide +kernel) rfl
theorem xX11_look_141 {d : Nat} {l0 l2 : Option Value} {x : Int32} {st : List Value} {h : Hp} : E (C d) MX11_look 141 [l0, some (.int x), l2] (st) h = E (C d) MX11_look 142 [l0, some (.int x), l2] (.int x :: st) h := E_go (i := .iload_n 1) (n := 1) (by decide +kernel) rfl
theorem xX11_look_142 {d : Nat} {ls : Lc} {a : Nat} {i : Int32} {st : List Value} {h : Hp} : E (C d) MX11_look 142 ls (.int i :: .ref a :: st) h = gd (hK h a == 14 && inb i (hN h a)) (E (C d) MX11_look 143 ls (.int (hI h a i.toNatClampNeg) :: st) h) := E_gd (i := .iaload) (n := 1) (by decide +kernel) rfl
theorem xX11_look_143 {d : Nat} {ls : Lc} {x : Int32} {h : Hp} : E (C d) MX11_look 143 ls ([.int x]) h = some (some (.int x), h) := E_ret (i := .ireturn) (n := 1) (by decide +kernel) rfl

-- TOKENS: its constructor, 2: the loops
def lsT (a t : Nat) (w : Int32) (x3 x4 x5 x6 : Option Value) : Lc := [some (.ref a), some (.ref t), some (.int w), x3, x4, x5, x6]
def pkS (pk ch : Int32) : Int32 := (pk <<< (Int32.ofInt 5 &&& 31)) ||| (if ch = 32 then 0 else ch - 97 + 1)
def pkA (w : Nat) : Nat → Int32
  | 0 => 0
  | i + 1 => pkS (pkA w i) (lngB.getD (w * 6 + i) 0)
theorem pkA_6 : ∀ w, w < 21 → pkA w 6 = nI (lngL.getD w 0) := by decide +kernel
theorem b6 : (Int8.ofInt 6).toInt32 = nI 6 := by decide
theorem b21 : (Int8.ofInt 21).toInt32 = nI 21 := by decide
theorem b32 : (Int8.ofInt 32).toInt32 = 32 := by decide
theorem b97 : (Int8.ofInt 97).toInt32 = 97 := by decide
theorem o1 : Int32.ofInt 1 = 1 := by decide
theorem o0 : Int32.ofInt 0 = 0 := by decide
theorem cge_n {i n : Nat} (hi : i < n) (hn : n < 2 ^ 31) : ¬ cmpI .ge (nI i) (nI n) = true := fun q => nI_ge hi hn (of_decide_eq_true q)
theorem cge_y {n : Nat} : cmpI .ge (nI n) (nI n) = true := decide_eq_true (Int32.le_refl _)
section TOK2
variable {l : Launch} {d t0 s0 mc ms b a t : Nat} {r : Rs} {h : Hp}
theorem g_tail {w pk v i : Int32} {x5 x6 : Option Value} (k : GW l (d + 4) t0 s0 mc ms b M10 r 30 (lsT a t w (some (.int (pk ||| v))) (some (.int (i + 1))) x5 x6) [] h) : GW l (d + 4) t0 s0 mc ms b M10 r 91 (lsT a t w (some (.int 0)) (some (.int i)) x5 x6) [.int v, .int pk] h := by
  refine g_ior d10_91 ?_
  refine g_istore_n d10_92 (by decide : 3 < 7) ?_
  refine g_iinc (x := i) d10_93 rfl (by decide : 4 < 7) ?_
  rw [o1]
  refine g_goto d10_96 (by decide) ?_
  exact k
end TOK2

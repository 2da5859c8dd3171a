-- THE LAW: what holds between its turns, and every pair by it
def lInv (I : Mem) (R : MemR) : Prop := ∃ t t' n nb nm fL lL fG lG st, cAll I R t t' n nb nm fL lL fG lG st ∧ cOrd I t lL lG n ∧ cLst I t lL lG n nb
def prP (Mc Mm : Mth) (as : List Value) (I : Mem) (J : MemL) (R : MemR) : Prop := ∃ v I1 J1 R1 I2 J2, C 11 Mc (.ref 0 :: as) (hp I J R) = some (some (.int v), hp I1 J1 R1) ∧ C 11 Mm (.ref 123 :: as) (hp I1 J1 R1) = some (some (.int v), hp I2 J2 R1) ∧ lInv I2 R1
section LP
variable {Mc Mm : Mth} {as : List Value} {I : Mem} {J : MemL} {R : MemR} {t t' n nb nm fL lL fG lG st : Nat}
theorem chgP.pr (h : cAll I R t t' n nb nm fL lL fG lG st) (ho : cOrd I t lL lG n) (hl : cLst I t lL lG n nb) (q : chgP Mc Mm as I J R t t' n nb nm fL lL fG lG) : prP Mc Mm as I J R := by
  obtain ⟨v, I1, J1, R1, I2, J2, st', h1, h2, h3, h4⟩ := q
  refine ⟨v, I1, J1, R1, I2, J2, h1, h2, t, t', n, nb, nm, fL, lL, fG, lG, st', h3, ?_, ?_⟩
  · rcases h4 with ⟨-, q⟩ | ⟨q1, q2, q3, q4, q5, q6, q7⟩
    · exact Or.inl q
    · exact cOrd_fr ho h.te q1 q2 q3 q6 q7
  · rcases h4 with ⟨q, -⟩ | ⟨q1, q2, q3, q4, q5, q6, q7⟩
    · exact Or.inl q
    · exact cLst_fr hl h.te q1 q2 q3 q4 q5
theorem askP.pr (h : cAll I R t t' n nb nm fL lL fG lG st) (ho : cOrd I t lL lG n) (hl : cLst I t lL lG n nb) (q : askP Mc Mm as I J R) : prP Mc Mm as I J R := chgP.pr h ho hl (askP.chg h q)
theorem ordP.pr (h : cAll I R t t' n nb nm fL lL fG lG st) (hl : cLst I t lL lG n nb) (q : ordP Mc Mm as I J R t t' n nb nm fL lL fG lG st) : prP Mc Mm as I J R := by
  obtain ⟨v, I1, J1, R1, I2, J2, h1, h2, h3, h4, q1, q2, q3, q4, q5⟩ := q
  exact ⟨v, I1, J1, R1, I2, J2, h1, h2, t, t', n, nb, nm, fL, lL, fG, lG, st, h3, h4, cLst_fr hl h.te q1 q2 q3 q4 q5⟩
theorem leaP.pr (h : cAll I R t t' n nb nm fL lL fG lG st) (ho : cOrd I t lL lG n) (q : leaP Mc Mm as I J R t t' n nb nm fL lL fG lG st) : prP Mc Mm as I J R := by
  obtain ⟨v, I1, J1, R1, I2, J2, h1, h2, h3, h4, q1, q2, q3, q4, q5⟩ := q
  exact ⟨v, I1, J1, R1, I2, J2, h1, h2, t, t', n, nb, nm, fL, lL, fG, lG, st, h3, cOrd_fr ho h.te q1 q2 q3 q4 q5, h4⟩
end LP
section LPS
variable {I : Mem} {J : MemL} {R : MemR}
theorem pr_text (q : lInv I R) {x : Int32} : prP MX11_text MX12_text [.int x] I J R := by
  obtain ⟨t, t', n, nb, nm, fL, lL, fG, lG, st, h, ho, hl⟩ := q
  obtain ⟨v, I1, J1, R1, I2, J2, h1, h2, h3 | ⟨n, nb, nm, fL, lL, fG, lG, h3, h4, h5⟩⟩ := text_p (J := J) h (x := x)
  · exact chgP.pr h ho hl ⟨v, I1, J1, R1, I2, J2, st, h1, h2, h3⟩
  · exact ⟨v, I1, J1, R1, I2, J2, h1, h2, t', t, n, nb, nm, fL, lL, fG, lG, 0, h3, Or.inl h5, Or.inl h4⟩
theorem pr_fault (q : lInv I R) {x : Int32} : prP MX11_fault MX12_fault [.int x] I J R := by
  obtain ⟨t, t', n, nb, nm, fL, lL, fG, lG, st, h, ho, hl⟩ := q
  exact askP.pr h ho hl (fault_p h)
theorem pr_named (q : lInv I R) {x y : Int32} : prP MX11_named MX12_named [.int x, .int y] I J R := by
  obtain ⟨t, t', n, nb, nm, fL, lL, fG, lG, st, h, ho, hl⟩ := q
  exact askP.pr h ho hl (named_p h)
theorem pr_reach (q : lInv I R) {x y : Int32} : prP MX11_reach MX12_reach [.int x, .int y] I J R := by
  obtain ⟨t, t', n, nb, nm, fL, lL, fG, lG, st, h, ho, hl⟩ := q
  exact askP.pr h ho hl (reach_p h)
theorem pr_apart (q : lInv I R) {x y : Int32} : prP MX11_apart MX12_apart [.int x, .int y] I J R := by
  obtain ⟨t, t', n, nb, nm, fL, lL, fG, lG, st, h, ho, hl⟩ := q
  exact askP.pr h ho hl (apart_p h)
theorem pr_was (q : lInv I R) {x y : Int32} : prP MX11_was MX12_was [.int x, .int y] I J R := by
  obtain ⟨t, t', n, nb, nm, fL, lL, fG, lG, st, h, ho, hl⟩ := q
  exact askP.pr h ho hl (was_p h)
theorem pr_pull (q : lInv I R) {x : Int32} : prP MX11_pull MX12_pull [.int x] I J R := by
  obtain ⟨t, t', n, nb, nm, fL, lL, fG, lG, st, h, ho, hl⟩ := q
  exact askP.pr h ho hl (pull_p h)
theorem pr_stroke (q : lInv I R) {x y : Int32} : prP MX11_stroke MX12_stroke [.int x, .int y] I J R := by
  obtain ⟨t, t', n, nb, nm, fL, lL, fG, lG, st, h, ho, hl⟩ := q
  exact askP.pr h ho hl (stroke_p h)
theorem pr_since (q : lInv I R) {x y z w : Int32} : prP MX11_since MX12_since [.int x, .int y, .int z, .int w] I J R := by
  obtain ⟨t, t', n, nb, nm, fL, lL, fG, lG, st, h, ho, hl⟩ := q
  exact askP.pr h ho hl (since_p h)
theorem pr_falls (q : lInv I R) : prP MX11_falls MX12_falls [] I J R := by
  obtain ⟨t, t', n, nb, nm, fL, lL, fG, lG, st, h, ho, hl⟩ := q
  exact askP.pr h ho hl (falls_p h)
theorem pr_fall (q : lInv I R) {x : Int32} : prP MX11_fall MX12_fall [.int x] I J R := by
  obtain ⟨t, t', n, nb, nm, fL, lL, fG, lG, st, h, ho, hl⟩ := q
  exact askP.pr h ho hl (fall_p h)
theorem pr_group (q : lInv I R) {x y : Int32} : prP MX11_group MX12_group [.int x, .int y] I J R := by
  obtain ⟨t, t', n, nb, nm, fL, lL, fG, lG, st, h, ho, hl⟩ := q
  exact askP.pr h ho hl (group_p h)
theorem pr_groups (q : lInv I R) {x : Int32} : prP MX11_groups MX12_groups [.int x] I J R := by
  obtain ⟨t, t', n, nb, nm, fL, lL, fG, lG, st, h, ho, hl⟩ := q
  exact askP.pr h ho hl (groups_p h)
theorem pr_count (q : lInv I R) {x : Int32} : prP MX11_count MX12_count [.int x] I J R := by
  obtain ⟨t, t', n, nb, nm, fL, lL, fG, lG, st, h, ho, hl⟩ := q
  exact askP.pr h ho hl (count_p h)
theorem pr_run (q : lInv I R) {x y z : Int32} : prP MX11_run MX12_run [.int x, .int y, .int z] I J R := by
  obtain ⟨t, t', n, nb, nm, fL, lL, fG, lG, st, h, ho, hl⟩ := q
  exact askP.pr h ho hl (run_p h)
theorem pr_due (q : lInv I R) {x y : Int32} : prP MX11_due MX12_due [.int x, .int y] I J R := by
  obtain ⟨t, t', n, nb, nm, fL, lL, fG, lG, st, h, ho, hl⟩ := q
  exact askP.pr h ho hl (due_p h)
theorem pr_gain (q : lInv I R) {x y z : Int32} : prP MX11_gain MX12_gain [.int x, .int y, .int z] I J R := by
  obtain ⟨t, t', n, nb, nm, fL, lL, fG, lG, st, h, ho, hl⟩ := q
  exact askP.pr h ho hl (gain_p h)
theorem pr_own (q : lInv I R) {x y : Int32} : prP MX11_own MX12_own [.int x, .int y] I J R := by
  obtain ⟨t, t', n, nb, nm, fL, lL, fG, lG, st, h, ho, hl⟩ := q
  exact askP.pr h ho hl (own_p h)
theorem pr_mend (q : lInv I R) {x y z : Int32} : prP MX11_mend MX12_mend [.int x, .int y, .int z] I J R := by
  obtain ⟨t, t', n, nb, nm, fL, lL, fG, lG, st, h, ho, hl⟩ := q
  exact askP.pr h ho hl (mend_p h)
theorem pr_tried (q : lInv I R) {x y z w : Int32} : prP MX11_tried MX12_tried [.int x, .int y, .int z, .int w] I J R := by
  obtain ⟨t, t', n, nb, nm, fL, lL, fG, lG, st, h, ho, hl⟩ := q
  exact askP.pr h ho hl (tried_p h)
theorem pr_chance (q : lInv I R) {x y z : Int32} : prP MX11_chance MX12_chance [.int x, .int y, .int z] I J R := by
  obtain ⟨t, t', n, nb, nm, fL, lL, fG, lG, st, h, ho, hl⟩ := q
  exact askP.pr h ho hl (chance_p h)
theorem pr_heard (q : lInv I R) {x y z : Int32} : prP MX11_heard MX12_heard [.int x, .int y, .int z] I J R := by
  obtain ⟨t, t', n, nb, nm, fL, lL, fG, lG, st, h, ho, hl⟩ := q
  exact chgP.pr h ho hl (heard_p h)
theorem pr_strike (q : lInv I R) {x : Int32} : prP MX11_strike MX12_strike [.int x] I J R := by
  obtain ⟨t, t', n, nb, nm, fL, lL, fG, lG, st, h, ho, hl⟩ := q
  exact chgP.pr h ho hl (strike_p h)
theorem pr_known (q : lInv I R) {x : Int32} : prP MX11_known MX12_known [.int x] I J R := by
  obtain ⟨t, t', n, nb, nm, fL, lL, fG, lG, st, h, ho, hl⟩ := q
  exact chgP.pr h ho hl (known_p h)
theorem pr_stop (q : lInv I R) {x : Int32} : prP MX11_stop MX12_stop [.int x] I J R := by
  obtain ⟨t, t', n, nb, nm, fL, lL, fG, lG, st, h, ho, hl⟩ := q
  exact chgP.pr h ho hl (stop_p h)
theorem pr_hang (q : lInv I R) {x y z : Int32} : prP MX11_hang MX12_hang [.int x, .int y, .int z] I J R := by
  obtain ⟨t, t', n, nb, nm, fL, lL, fG, lG, st, h, ho, hl⟩ := q
  exact chgP.pr h ho hl (hang_p h)
theorem pr_undo (q : lInv I R) : prP MX11_undo MX12_undo [] I J R := by
  obtain ⟨t, t', n, nb, nm, fL, lL, fG, lG, st, h, ho, hl⟩ := q
  exact chgP.pr h ho hl (undo_p h)
theorem pr_keep (q : lInv I R) : prP MX11_keep MX12_keep [] I J R := by
  obtain ⟨t, t', n, nb, nm, fL, lL, fG, lG, st, h, ho, hl⟩ := q
  exact chgP.pr h ho hl (keep_p h)
theorem pr_back (q : lInv I R) : prP MX11_back MX12_back [] I J R := by
  obtain ⟨t, t', n, nb, nm, fL, lL, fG, lG, st, h, ho, hl⟩ := q
  exact chgP.pr h ho hl (back_p h)
theorem pr_feed (q : lInv I R) {x y z w v : Int32} : prP MX11_feed MX12_feed [.int x, .int y, .int z, .int w, .int v] I J R := by
  obtain ⟨t, t', n, nb, nm, fL, lL, fG, lG, st, h, ho, hl⟩ := q
  exact chgP.pr h ho hl (feed_p h)
theorem pr_steps (q : lInv I R) {x : Int32} : prP MX11_steps MX12_steps [.int x] I J R := by
  obtain ⟨t, t', n, nb, nm, fL, lL, fG, lG, st, h, ho, hl⟩ := q
  exact chgP.pr h ho hl (steps_p h)
theorem pr_fits (q : lInv I R) : prP MX11_fits MX12_fits [] I J R := by
  obtain ⟨t, t', n, nb, nm, fL, lL, fG, lG, st, h, ho, hl⟩ := q
  exact chgP.pr h ho hl (fits_p h)
theorem pr_order (q : lInv I R) {x y z w : Int32} : prP MX11_order MX12_order [.int x, .int y, .int z, .int w] I J R := by
  obtain ⟨t, t', n, nb, nm, fL, lL, fG, lG, st, h, ho, hl⟩ := q
  exact ordP.pr h hl (order_p h ho)
theorem pr_least (q : lInv I R) {x y z w : Int32} : prP MX11_least MX12_least [.int x, .int y, .int z, .int w] I J R := by
  obtain ⟨t, t', n, nb, nm, fL, lL, fG, lG, st, h, ho, hl⟩ := q
  exact leaP.pr h ho (least_p h hl)
end LPS

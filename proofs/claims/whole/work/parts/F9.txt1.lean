-- TEXT, 36: what the class comes to, whatever the model's memory
section TQ
variable {X : Mem} {J : MemL} {R : MemR} {L s : Nat} {u : Nat → Nat}
theorem hp_in {I I' : Mem} {J J' : MemL} {R R' : MemR} {a b : Option Value} (h : some (a, hp I J R) = some (b, hp I' J' R')) : a = b ∧ I = I' := by
  unfold hp at h
  simp only [Option.some.injEq, Prod.mk.injEq, true_and] at h
  exact ⟨h.1, h.2.1⟩
/-- the model's memory, ready to read -/
def rdY (Y : Mem) (L : Nat) (u : Nat → Nat) : Prop := (∀ k, k < L → Y 124 k = nI (u k)) ∧ (∀ k, k < 107 → Y 125 k = nI (wrdL.getD k 0)) ∧ Y 123 6 = nI L ∧ Y 123 7 = 0 ∧ Y 123 4 = 0 ∧ Y 123 5 = -1
theorem rds_q {d : Nat} (ht : isTe s) (hL : L ≤ 700) (hu : ∀ k, k < L → X 1 k = bq (u k) ∧ u k < 256) (hlg : ∀ k, k < 21 → X 58 k = nI (lngL.getD k 0)) :
    (∃ X', C (d + 8) MX7_reads [.ref 56, .ref s, .int (nI L)] (hp X J R) = some (some (.int 0), hp X' J (va_up R 56 (va_up (R 56) 1 (some s)))) ∧ fC s X X' ∧ ∀ (Y : Mem) (J2 : MemL) (R2 : MemR) (x1 : Int32), rdY Y L u → ∃ Y', E (C (d + 7)) MX12_text 45 [some (.ref 123), some (.int x1), none] [] (hp Y J2 R2) = some (some (.int (-1)), hp Y' J2 R2) ∧ faR X' Y' ∧ fM Y Y') ∨
    (∃ X', C (d + 8) MX7_reads [.ref 56, .ref s, .int (nI L)] (hp X J R) = some (some (.int 1), hp X' J (va_up R 56 (va_up (R 56) 1 (some s)))) ∧ fC s X X' ∧ ∀ (Y : Mem) (J2 : MemL) (R2 : MemR) (x1 : Int32), rdY Y L u → ∃ Y' b n m fL lL fG lG k, E (C (d + 7)) MX12_text 45 [some (.ref 123), some (.int x1), none] [] (hp Y J2 R2) = E (C (d + 7)) MX12_text 77 [some (.ref 123), some (.int x1), some (.int (nI k))] [] (hp Y' J2 R2) ∧ rdR X' Y' s b n m fL lL fG lG ∧ X' 56 4 = nI k ∧ faR X' Y' ∧ fM Y Y') := by
  have key : ∀ (Y : Mem) (J2 : MemL) (R2 : MemR) (x1 : Int32), rdY Y L u → _ := fun Y J2 R2 x1 hy => rds_p (d := d) (X := X) (Y := Y) (J := J) (J2 := J2) (R := R) (R2 := R2) (x1 := x1) (u := u) (L := L) ht ⟨hL, fun k hk => ⟨(hu k hk).1, hy.1 k hk, (hu k hk).2⟩⟩ hlg hy.2.1 hy.2.2.1 hy.2.2.2.1 hy.2.2.2.2.1 hy.2.2.2.2.2
  generalize hY0 : (fun a => if a = 123 then (fun k => if k = 6 then nI L else if k = 5 then -1 else 0) else if a = 124 then (fun k => nI (u k)) else if a = 125 then (fun k => nI (wrdL.getD k 0)) else fun _ => 0 : Mem) = Y0
  have hy0 : rdY Y0 L u := by
    rw [← hY0]
    exact ⟨fun k _ => rfl, fun k _ => rfl, rfl, rfl, rfl, rfl⟩
  rcases key Y0 (fun _ _ => 0) R 0 hy0 with ⟨X', -, e, -, -, fc, -⟩ | ⟨X', -, b, n, m, fL, lL, fG, lG, k, e, -, -, -, -, fc, -⟩
  · refine Or.inl ⟨X', e, fc, fun Y J2 R2 x1 hy => ?_⟩
    rcases key Y J2 R2 x1 hy with ⟨X2, Y', e2, g, f, -, fm⟩ | ⟨X2, Y', b, n, m, fL, lL, fG, lG, k, e2, -⟩
    · obtain ⟨-, rfl⟩ := hp_in (e.symm.trans e2)
      exact ⟨Y', g, f, fm⟩
    · obtain ⟨q, -⟩ := hp_in (e.symm.trans e2)
      exact absurd q (by decide)
  · refine Or.inr ⟨X', e, fc, fun Y J2 R2 x1 hy => ?_⟩
    rcases key Y J2 R2 x1 hy with ⟨X2, Y', e2, -⟩ | ⟨X2, Y', b, n, m, fL, lL, fG, lG, k, e2, g, hr, h4, f, -, fm⟩
    · obtain ⟨q, -⟩ := hp_in (e.symm.trans e2)
      exact absurd q (by decide)
    · obtain ⟨-, rfl⟩ := hp_in (e.symm.trans e2)
      exact ⟨Y', b, n, m, fL, lL, fG, lG, k, g, hr, h4, f, fm⟩
end TQ
section TF
variable {I I' : Mem} {t n nb nm fL lL fG lG : Nat}
theorem cTxt_fh (h : cTxt I t n nb nm) (e1 : ∀ a, t ≤ a → a < t + 19 → I' a = I a) (e2 : ∀ a k, 126 ≤ a → a ≤ 140 → k < hfM a → I' a k = I a k) (f : ∀ k, 12 ≤ k → k ≤ 16 → I' 123 k = I 123 k) : cTxt I' t n nb nm := by
  obtain ⟨⟨a1, a2, a3⟩, ⟨b1, b2, b3⟩, ⟨c1, c2, c3⟩, h4, h5, h6, h7, h8, h9⟩ := h
  refine ⟨⟨by rw [e1 _ (by omega) (by omega)]; exact a1, by rw [f _ (by omega) (by omega)]; exact a2, a3⟩, ⟨by rw [e1 _ (by omega) (by omega)]; exact b1, by rw [f _ (by omega) (by omega)]; exact b2, b3⟩, ⟨by rw [e1 _ (by omega) (by omega)]; exact c1, by rw [f _ (by omega) (by omega)]; exact c2, c3⟩, fun i hi => ?_, fun i hi => ?_, fun i hi => ?_, fun i h1 h2 => ?_, ?_, fun m hm => ⟨?_, fun c hc => ?_⟩⟩
  · rw [e1 (t + 2) (by omega) (by omega), e1 (t + 3) (by omega) (by omega), e1 (t + 4) (by omega) (by omega), e2 126 i (by omega) (by omega) (show i < 3 by omega), e2 127 i (by omega) (by omega) (show i < 3 by omega), e2 128 i (by omega) (by omega) (show i < 3 by omega)]; exact h4 i hi
  · rw [e1 (t + 6) (by omega) (by omega), e1 (t + 7) (by omega) (by omega), e1 (t + 8) (by omega) (by omega), e1 (t + 9) (by omega) (by omega), e1 (t + 10) (by omega) (by omega), e1 (t + 11) (by omega) (by omega), e1 (t + 12) (by omega) (by omega), e1 (t + 13) (by omega) (by omega), e1 (t + 14) (by omega) (by omega), e2 129 i (by omega) (by omega) (show i < 6 by omega), e2 130 i (by omega) (by omega) (show i < 6 by omega), e2 131 i (by omega) (by omega) (show i < 6 by omega), e2 132 i (by omega) (by omega) (show i < 6 by omega), e2 133 i (by omega) (by omega) (show i < 6 by omega), e2 134 i (by omega) (by omega) (show i < 6 by omega), e2 135 i (by omega) (by omega) (show i < 6 by omega), e2 136 i (by omega) (by omega) (show i < 6 by omega), e2 137 i (by omega) (by omega) (show i < 6 by omega)]; exact h5 i hi
  · rw [e2 130 i (by omega) (by omega) (show i < 6 by omega), e2 131 i (by omega) (by omega) (show i < 6 by omega), e2 132 i (by omega) (by omega) (show i < 6 by omega), e2 133 i (by omega) (by omega) (show i < 6 by omega), e2 134 i (by omega) (by omega) (show i < 6 by omega), e2 135 i (by omega) (by omega) (show i < 6 by omega), e2 136 i (by omega) (by omega) (show i < 6 by omega), e2 137 i (by omega) (by omega) (show i < 6 by omega)]; exact h6 i hi
  · rw [e1 _ (by omega) (by omega)]; exact h7 i h1 h2
  · rw [e1 t (by omega) (by omega), f 16 (by omega) (by omega)]; exact h8
  · rw [e1 _ (by omega) (by omega), e2 138 m (by omega) (by omega) (show m < 4 by omega)]; exact (h9 m hm).1
  · rw [e1 (t + 17) (by omega) (by omega), e1 (t + 18) (by omega) (by omega), e2 139 (m * 6 + c) (by omega) (by omega) (show m * 6 + c < 24 by omega), e2 140 (m * 6 + c) (by omega) (by omega) (show m * 6 + c < 24 by omega)]; exact (h9 m hm).2 c hc
theorem cLws_fh (h : cLws I t fL lL fG lG) (e1 : ∀ a, t + 19 ≤ a → a < t + 27 → I' a = I a) (e2 : ∀ a k, 141 ≤ a → a ≤ 146 → k < hfM a → I' a k = I a k) : cLws I' t fL lL fG lG := by
  obtain ⟨a1, a2, a3, a4, b1, b2, b3, b4⟩ := h
  have hc : ∀ {ki nu : Nat → Int32} {f l : Nat}, cLaw ki nu (I 144) (I 145) (I 146) f l → cLaw ki nu (I' 144) (I' 145) (I' 146) f l := fun {ki nu f l} q => cLaw_cg (fun _ _ => rfl) (fun _ _ => rfl) (fun j hj => by
    have := q.2.1
    exact ⟨(e2 144 j (by omega) (by omega) (show j < 64 by omega)).symm, (e2 145 j (by omega) (by omega) (show j < 64 by omega)).symm, (e2 146 j (by omega) (by omega) (show j < 64 by omega)).symm⟩) q
  have k : ∀ a j, a = 141 ∨ a = 142 ∨ a = 143 → j < 2 → I' a j = I a j := by
    rintro a j (rfl | rfl | rfl) hj
    · exact e2 141 j (by omega) (by omega) hj
    · exact e2 142 j (by omega) (by omega) hj
    · exact e2 143 j (by omega) (by omega) hj
  unfold cLws
  rw [e1 (t + 19) (by omega) (by omega), e1 (t + 20) (by omega) (by omega), e1 (t + 21) (by omega) (by omega), e1 (t + 23) (by omega) (by omega), e1 (t + 24) (by omega) (by omega), e1 (t + 25) (by omega) (by omega), k 141 0 (by omega) (by omega), k 141 1 (by omega) (by omega), k 142 0 (by omega) (by omega), k 142 1 (by omega) (by omega), k 143 0 (by omega) (by omega), k 143 1 (by omega) (by omega)]
  exact ⟨a1, a2, a3, a4.imp id (fun q => ⟨hc q.1, q.2⟩), b1, b2, b3, b4.imp id (fun q => ⟨hc q.1, q.2⟩)⟩
end TF

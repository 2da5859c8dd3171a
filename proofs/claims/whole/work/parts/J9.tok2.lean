-- TOKENS: its constructor, 2: the loops
def lsT (a t : Nat) (w : Int32) (x3 x4 x5 x6 : Option Value) : Lc := [some (.ref a), some (.ref t), some (.int w), x3, x4, x5, x6]
def pkS (pk ch : Int32) : Int32 := (pk <<< (Int32.ofInt 5 &&& 31)) ||| (if ch = 32 then 0 else ch - 97 + 1)
def pkA (w : Nat) : Nat → Int32
  | 0 => 0
  | i + 1 => pkS (pkA w i) (lngB.getD (w * 6 + i) 0)
theorem pkA_6 : ∀ w, w < 21 → pkA w 6 = nI (lngL.getD w 0) := by decide +kernel
theorem tb6 : (Int8.ofInt 6).toInt32 = nI 6 := by decide
theorem tb126 : (126 : Int32) = nI 126 := by decide
theorem tb21 : (Int8.ofInt 21).toInt32 = nI 21 := by decide
theorem tb32 : (Int8.ofInt 32).toInt32 = 32 := by decide
theorem tb97 : (Int8.ofInt 97).toInt32 = 97 := by decide
theorem to1 : Int32.ofInt 1 = 1 := by decide
theorem to0 : Int32.ofInt 0 = 0 := by decide
theorem cge_n {i n : Nat} (hi : i < n) (hn : n < 2 ^ 31) : ¬ cmpI .ge (nI i) (nI n) = true := fun q => nI_ge hi hn (of_decide_eq_true q)
theorem cge_y {n : Nat} : cmpI .ge (nI n) (nI n) = true := decide_eq_true (Int32.le_refl _)
theorem ix_eq {w i : Nat} : nI w * nI 6 + nI i = nI (w * 6 + i) := by
  rw [← nI_add]
  congr 1
  exact (Int32.ofNat_mul w 6).symm
section TOK2
variable {l : Launch} {d t0 s0 mc ms b a t : Nat} {r : Rs} {h : Hp}
theorem g_tail {w pk v i : Int32} {x3 x5 x6 : Option Value} (k : GW l (d + 4) t0 s0 mc ms b M10 r 30 (lsT a t w (some (.int (pk ||| v))) (some (.int (i + 1))) x5 x6) [] h) : GW l (d + 4) t0 s0 mc ms b M10 r 91 (lsT a t w x3 (some (.int i)) x5 x6) [.int v, .int pk] h := by
  refine g_ior d10_91 ?_
  refine g_istore_n d10_92 (by decide : 3 < 7) ?_
  refine g_iinc (x := i) d10_93 rfl (by decide : 4 < 7) ?_
  rw [to1]
  refine g_goto d10_96 (by decide) ?_
  exact k
/-- a letter -/
theorem g_let {w i : Nat} {pk : Int32} {x5 x6 : Option Value} (hw : w < 21) (hi : i < 6) (hm : hTop h ≤ t0 + mc) (hs : hSl h ≤ s0 + ms) (k : ∀ y5 y6, GW l (d + 4) t0 s0 mc ms b M10 r 30 (lsT a t (nI w) (some (.int (pkS pk (lngB.getD (w * 6 + i) 0)))) (some (.int (nI (i + 1)))) y5 y6) [] h) : GW l (d + 4) t0 s0 mc ms b M10 r 30 (lsT a t (nI w) (some (.int pk)) (some (.int (nI i))) x5 x6) [] h := by
  refine g_iload (x := nI i) d10_30 rfl ?_
  refine g_bipush d10_32 ?_
  rw [tb6]
  refine g_icmp_ge d10_34 (by decide) ?_
  rw [if_neg (cge_n hi (by omega))]
  refine g_iload_n (x := nI w) d10_37 rfl ?_
  refine g_bipush d10_38 ?_
  rw [tb6]
  refine g_imul d10_40 ?_
  refine g_iload (x := nI i) d10_41 rfl ?_
  refine g_iadd d10_43 ?_
  rw [ix_eq]
  refine g_istore d10_44 (by decide : 5 < 7) ?_
  show GW l (d + 4) t0 s0 mc ms b M10 r 46 (lsT a t (nI w) (some (.int pk)) (some (.int (nI i))) (some (.int (nI (w * 6 + i)))) x6) [] h
  refine g_iload (x := nI (w * 6 + i)) d10_46 rfl ?_
  refine g_len48 hm hs rfl ?_
  rw [tb126]
  refine g_icmp_ge d10_53 (by decide) ?_
  rw [if_neg (cge_n (n := 126) (by omega) (by omega))]
  refine g_chr56 (k := w * 6 + i) (by omega) rfl hm hs rfl ?_
  generalize hch : lngB.getD (w * 6 + i) 0 = ch at k ⊢
  refine g_goto d10_63 (by decide) ?_
  refine g_istore (pc := 68) d10_68 (by decide : 6 < 7) ?_
  show GW l (d + 4) t0 s0 mc ms b M10 r 70 (lsT a t (nI w) (some (.int pk)) (some (.int (nI i))) (some (.int (nI (w * 6 + i)))) (some (.int ch))) [] h
  refine g_iload_n (x := pk) d10_70 rfl ?_
  refine g_iconst d10_71 ?_
  refine g_ishl d10_72 ?_
  refine g_iload (x := ch) d10_73 rfl ?_
  refine g_bipush d10_75 ?_
  rw [tb32]
  refine g_icmp_ne d10_77 (by decide) ?_
  by_cases hc : ch = 32
  · rw [if_neg (show ¬ cmpI .ne ch 32 = true from fun q => of_decide_eq_true q hc)]
    refine g_iconst d10_80 ?_
    rw [to0]
    refine g_goto d10_81 (by decide) ?_
    refine g_tail (v := 0) (i := nI i) ?_
    have h1 := k (some (.int (nI (w * 6 + i)))) (some (.int ch))
    unfold pkS at h1
    rw [if_pos hc, nI_succ] at h1
    exact h1
  · rw [if_pos (show cmpI .ne ch 32 = true from decide_eq_true hc)]
    refine g_iload (pc := 84) (x := ch) d10_84 rfl ?_
    refine g_bipush d10_86 ?_
    rw [tb97]
    refine g_isub d10_88 ?_
    refine g_iconst d10_89 ?_
    rw [to1]
    refine g_iadd d10_90 ?_
    refine g_tail (v := ch - 97 + 1) (i := nI i) ?_
    have h1 := k (some (.int (nI (w * 6 + i)))) (some (.int ch))
    unfold pkS at h1
    rw [if_neg hc, nI_succ] at h1
    exact h1
/-- a word's letters -/
theorem g_lets {w : Nat} (hw : w < 21) (hm : hTop h ≤ t0 + mc) (hs : hSl h ≤ s0 + ms) (k : ∀ y5 y6, GW l (d + 4) t0 s0 mc ms b M10 r 99 (lsT a t (nI w) (some (.int (pkA w 6))) (some (.int (nI 6))) y5 y6) [] h) : ∀ (n i : Nat) (x5 x6 : Option Value), i + n = 6 → GW l (d + 4) t0 s0 mc ms b M10 r 30 (lsT a t (nI w) (some (.int (pkA w i))) (some (.int (nI i))) x5 x6) [] h
  | 0, i, x5, x6, hi => by
    obtain rfl : i = 6 := by omega
    refine g_iload (x := nI 6) d10_30 rfl ?_
    refine g_bipush d10_32 ?_
    rw [tb6]
    refine g_icmp_ge d10_34 (by decide) ?_
    rw [if_pos cge_y]
    exact k x5 x6
  | n + 1, i, x5, x6, hi => g_let hw (by omega) hm hs (fun y5 y6 => g_lets hw hm hs k n (i + 1) y5 y6 (by omega))
end TOK2
-- the heap as the words are stored
def lngP (w : Nat) : Nat → Int32 := fun k => if k < w then nI (lngL.getD k 0) else 0
def hTk (h : Hp) (a t : Nat) : Hp := stF (stF (hNew h 14 21) a 1 (some (hTop h))) a 0 (some t)
def hTw (h : Hp) (a t w : Nat) : Hp := stA (hTk h a t) (hTop h) (lngP w)
theorem vu_self {α : Type} (f : Nat → α) (k : Nat) : va_up f k (f k) = f := by
  funext j
  by_cases hj : j = k
  · rw [hj, up_s]
  · rw [up_n hj]
theorem vu_up {α : Type} (f : Nat → α) (k : Nat) (v w : α) : va_up (va_up f k v) k w = va_up f k w := by
  funext j
  by_cases hj : j = k
  · rw [hj, up_s, up_s]
  · rw [up_n hj, up_n hj, up_n hj]
theorem hTw_0 {h : Hp} {a t : Nat} : hTw h a t 0 = hTk h a t := by
  have e : lngP 0 = hI (hTk h a t) (hTop h) := by
    funext k
    show (if k < 0 then _ else (0 : Int32)) = (va_up (hI h) (hTop h) (fun _ => 0)) (hTop h) k
    rw [up_s, if_neg (Nat.not_lt_zero k)]
  unfold hTw stA
  rw [e]
  show ((hTk h a t).1, va_up (hI (hTk h a t)) (hTop h) (hI (hTk h a t) (hTop h)), (hTk h a t).2.2) = _
  rw [vu_self]
  rfl
theorem hTw_s {h : Hp} {a t w : Nat} : stI (hTw h a t w) (hTop h) w (nI (lngL.getD w 0)) = hTw h a t (w + 1) := by
  have e : upd (lngP w) w (nI (lngL.getD w 0)) = lngP (w + 1) := by
    funext k
    unfold upd lngP
    by_cases hk : k = w
    · subst hk
      simp
    · have h1 : (k < w + 1) = (k < w) := propext ⟨fun q => by omega, fun q => by omega⟩
      simp [hk, h1]
  unfold hTw stI stA
  dsimp only
  rw [up_s, vu_up, e]
theorem hTw_K {h : Hp} {a t w : Nat} (hk : hK h a = 10) (ha : a < hTop h) : hK (hTw h a t w) a = 10 := by
  show va_up (hK h) (hTop h) 14 a = 10
  rw [up_n (by omega), hk]
theorem hTw_K2 {h : Hp} {a t w : Nat} : hK (hTw h a t w) (hTop h) = 14 := by
  show va_up (hK h) (hTop h) 14 (hTop h) = 14
  rw [up_s]
theorem hTw_N {h : Hp} {a t w : Nat} : hN (hTw h a t w) (hTop h) = 21 := by
  show va_up (hN h) (hTop h) 21 (hTop h) = 21
  rw [up_s]
theorem hTw_f {h : Hp} {a t w : Nat} : fP (hTw h a t w) a 10 1 = .ref (hTop h) := by
  show va_rf (hF (hTk h a t) a 1) = _
  show va_rf (va_up (hF (stF (hNew h 14 21) a 1 (some (hTop h)))) a (va_up (hF (stF (hNew h 14 21) a 1 (some (hTop h))) a) 0 (some t)) a 1) = _
  rw [up_s, up_n (by decide)]
  show va_rf (va_up (hF (hNew h 14 21)) a (va_up (hF (hNew h 14 21) a) 1 (some (hTop h))) a 1) = _
  rw [up_s, up_s]
  rfl
section TOK3
variable {l : Launch} {d t0 s0 mc ms b a t : Nat} {h : Hp}
/-- all words, from word w on -/
theorem g_words (hk : hK h a = 10) (ha : a < hTop h) (hm : hTop h + 1 = t0 + mc) (hs : hSl h + 21 = s0 + ms) : ∀ (n w : Nat) (x3 x4 x5 x6 : Option Value), w + n = 21 → GW l (d + 4) t0 s0 mc ms b M10 (none, tokH h a t) 19 (lsT a t (nI w) x3 x4 x5 x6) [] (hTw h a t w)
  | 0, w, x3, x4, x5, x6, hw => by
    obtain rfl : w = 21 := by omega
    refine g_iload_n (x := nI 21) d10_19 rfl ?_
    refine g_bipush d10_20 ?_
    rw [tb21]
    refine g_icmp_ge d10_22 (by decide) ?_
    rw [if_pos cge_y]
    exact g_vret (pc := 112) d10_112 rfl hm hs
  | n + 1, w, x3, x4, x5, x6, hw => by
    refine g_iload_n (x := nI w) d10_19 rfl ?_
    refine g_bipush d10_20 ?_
    rw [tb21]
    refine g_icmp_ge d10_22 (by decide) ?_
    rw [if_neg (cge_n (by omega) (by omega))]
    refine g_iconst d10_25 ?_
    rw [to0]
    refine g_istore_n d10_26 (by decide : 3 < 7) ?_
    refine g_iconst d10_27 ?_
    rw [to0]
    refine g_istore d10_28 (by decide : 4 < 7) ?_
    refine g_lets (h := hTw h a t w) (t0 := t0) (s0 := s0) (mc := mc) (ms := ms) (w := w) (by omega) (Nat.le_of_eq hm) (Nat.le_of_eq hs) (fun y5 y6 => ?_) 6 0 x5 x6 (by omega)
    refine g_aload_n (x := a) d10_99 rfl ?_
    refine g_get d10_100 fo10_9 (hTw_K hk ha) ?_
    rw [hTw_f]
    refine g_iload_n (x := nI w) d10_103 rfl ?_
    refine g_iload_n (x := pkA w 6) d10_104 rfl ?_
    refine g_iast d10_105 hTw_K2 (by rw [hTw_N]; unfold inb; simp [nI_clamp (show w < 2 ^ 31 by omega), nI_pos (show w < 2 ^ 31 by omega)]; omega) ?_
    rw [nI_clamp (by omega), pkA_6 w (by omega), hTw_s]
    refine g_iinc (x := nI w) d10_106 rfl (by decide : 2 < 7) ?_
    rw [to1, ← nI_succ]
    refine g_goto d10_109 (by decide) ?_
    exact g_words hk ha hm hs n (w + 1) _ _ _ _ (by omega)
theorem g_tok (hal : hAl h = true) (hk : hK h a = 10) (ha : a < hTop h) (hm : hTop h + 1 = t0 + mc) (hs : hSl h + 21 = s0 + ms) : GW l (d + 4) t0 s0 mc ms b M10 (none, tokH h a t) 0 (entL 7 [.ref a, .ref t]) [] h := by
  have e21 : (nI 21).toNatClampNeg = 21 := nI_clamp (by omega)
  refine g_aload_n (x := a) d10_0 rfl ?_
  refine g_obj d10_1 oI_10_3 rfl (by omega) ?_
  refine g_aload_n (x := a) d10_4 rfl ?_
  refine g_bipush d10_5 ?_
  rw [tb21]
  refine g_newa_int d10_7 hal (nI_pos (by omega)) (by rw [e21]; omega) (Nat.le_of_eq hm) (by rw [e21]; exact Nat.le_of_eq hs) ?_
  rw [e21]
  refine g_putF (v := some (hTop h)) d10_9 fo10_9 (by show va_up (hK h) (hTop h) 14 a = 10; rw [up_n (by omega), hk]) rfl rfl rfl rfl rfl ?_
  refine g_aload_n (x := a) d10_12 rfl ?_
  refine g_aload_n (x := t) d10_13 rfl ?_
  refine g_putF (v := some t) d10_14 fo10_15 (by show va_up (hK h) (hTop h) 14 a = 10; rw [up_n (by omega), hk]) rfl rfl rfl rfl rfl ?_
  refine g_iconst d10_17 ?_
  rw [to0]
  refine g_istore_n d10_18 (by decide : 2 < 7) ?_
  have k := g_words (l := l) (d := d) (t0 := t0) (s0 := s0) (mc := mc) (ms := ms) (b := b) (a := a) (t := t) (h := h) hk ha hm hs 21 0 none none none none (by omega)
  rw [hTw_0] at k
  exact k
theorem tok_ok (d : Nat) (M : Mth) (as : List Value) (h : Hp) (r : Rs) (hd : 6 ≤ d) (hg : mG M) (e : tokT M as h = some r) : Mon h r.2 ∧ MetP l (d + 1) M as h r := by
  unfold tokT at e
  split at e
  · next a t =>
    rw [gd_some] at e
    simp only [Bool.and_eq_true, decide_eq_true_eq, beq_iff_eq] at e
    obtain ⟨⟨⟨⟨rfl, hal⟩, hk⟩, ha⟩, e⟩ := e
    cases e
    obtain ⟨d', rfl⟩ : ∃ d', d = d' + 3 := ⟨d - 3, by omega⟩
    refine ⟨⟨Nat.le_succ _, Nat.le_add_right _ _, rfl⟩, ?_⟩
    exact (Met_GW (M := M10) (d := d' + 3) mg10 (Nat.le_of_ble_eq_true rfl) (fun t0 s0 mc ms b h1 h2 => g_tok hal hk ha h1 h2) : MetP l (d' + 3 + 1) M10 [.ref a, .ref t] h (none, tokH h a t))
  · cases e
end TOK3

-- THE PURE MACHINE IS SOUND, 6: a method that answers r in the pure machine meets its contract
theorem ent_args {b : Nat} : ∀ (as : List Value) (i0 i : Nat) (v : Value), (entA as)[i]? = some (some v) → (i0 + i, mv b v) ∈ lv_args i0 (as.map (mv b))
  | [], _, _, _, h => by simp [entA] at h
  | w :: r, i0, i, v, h => by
    have one : w.category = 1 → entA (w :: r) = some w :: entA r := by cases w <;> simp [entA, Value.category]
    have two : w.category = 2 → entA (w :: r) = some w :: none :: entA r := by cases w <;> simp [entA, Value.category]
    rw [List.map_cons]
    unfold lv_args
    rw [mv_cat]
    rcases lv_cat w with c | c
    · rw [one c] at h
      rw [if_neg (by omega)]
      cases i with
      | zero =>
        simp at h
        subst h
        exact List.mem_cons_self
      | succ i =>
        have := ent_args (b := b) r (i0 + 1) i v (by simpa using h)
        rw [show i0 + 1 + i = i0 + (i + 1) by omega] at this
        exact List.mem_cons_of_mem _ this
    · rw [two c] at h
      rw [if_pos c]
      cases i with
      | zero =>
        simp at h
        subst h
        exact List.mem_cons_self
      | succ i =>
        cases i with
        | zero => simp at h
        | succ i =>
          have := ent_args (b := b) r (i0 + 2) i v (by simpa using h)
          rw [show i0 + 2 + i = i0 + (i + 1 + 1) by omega] at this
          exact List.mem_cons_of_mem _ this
theorem ent_len {b : Nat} : ∀ (as : List Value), (lg_sl (as.map (mv b))).length = (entA as).length
  | [] => rfl
  | w :: r => by
    have ih := ent_len (b := b) r
    have one : w.category = 1 → entA (w :: r) = some w :: entA r := by cases w <;> simp [entA, Value.category]
    have two : w.category = 2 → entA (w :: r) = some w :: none :: entA r := by cases w <;> simp [entA, Value.category]
    have hc : lg_sl ((w :: r).map (mv b)) = (if (mv b w).category = 2 then [.val (mv b w), .second] else [.val (mv b w)]) ++ lg_sl (r.map (mv b)) := by
      unfold lg_sl
      rw [List.map_cons, List.flatMap_cons]
    rw [hc, mv_cat, List.length_append, ih]
    rcases lv_cat w with c | c
    · rw [one c, if_neg (by omega), List.length_cons, List.length_cons, List.length_nil]
      omega
    · rw [two c, if_pos c, List.length_cons, List.length_cons, List.length_cons, List.length_cons, List.length_nil]
      omega
theorem ent_LR {b n : Nat} {as : List Value} (hl : (entA as).length ≤ n) : LR b n ((lg_sl (as.map (mv b)) ++ List.replicate (n - (lg_sl (as.map (mv b))).length) Slot.unset).toArray) (entL n as) := by
  have h := lv_entry (as.map (mv b)) (n := n) (by rw [ent_len]; exact hl)
  refine ⟨h.1, h.2.1, by unfold entL; rw [List.length_append, List.length_replicate]; omega, fun i v hv => ?_⟩
  unfold entL at hv
  by_cases hi : i < (entA as).length
  · rw [List.getElem?_append_left hi] at hv
    have := ent_args (b := b) as 0 i v hv
    rw [Nat.zero_add] at this
    exact h.2.2 _ this
  · rw [List.getElem?_append_right (by omega), List.getElem?_replicate] at hv
    split at hv <;> simp at hv
theorem C_ok (l : Launch) : ∀ (d : Nat) (M : Mth) (as : List Value) (h : Hp) (r : Rs), mG M → C d M as h = some r → Mon h r.2 ∧ MetP l d M as h r
  | 0, M, as, h, r, _, hc => by cases hc
  | d + 1, M, as, h, r, hg, hc => by
    have IH := C_ok l d
    unfold C at hc
    split at hc
    · unfold extF at hc
      rw [gd_some] at hc
      cases hc.2
    · rw [gd_some] at hc
      obtain ⟨hl, hE⟩ := hc
      have hl := of_decide_eq_true hl
      obtain ⟨n, hn⟩ := E_iff.mp hE
      have key : ∀ (n pc : Nat) (ls : Lc) (st : List Value) (h : Hp), runs (C d) M n (pc, ls, st, h) = some r → Mon h r.2 ∧ ∀ (t0 s0 mc ms b : Nat), hTop r.2 = t0 + mc → hSl r.2 = s0 + ms → GW l (d + 1) t0 s0 mc ms b M r pc ls st h := by
        intro n
        induction n with
        | zero => intro pc ls st h hr; cases hr
        | succ n ih =>
          intro pc ls st h hr
          unfold runs at hr
          have hstep : ∀ o, stp (C d) M (pc, ls, st, h) = some o → SO l d M pc ls st h o := by
            intro o ho
            unfold stp at ho
            split at ho
            · next i k hdc => exact step_ok IH hdc ho
            · cases ho
          split at hr
          · next c' hs =>
            obtain ⟨m1, k1⟩ := hstep _ hs
            obtain ⟨m2, k2⟩ := ih c'.1 c'.2.1 c'.2.2.1 c'.2.2.2 hr
            refine ⟨m1.tr m2, fun t0 s0 mc ms b ht hs => k1 t0 s0 mc ms b r (by rw [← ht]; exact m2.1) (by rw [← hs]; exact m2.2.1) (k2 t0 s0 mc ms b ht hs)⟩
          · next r' hs =>
            cases hr
            exact hstep _ hs
          · cases hr
      obtain ⟨m1, k1⟩ := key n 0 _ [] h hn
      refine ⟨m1, fun D cy b mc ms ht hs => ?_⟩
      refine Met.ofW (cc := M.2.1) (maxL := M.2.2.1) (ret := M.2.2.2.1) hg.2.2.2.1 rfl ?_
      intro p e s m args below meth c s₁ B hml hv
      obtain ⟨rfl, Rp, hK, hF, hMw, hb, hz, hkp⟩ := hv
      have hts := atoms_spec (ws := wsA M) B.pre
      have hown : s.vm.findClass (cnm M.2.2.2.2) = some m.cls := by rw [← hg.2.2.2.2.1]; exact findClass_of_methodNamed B.named
      rw [lg_entry_eq]
      exact k1 (hTop h) (hSl h) mc ms b ht hs p e s m _ below meth c D cy s.heap [] _ 0 0 ⟨B.exec, B.bytes, B.returns, hml, hown, fun w hw => hts w (List.mem_cons_of_mem _ hw), hK, B.notSynchronized, hF, hMw, (name_of_methodNamed B.named B.method).1⟩ (ent_LR hl) Rp va_S.rf ⟨hb, hkp⟩ hz (Nat.zero_add _) (Nat.zero_add _)

-- THE PURE MACHINE IS SOUND over any oracle (for the constructors)
section STEPO
variable {O : Orc} {l : Launch} {d : Nat} {M : Mth} {pc n : Nat} {ls : Lc} {st : List Value} {h : Hp} {o : Cf ⊕ Rs}
theorem calO_ok {idx vk : Nat} {ig : Instr} (IH : ∀ (M : Mth) (as : List Value) (h : Hp) (r : Rs), mG M → O M as h = some r → Mon h r.2 ∧ MetP l d M as h r) (hd : decode M.2.1 pc = .ok (ig, 3)) (hi : (vk = 0 ∧ ig = .invokevirtual idx) ∨ (vk = 1 ∧ ig = .invokestatic idx) ∨ (vk = 2 ∧ ig = .invokespecial idx)) (hs : cal (O) M.2.2.2.2 idx pc ls st h vk = some o) : SO l d M pc ls st h o := by
  unfold cal at hs
  split at hs
  · cases hs
  · next M' np kd ci hm =>
    have hq := mres_ok hm
    split at hs
    · next hkd =>
      split at hs
      · next hv1 =>
        subst hv1
        rcases hi with ⟨h0, -⟩ | ⟨-, rfl⟩ | ⟨h0, -⟩
        · cases h0
        · simp only [gd_some, Option.bind_eq_some_iff, go1, Option.some.injEq, Bool.and_eq_true, decide_eq_true_eq] at hs
          obtain ⟨⟨hw, hl⟩, r', hc, rfl⟩ := hs
          obtain ⟨hmo, hM⟩ := IH M' _ h r' hq.1 hc
          have hlen : (st.take np).reverse.length = np := by rw [List.length_reverse, List.length_take]; omega
          refine ⟨hmo, fun t0 s0 mc ms b r h1 h2 k => ?_⟩
          rw [show st = (st.take np).reverse.reverse ++ st.drop np from tkd]
          rcases (show kd = 2 ∨ kd = 3 by omega) with rfl | rfl
          · exact g_callS hd hq hlen hw hM hmo.1 hmo.2.1 hmo.2.2 h1 h2 k
          · exact g_callSN hd hq hlen hw hM hmo.1 hmo.2.1 hmo.2.2 h1 h2 k
        · cases h0
      · next hv1 =>
        rw [bindA] at hs
        obtain ⟨a, rest, hdr, hs⟩ := hs
        simp only [gd_some, Option.bind_eq_some_iff, go1, Option.some.injEq, Bool.and_eq_true] at hs
        obtain ⟨⟨hw, hk⟩, r', hc, rfl⟩ := hs
        obtain ⟨hmo, hM⟩ := IH M' _ h r' hq.1 hc
        have hlen := tkl hdr
        refine ⟨hmo, fun t0 s0 mc ms b r h1 h2 k => ?_⟩
        rw [show st = (st.take np).reverse.reverse ++ .ref a :: rest by rw [← hdr]; exact tkd]
        rcases hi with ⟨rfl, rfl⟩ | ⟨h0, -⟩ | ⟨rfl, rfl⟩
        · have hk : hK h a = ci := by simpa using hk
          rcases (show kd = 0 ∨ kd = 1 by omega) with rfl | rfl
          · exact g_callV hd hq hlen hk hw hM hmo.1 hmo.2.1 hmo.2.2 h1 h2 k
          · exact g_callVN hd hq hlen hk hw hM hmo.1 hmo.2.1 hmo.2.2 h1 h2 k
        · exact absurd h0 hv1
        · rcases (show kd = 4 ∨ kd = 5 by omega) with rfl | rfl
          · exact g_callI hd hq hlen hw hM hmo.1 hmo.2.1 hmo.2.2 h1 h2 k
          · exact g_callIN hd hq hlen hw hM hmo.1 hmo.2.1 hmo.2.2 h1 h2 k
    · cases hs
set_option maxHeartbeats 4000000 in
theorem stepO_ok {i : Instr} (IH : ∀ (M : Mth) (as : List Value) (h : Hp) (r : Rs), mG M → O M as h = some r → Mon h r.2 ∧ MetP l d M as h r) (hd : decode M.2.1 pc = .ok (i, n)) (hs : ex1 (O) M i n pc ls st h = some o) : SO l d M pc ls st h o := by
  cases i with
  | iconst k0 =>
    simp only [ex1, bindI, bindL, bindA, bindN, bindV, bindGI, bindGL, bindGN, gd_some, go1, Option.some.injEq, Bool.and_eq_true, beq_iff_eq, decide_eq_true_eq] at hs
    obtain ⟨rfl, rfl⟩ := hs
    exact ⟨Mon.rf, fun _ _ _ _ _ _ _ _ k => g_iconst hd k⟩
  | bipush k0 =>
    simp only [ex1, bindI, bindL, bindA, bindN, bindV, bindGI, bindGL, bindGN, gd_some, go1, Option.some.injEq, Bool.and_eq_true, beq_iff_eq, decide_eq_true_eq] at hs
    obtain ⟨rfl, rfl⟩ := hs
    exact ⟨Mon.rf, fun _ _ _ _ _ _ _ _ k => g_bipush hd k⟩
  | sipush k0 =>
    simp only [ex1, bindI, bindL, bindA, bindN, bindV, bindGI, bindGL, bindGN, gd_some, go1, Option.some.injEq, Bool.and_eq_true, beq_iff_eq, decide_eq_true_eq] at hs
    obtain ⟨rfl, rfl⟩ := hs
    exact ⟨Mon.rf, fun _ _ _ _ _ _ _ _ k => g_sipush hd k⟩
  | lconst k0 =>
    simp only [ex1, bindI, bindL, bindA, bindN, bindV, bindGI, bindGL, bindGN, gd_some, go1, Option.some.injEq, Bool.and_eq_true, beq_iff_eq, decide_eq_true_eq] at hs
    obtain ⟨rfl, rfl⟩ := hs
    exact ⟨Mon.rf, fun _ _ _ _ _ _ _ _ k => g_lconst hd k⟩
  | aconst_null =>
    simp only [ex1, bindI, bindL, bindA, bindN, bindV, bindGI, bindGL, bindGN, gd_some, go1, Option.some.injEq, Bool.and_eq_true, beq_iff_eq, decide_eq_true_eq] at hs
    obtain ⟨rfl, rfl⟩ := hs
    exact ⟨Mon.rf, fun _ _ _ _ _ _ _ _ k => g_null hd k⟩
  | ldc k0 =>
    simp only [ex1, Option.bind_eq_some_iff, gd_some, go1, Option.some.injEq, beq_iff_eq] at hs
    obtain ⟨v, hv, rfl, rfl⟩ := hs
    exact ⟨Mon.rf, fun _ _ _ _ _ _ _ _ k => g_ldc hd (cKTab_ok _ _ (lk_mem hv)) k⟩
  | ldc_w k0 =>
    simp only [ex1, Option.bind_eq_some_iff, gd_some, go1, Option.some.injEq, beq_iff_eq] at hs
    obtain ⟨v, hv, rfl, rfl⟩ := hs
    exact ⟨Mon.rf, fun _ _ _ _ _ _ _ _ k => g_ldcw hd (cKTab_ok _ _ (lk_mem hv)) k⟩
  | ldc2_w k0 =>
    simp only [ex1, Option.bind_eq_some_iff, gd_some, go1, Option.some.injEq, beq_iff_eq] at hs
    obtain ⟨v, hv, rfl, rfl⟩ := hs
    exact ⟨Mon.rf, fun _ _ _ _ _ _ _ _ k => g_ldc2 hd (lKTab_ok _ _ (lk_mem hv)) k⟩
  | iload j =>
    simp only [ex1, bindI, bindL, bindA, bindN, bindV, bindGI, bindGL, bindGN, gd_some, go1, Option.some.injEq, Bool.and_eq_true, beq_iff_eq, decide_eq_true_eq] at hs
    obtain ⟨x, hl, rfl, rfl⟩ := hs
    exact ⟨Mon.rf, fun _ _ _ _ _ _ _ _ k => g_iload hd hl k⟩
  | iload_n j =>
    simp only [ex1, bindI, bindL, bindA, bindN, bindV, bindGI, bindGL, bindGN, gd_some, go1, Option.some.injEq, Bool.and_eq_true, beq_iff_eq, decide_eq_true_eq] at hs
    obtain ⟨x, hl, rfl, rfl⟩ := hs
    exact ⟨Mon.rf, fun _ _ _ _ _ _ _ _ k => g_iload_n hd hl k⟩
  | lload j =>
    simp only [ex1, bindI, bindL, bindA, bindN, bindV, bindGI, bindGL, bindGN, gd_some, go1, Option.some.injEq, Bool.and_eq_true, beq_iff_eq, decide_eq_true_eq] at hs
    obtain ⟨x, hl, rfl, rfl⟩ := hs
    exact ⟨Mon.rf, fun _ _ _ _ _ _ _ _ k => g_lload hd hl k⟩
  | lload_n j =>
    simp only [ex1, bindI, bindL, bindA, bindN, bindV, bindGI, bindGL, bindGN, gd_some, go1, Option.some.injEq, Bool.and_eq_true, beq_iff_eq, decide_eq_true_eq] at hs
    obtain ⟨x, hl, rfl, rfl⟩ := hs
    exact ⟨Mon.rf, fun _ _ _ _ _ _ _ _ k => g_lload_n hd hl k⟩
  | aload j =>
    simp only [ex1, bindI, bindL, bindA, bindN, bindV, bindGI, bindGL, bindGN, gd_some, go1, Option.some.injEq, Bool.and_eq_true, beq_iff_eq, decide_eq_true_eq] at hs
    obtain ⟨x, hl, rfl, rfl⟩ := hs
    rcases getN_cases hl with ⟨a, rfl, hl⟩ | ⟨rfl, hl⟩
    · exact ⟨Mon.rf, fun _ _ _ _ _ _ _ _ k => g_aload hd hl k⟩
    · exact ⟨Mon.rf, fun _ _ _ _ _ _ _ _ k => g_aloadN hd hl k⟩
  | aload_n j =>
    simp only [ex1, bindI, bindL, bindA, bindN, bindV, bindGI, bindGL, bindGN, gd_some, go1, Option.some.injEq, Bool.and_eq_true, beq_iff_eq, decide_eq_true_eq] at hs
    obtain ⟨x, hl, rfl, rfl⟩ := hs
    rcases getN_cases hl with ⟨a, rfl, hl⟩ | ⟨rfl, hl⟩
    · exact ⟨Mon.rf, fun _ _ _ _ _ _ _ _ k => g_aload_n hd hl k⟩
    · exact ⟨Mon.rf, fun _ _ _ _ _ _ _ _ k => g_aload_nN hd hl k⟩
  | istore j =>
    simp only [ex1, bindI, bindL, bindA, bindN, bindV, bindGI, bindGL, bindGN, gd_some, go1, Option.some.injEq, Bool.and_eq_true, beq_iff_eq, decide_eq_true_eq] at hs
    obtain ⟨x, r, rfl, ⟨rfl, hn⟩, rfl⟩ := hs
    exact ⟨Mon.rf, fun _ _ _ _ _ _ _ _ k => g_istore hd hn k⟩
  | istore_n j =>
    simp only [ex1, bindI, bindL, bindA, bindN, bindV, bindGI, bindGL, bindGN, gd_some, go1, Option.some.injEq, Bool.and_eq_true, beq_iff_eq, decide_eq_true_eq] at hs
    obtain ⟨x, r, rfl, ⟨rfl, hn⟩, rfl⟩ := hs
    exact ⟨Mon.rf, fun _ _ _ _ _ _ _ _ k => g_istore_n hd hn k⟩
  | lstore j =>
    simp only [ex1, bindI, bindL, bindA, bindN, bindV, bindGI, bindGL, bindGN, gd_some, go1, Option.some.injEq, Bool.and_eq_true, beq_iff_eq, decide_eq_true_eq] at hs
    obtain ⟨x, r, rfl, ⟨rfl, hn⟩, rfl⟩ := hs
    exact ⟨Mon.rf, fun _ _ _ _ _ _ _ _ k => g_lstore hd hn k⟩
  | lstore_n j =>
    simp only [ex1, bindI, bindL, bindA, bindN, bindV, bindGI, bindGL, bindGN, gd_some, go1, Option.some.injEq, Bool.and_eq_true, beq_iff_eq, decide_eq_true_eq] at hs
    obtain ⟨x, r, rfl, ⟨rfl, hn⟩, rfl⟩ := hs
    exact ⟨Mon.rf, fun _ _ _ _ _ _ _ _ k => g_lstore_n hd hn k⟩
  | astore j =>
    simp only [ex1, bindI, bindL, bindA, bindN, bindV, bindGI, bindGL, bindGN, gd_some, go1, Option.some.injEq, Bool.and_eq_true, beq_iff_eq, decide_eq_true_eq] at hs
    obtain ⟨x, r, rfl, ⟨rfl, hn⟩, rfl⟩ := hs
    cases x with
    | none => exact ⟨Mon.rf, fun _ _ _ _ _ _ _ _ k => g_astoreN hd hn k⟩
    | some a => exact ⟨Mon.rf, fun _ _ _ _ _ _ _ _ k => g_astore hd hn k⟩
  | astore_n j =>
    simp only [ex1, bindI, bindL, bindA, bindN, bindV, bindGI, bindGL, bindGN, gd_some, go1, Option.some.injEq, Bool.and_eq_true, beq_iff_eq, decide_eq_true_eq] at hs
    obtain ⟨x, r, rfl, ⟨rfl, hn⟩, rfl⟩ := hs
    cases x with
    | none => exact ⟨Mon.rf, fun _ _ _ _ _ _ _ _ k => g_astore_nN hd hn k⟩
    | some a => exact ⟨Mon.rf, fun _ _ _ _ _ _ _ _ k => g_astore_n hd hn k⟩
  | iinc j c0 =>
    simp only [ex1, bindI, bindL, bindA, bindN, bindV, bindGI, bindGL, bindGN, gd_some, go1, Option.some.injEq, Bool.and_eq_true, beq_iff_eq, decide_eq_true_eq] at hs
    obtain ⟨x, hl, hn, hs⟩ := hs
    split at hs
    · next hn3 =>
      subst hn3
      cases hs
      exact ⟨Mon.rf, fun _ _ _ _ _ _ _ _ k => g_iinc hd hl hn k⟩
    · split at hs
      · next hn6 =>
        subst hn6
        cases hs
        exact ⟨Mon.rf, fun _ _ _ _ _ _ _ _ k => g_iincW hd hl hn k⟩
      · cases hs
  | iadd =>
    simp only [ex1, bindI, bindL, bindA, bindN, bindV, bindGI, bindGL, bindGN, gd_some, go1, Option.some.injEq, Bool.and_eq_true, beq_iff_eq, decide_eq_true_eq] at hs
    obtain ⟨y, r1, rfl, x, r2, rfl, rfl, rfl⟩ := hs
    exact ⟨Mon.rf, fun _ _ _ _ _ _ _ _ k => g_iadd hd k⟩
  | isub =>
    simp only [ex1, bindI, bindL, bindA, bindN, bindV, bindGI, bindGL, bindGN, gd_some, go1, Option.some.injEq, Bool.and_eq_true, beq_iff_eq, decide_eq_true_eq] at hs
    obtain ⟨y, r1, rfl, x, r2, rfl, rfl, rfl⟩ := hs
    exact ⟨Mon.rf, fun _ _ _ _ _ _ _ _ k => g_isub hd k⟩
  | imul =>
    simp only [ex1, bindI, bindL, bindA, bindN, bindV, bindGI, bindGL, bindGN, gd_some, go1, Option.some.injEq, Bool.and_eq_true, beq_iff_eq, decide_eq_true_eq] at hs
    obtain ⟨y, r1, rfl, x, r2, rfl, rfl, rfl⟩ := hs
    exact ⟨Mon.rf, fun _ _ _ _ _ _ _ _ k => g_imul hd k⟩
  | iand =>
    simp only [ex1, bindI, bindL, bindA, bindN, bindV, bindGI, bindGL, bindGN, gd_some, go1, Option.some.injEq, Bool.and_eq_true, beq_iff_eq, decide_eq_true_eq] at hs
    obtain ⟨y, r1, rfl, x, r2, rfl, rfl, rfl⟩ := hs
    exact ⟨Mon.rf, fun _ _ _ _ _ _ _ _ k => g_iand hd k⟩
  | ior =>
    simp only [ex1, bindI, bindL, bindA, bindN, bindV, bindGI, bindGL, bindGN, gd_some, go1, Option.some.injEq, Bool.and_eq_true, beq_iff_eq, decide_eq_true_eq] at hs
    obtain ⟨y, r1, rfl, x, r2, rfl, rfl, rfl⟩ := hs
    exact ⟨Mon.rf, fun _ _ _ _ _ _ _ _ k => g_ior hd k⟩
  | ixor =>
    simp only [ex1, bindI, bindL, bindA, bindN, bindV, bindGI, bindGL, bindGN, gd_some, go1, Option.some.injEq, Bool.and_eq_true, beq_iff_eq, decide_eq_true_eq] at hs
    obtain ⟨y, r1, rfl, x, r2, rfl, rfl, rfl⟩ := hs
    exact ⟨Mon.rf, fun _ _ _ _ _ _ _ _ k => g_ixor hd k⟩
  | ishl =>
    simp only [ex1, bindI, bindL, bindA, bindN, bindV, bindGI, bindGL, bindGN, gd_some, go1, Option.some.injEq, Bool.and_eq_true, beq_iff_eq, decide_eq_true_eq] at hs
    obtain ⟨y, r1, rfl, x, r2, rfl, rfl, rfl⟩ := hs
    exact ⟨Mon.rf, fun _ _ _ _ _ _ _ _ k => g_ishl hd k⟩
  | ishr =>
    simp only [ex1, bindI, bindL, bindA, bindN, bindV, bindGI, bindGL, bindGN, gd_some, go1, Option.some.injEq, Bool.and_eq_true, beq_iff_eq, decide_eq_true_eq] at hs
    obtain ⟨y, r1, rfl, x, r2, rfl, rfl, rfl⟩ := hs
    exact ⟨Mon.rf, fun _ _ _ _ _ _ _ _ k => g_ishr hd k⟩
  | iushr =>
    simp only [ex1, bindI, bindL, bindA, bindN, bindV, bindGI, bindGL, bindGN, gd_some, go1, Option.some.injEq, Bool.and_eq_true, beq_iff_eq, decide_eq_true_eq] at hs
    obtain ⟨y, r1, rfl, x, r2, rfl, rfl, rfl⟩ := hs
    exact ⟨Mon.rf, fun _ _ _ _ _ _ _ _ k => g_iushr hd k⟩
  | ladd =>
    simp only [ex1, bindI, bindL, bindA, bindN, bindV, bindGI, bindGL, bindGN, gd_some, go1, Option.some.injEq, Bool.and_eq_true, beq_iff_eq, decide_eq_true_eq] at hs
    obtain ⟨y, r1, rfl, x, r2, rfl, rfl, rfl⟩ := hs
    exact ⟨Mon.rf, fun _ _ _ _ _ _ _ _ k => g_ladd hd k⟩
  | lsub =>
    simp only [ex1, bindI, bindL, bindA, bindN, bindV, bindGI, bindGL, bindGN, gd_some, go1, Option.some.injEq, Bool.and_eq_true, beq_iff_eq, decide_eq_true_eq] at hs
    obtain ⟨y, r1, rfl, x, r2, rfl, rfl, rfl⟩ := hs
    exact ⟨Mon.rf, fun _ _ _ _ _ _ _ _ k => g_lsub hd k⟩
  | lmul =>
    simp only [ex1, bindI, bindL, bindA, bindN, bindV, bindGI, bindGL, bindGN, gd_some, go1, Option.some.injEq, Bool.and_eq_true, beq_iff_eq, decide_eq_true_eq] at hs
    obtain ⟨y, r1, rfl, x, r2, rfl, rfl, rfl⟩ := hs
    exact ⟨Mon.rf, fun _ _ _ _ _ _ _ _ k => g_lmul hd k⟩
  | land =>
    simp only [ex1, bindI, bindL, bindA, bindN, bindV, bindGI, bindGL, bindGN, gd_some, go1, Option.some.injEq, Bool.and_eq_true, beq_iff_eq, decide_eq_true_eq] at hs
    obtain ⟨y, r1, rfl, x, r2, rfl, rfl, rfl⟩ := hs
    exact ⟨Mon.rf, fun _ _ _ _ _ _ _ _ k => g_land hd k⟩
  | lcmp =>
    simp only [ex1, bindI, bindL, bindA, bindN, bindV, bindGI, bindGL, bindGN, gd_some, go1, Option.some.injEq, Bool.and_eq_true, beq_iff_eq, decide_eq_true_eq] at hs
    obtain ⟨y, r1, rfl, x, r2, rfl, rfl, rfl⟩ := hs
    exact ⟨Mon.rf, fun _ _ _ _ _ _ _ _ k => g_lcmp hd k⟩
  | idiv =>
    simp only [ex1, bindI, bindL, bindA, bindN, bindV, bindGI, bindGL, bindGN, gd_some, go1, Option.some.injEq, Bool.and_eq_true, beq_iff_eq, decide_eq_true_eq] at hs
    obtain ⟨y, r1, rfl, x, r2, rfl, ⟨rfl, hne⟩, rfl⟩ := hs
    exact ⟨Mon.rf, fun _ _ _ _ _ _ _ _ k => g_idiv hd (by simpa using hne) k⟩
  | irem =>
    simp only [ex1, bindI, bindL, bindA, bindN, bindV, bindGI, bindGL, bindGN, gd_some, go1, Option.some.injEq, Bool.and_eq_true, beq_iff_eq, decide_eq_true_eq] at hs
    obtain ⟨y, r1, rfl, x, r2, rfl, ⟨rfl, hne⟩, rfl⟩ := hs
    exact ⟨Mon.rf, fun _ _ _ _ _ _ _ _ k => g_irem hd (by simpa using hne) k⟩
  | ldiv =>
    simp only [ex1, bindI, bindL, bindA, bindN, bindV, bindGI, bindGL, bindGN, gd_some, go1, Option.some.injEq, Bool.and_eq_true, beq_iff_eq, decide_eq_true_eq] at hs
    obtain ⟨y, r1, rfl, x, r2, rfl, ⟨rfl, hne⟩, rfl⟩ := hs
    exact ⟨Mon.rf, fun _ _ _ _ _ _ _ _ k => g_ldiv hd (by simpa using hne) k⟩
  | lrem =>
    simp only [ex1, bindI, bindL, bindA, bindN, bindV, bindGI, bindGL, bindGN, gd_some, go1, Option.some.injEq, Bool.and_eq_true, beq_iff_eq, decide_eq_true_eq] at hs
    obtain ⟨y, r1, rfl, x, r2, rfl, ⟨rfl, hne⟩, rfl⟩ := hs
    exact ⟨Mon.rf, fun _ _ _ _ _ _ _ _ k => g_lrem hd (by simpa using hne) k⟩
  | ineg =>
    simp only [ex1, bindI, bindL, bindA, bindN, bindV, bindGI, bindGL, bindGN, gd_some, go1, Option.some.injEq, Bool.and_eq_true, beq_iff_eq, decide_eq_true_eq] at hs
    obtain ⟨x, r, rfl, rfl, rfl⟩ := hs
    exact ⟨Mon.rf, fun _ _ _ _ _ _ _ _ k => g_ineg hd k⟩
  | lneg =>
    simp only [ex1, bindI, bindL, bindA, bindN, bindV, bindGI, bindGL, bindGN, gd_some, go1, Option.some.injEq, Bool.and_eq_true, beq_iff_eq, decide_eq_true_eq] at hs
    obtain ⟨x, r, rfl, rfl, rfl⟩ := hs
    exact ⟨Mon.rf, fun _ _ _ _ _ _ _ _ k => g_lneg hd k⟩
  | i2l =>
    simp only [ex1, bindI, bindL, bindA, bindN, bindV, bindGI, bindGL, bindGN, gd_some, go1, Option.some.injEq, Bool.and_eq_true, beq_iff_eq, decide_eq_true_eq] at hs
    obtain ⟨x, r, rfl, rfl, rfl⟩ := hs
    exact ⟨Mon.rf, fun _ _ _ _ _ _ _ _ k => g_i2l hd k⟩
  | l2i =>
    simp only [ex1, bindI, bindL, bindA, bindN, bindV, bindGI, bindGL, bindGN, gd_some, go1, Option.some.injEq, Bool.and_eq_true, beq_iff_eq, decide_eq_true_eq] at hs
    obtain ⟨x, r, rfl, rfl, rfl⟩ := hs
    exact ⟨Mon.rf, fun _ _ _ _ _ _ _ _ k => g_l2i hd k⟩
  | i2b =>
    simp only [ex1, bindI, bindL, bindA, bindN, bindV, bindGI, bindGL, bindGN, gd_some, go1, Option.some.injEq, Bool.and_eq_true, beq_iff_eq, decide_eq_true_eq] at hs
    obtain ⟨x, r, rfl, rfl, rfl⟩ := hs
    exact ⟨Mon.rf, fun _ _ _ _ _ _ _ _ k => g_i2b hd k⟩
  | i2s =>
    simp only [ex1, bindI, bindL, bindA, bindN, bindV, bindGI, bindGL, bindGN, gd_some, go1, Option.some.injEq, Bool.and_eq_true, beq_iff_eq, decide_eq_true_eq] at hs
    obtain ⟨x, r, rfl, rfl, rfl⟩ := hs
    exact ⟨Mon.rf, fun _ _ _ _ _ _ _ _ k => g_i2s hd k⟩
  | dup =>
    simp only [ex1, bindI, bindL, bindA, bindN, bindV, bindGI, bindGL, bindGN, gd_some, go1, Option.some.injEq, Bool.and_eq_true, beq_iff_eq, decide_eq_true_eq] at hs
    obtain ⟨v, r, rfl, ⟨rfl, hc⟩, rfl⟩ := hs
    exact ⟨Mon.rf, fun _ _ _ _ _ _ _ _ k => g_dup hd hc k⟩
  | dup2 =>
    simp only [ex1, bindI, bindL, bindA, bindN, bindV, bindGI, bindGL, bindGN, gd_some, go1, Option.some.injEq, Bool.and_eq_true, beq_iff_eq, decide_eq_true_eq] at hs
    obtain ⟨v, r, rfl, w, r2, rfl, ⟨⟨rfl, hc⟩, hc2⟩, rfl⟩ := hs
    exact ⟨Mon.rf, fun _ _ _ _ _ _ _ _ k => g_dup2 hd hc hc2 k⟩
  | if_icmp c0 off =>
    simp only [ex1, bindI, bindL, bindA, bindN, bindV, bindGI, bindGL, bindGN, gd_some, go1, Option.some.injEq, Bool.and_eq_true, beq_iff_eq, decide_eq_true_eq] at hs
    obtain ⟨y, r1, rfl, x, r2, rfl, ⟨rfl, hj⟩, rfl⟩ := hs
    refine ⟨Mon.rf, fun _ _ _ _ _ _ _ _ k => ?_⟩
    cases c0
    · exact g_icmp_eq hd hj k
    · exact g_icmp_ne hd hj k
    · exact g_icmp_lt hd hj k
    · exact g_icmp_ge hd hj k
    · exact g_icmp_gt hd hj k
    · exact g_icmp_le hd hj k
  | ifCond c0 off =>
    simp only [ex1, bindI, bindL, bindA, bindN, bindV, bindGI, bindGL, bindGN, gd_some, go1, Option.some.injEq, Bool.and_eq_true, beq_iff_eq, decide_eq_true_eq] at hs
    obtain ⟨x, r2, rfl, ⟨rfl, hj⟩, rfl⟩ := hs
    refine ⟨Mon.rf, fun _ _ _ _ _ _ _ _ k => ?_⟩
    cases c0
    · exact g_if_eq hd hj k
    · exact g_if_ne hd hj k
    · exact g_if_lt hd hj k
    · exact g_if_ge hd hj k
    · exact g_if_gt hd hj k
    · exact g_if_le hd hj k
  | ifnull off =>
    simp only [ex1, bindI, bindL, bindA, bindN, bindV, bindGI, bindGL, bindGN, gd_some, go1, Option.some.injEq, Bool.and_eq_true, beq_iff_eq, decide_eq_true_eq] at hs
    obtain ⟨x, r2, rfl, ⟨rfl, hj⟩, rfl⟩ := hs
    refine ⟨Mon.rf, fun _ _ _ _ _ _ _ _ k => ?_⟩
    cases x with
    | none => exact g_ifnullN hd hj k
    | some a => exact g_ifnull hd k
  | goto off =>
    simp only [ex1, bindI, bindL, bindA, bindN, bindV, bindGI, bindGL, bindGN, gd_some, go1, Option.some.injEq, Bool.and_eq_true, beq_iff_eq, decide_eq_true_eq] at hs
    obtain ⟨⟨rfl, hj⟩, rfl⟩ := hs
    exact ⟨Mon.rf, fun _ _ _ _ _ _ _ _ k => g_goto hd hj k⟩
  | tableswitch dflt lo hi offs =>
    simp only [ex1, bindI] at hs
    obtain ⟨x, r2, rfl, hs⟩ := hs
    split at hs
    · next hx =>
      simp only [ex1, bindI, bindL, bindA, bindN, bindV, bindGI, bindGL, bindGN, gd_some, go1, Option.some.injEq, Bool.and_eq_true, beq_iff_eq, decide_eq_true_eq] at hs
      obtain ⟨hj, rfl⟩ := hs
      exact ⟨Mon.rf, fun _ _ _ _ _ _ _ _ k => g_tabO hd hx hj k⟩
    · next hx =>
      simp only [Option.bind_eq_some_iff, gd_some, go1, Option.some.injEq] at hs
      obtain ⟨off, ho, hj, rfl⟩ := hs
      exact ⟨Mon.rf, fun _ _ _ _ _ _ _ _ k => g_tabI hd (fun q => hx (Or.inl q)) (fun q => hx (Or.inr q)) ho hj k⟩
  | lookupswitch dflt ps =>
    simp only [ex1, bindI, gd_some, go1, Option.some.injEq, Bool.and_eq_true] at hs
    obtain ⟨x, r2, rfl, ⟨hp, hj⟩, rfl⟩ := hs
    exact ⟨Mon.rf, fun _ _ _ _ _ _ _ _ k => g_look hd hp hj k⟩
  | getfield idx =>
    simp only [ex1] at hs
    cases hf : fRes M.2.2.2.2 idx with
    | none => rw [hf] at hs; cases hs
    | some q =>
      obtain ⟨ci, k, ne⟩ := q
      rw [hf, Option.bind_some] at hs
      simp only [bindA, gd_some, go1, Option.some.injEq, Bool.and_eq_true, beq_iff_eq] at hs
      obtain ⟨a, r, rfl, ⟨rfl, hk⟩, rfl⟩ := hs
      exact ⟨Mon.rf, fun _ _ _ _ _ _ _ _ k => g_get hd (fTab_ok _ _ (lk_mem hf)) hk k⟩
  | putfield idx =>
    simp only [ex1] at hs
    cases hf : fRes M.2.2.2.2 idx with
    | none => rw [hf] at hs; cases hs
    | some q =>
      obtain ⟨ci, k, ne⟩ := q
      have hq := fTab_ok _ _ (lk_mem hf)
      rw [hf, Option.bind_some] at hs
      dsimp only at hs
      split at hs
      · next hr =>
        simp only [bindN, bindA, gd_some, Bool.and_eq_true, beq_iff_eq] at hs
        obtain ⟨v, r1, rfl, a, r2, rfl, ⟨rfl, hk⟩, hs⟩ := hs
        split at hs
        · next hfi =>
          simp only [gd_some, go1, Option.some.injEq, Bool.and_eq_true, decide_eq_true_eq, Bool.not_eq_true'] at hs
          obtain ⟨⟨⟨h1, h2⟩, h3⟩, rfl⟩ := hs
          exact ⟨⟨Nat.le_refl _, Nat.le_refl _, rfl⟩, fun _ _ _ _ _ _ _ _ k => g_putF hd hq hk hr hfi h1 h2 h3 k⟩
        · next hfi =>
          cases hs
          exact ⟨⟨Nat.le_refl _, Nat.le_refl _, rfl⟩, fun _ _ _ _ _ _ _ _ k => g_putR hd hq hk hr (by simpa using hfi) k⟩
      · next hr =>
        simp only [bindI, bindA, gd_some, go1, Option.some.injEq, Bool.and_eq_true, beq_iff_eq, Bool.not_eq_true'] at hs
        obtain ⟨v, r1, rfl, a, r2, rfl, ⟨⟨⟨rfl, hk⟩, hv⟩, hfi⟩, rfl⟩ := hs
        exact ⟨⟨Nat.le_refl _, Nat.le_refl _, rfl⟩, fun _ _ _ _ _ _ _ _ k => g_putI hd hq hk (by simpa using hr) hfi hv k⟩
  | arraylength =>
    simp only [ex1, bindI, bindL, bindA, bindN, bindV, bindGI, bindGL, bindGN, gd_some, go1, Option.some.injEq, Bool.and_eq_true, beq_iff_eq, decide_eq_true_eq] at hs
    obtain ⟨a, r, rfl, ⟨⟨rfl, h1⟩, h2⟩, rfl⟩ := hs
    exact ⟨Mon.rf, fun _ _ _ _ _ _ _ _ k => g_alen hd h1 h2 k⟩
  | iaload =>
    simp only [ex1, bindI, bindL, bindA, bindN, bindV, bindGI, bindGL, bindGN, gd_some, go1, Option.some.injEq, Bool.and_eq_true, beq_iff_eq, decide_eq_true_eq] at hs
    obtain ⟨i, r1, rfl, a, r2, rfl, ⟨⟨rfl, hk⟩, hi⟩, rfl⟩ := hs
    exact ⟨Mon.rf, fun _ _ _ _ _ _ _ _ k => g_iald hd hk hi k⟩
  | saload =>
    simp only [ex1, bindI, bindL, bindA, bindN, bindV, bindGI, bindGL, bindGN, gd_some, go1, Option.some.injEq, Bool.and_eq_true, beq_iff_eq, decide_eq_true_eq] at hs
    obtain ⟨i, r1, rfl, a, r2, rfl, ⟨⟨rfl, hk⟩, hi⟩, rfl⟩ := hs
    exact ⟨Mon.rf, fun _ _ _ _ _ _ _ _ k => g_sald hd hk hi k⟩
  | laload =>
    simp only [ex1, bindI, bindL, bindA, bindN, bindV, bindGI, bindGL, bindGN, gd_some, go1, Option.some.injEq, Bool.and_eq_true, beq_iff_eq, decide_eq_true_eq] at hs
    obtain ⟨i, r1, rfl, a, r2, rfl, ⟨⟨rfl, hk⟩, hi⟩, rfl⟩ := hs
    exact ⟨Mon.rf, fun _ _ _ _ _ _ _ _ k => g_lald hd hk hi k⟩
  | baload =>
    simp only [ex1, bindI, bindA, gd_some, go1, Option.some.injEq, Bool.and_eq_true, Bool.or_eq_true, beq_iff_eq] at hs
    obtain ⟨i, r1, rfl, a, r2, rfl, ⟨⟨rfl, hk⟩, hi⟩, rfl⟩ := hs
    refine ⟨Mon.rf, fun _ _ _ _ _ _ _ _ k => ?_⟩
    rcases hk with hk | hk
    · exact g_bald hd hk hi k
    · exact g_zald hd hk hi k
  | iastore =>
    simp only [ex1, bindI, bindL, bindA, bindN, bindV, bindGI, bindGL, bindGN, gd_some, go1, Option.some.injEq, Bool.and_eq_true, beq_iff_eq, decide_eq_true_eq] at hs
    obtain ⟨v, r0, rfl, i, r1, rfl, a, r2, rfl, ⟨⟨rfl, hk⟩, hi⟩, rfl⟩ := hs
    exact ⟨⟨Nat.le_refl _, Nat.le_refl _, rfl⟩, fun _ _ _ _ _ _ _ _ k => g_iast hd hk hi k⟩
  | sastore =>
    simp only [ex1, bindI, bindL, bindA, bindN, bindV, bindGI, bindGL, bindGN, gd_some, go1, Option.some.injEq, Bool.and_eq_true, beq_iff_eq, decide_eq_true_eq] at hs
    obtain ⟨v, r0, rfl, i, r1, rfl, a, r2, rfl, ⟨⟨rfl, hk⟩, hi⟩, rfl⟩ := hs
    exact ⟨⟨Nat.le_refl _, Nat.le_refl _, rfl⟩, fun _ _ _ _ _ _ _ _ k => g_sast hd hk hi k⟩
  | lastore =>
    simp only [ex1, bindI, bindL, bindA, bindN, bindV, bindGI, bindGL, bindGN, gd_some, go1, Option.some.injEq, Bool.and_eq_true, beq_iff_eq, decide_eq_true_eq] at hs
    obtain ⟨v, r0, rfl, i, r1, rfl, a, r2, rfl, ⟨⟨rfl, hk⟩, hi⟩, rfl⟩ := hs
    exact ⟨⟨Nat.le_refl _, Nat.le_refl _, rfl⟩, fun _ _ _ _ _ _ _ _ k => g_last hd hk hi k⟩
  | bastore =>
    simp only [ex1, bindI, bindA, gd_some, go1, Option.some.injEq, Bool.and_eq_true, Bool.or_eq_true, beq_iff_eq] at hs
    obtain ⟨v, r0, rfl, i, r1, rfl, a, r2, rfl, ⟨⟨rfl, hk⟩, hi⟩, rfl⟩ := hs
    refine ⟨⟨Nat.le_refl _, Nat.le_refl _, rfl⟩, fun _ _ _ _ _ _ _ _ k => ?_⟩
    dsimp only at k
    rcases hk with hk | hk
    · rw [if_pos hk] at k
      exact g_bast hd hk hi k
    · rw [if_neg (by rw [hk]; decide)] at k
      exact g_zast hd hk hi k
  | new idx =>
    simp only [ex1, Option.bind_eq_some_iff, gd_some, go1, Option.some.injEq, Bool.and_eq_true, beq_iff_eq] at hs
    obtain ⟨ci, hc, ⟨rfl, hal⟩, rfl⟩ := hs
    exact ⟨⟨Nat.le_succ _, Nat.le_add_right _ _, rfl⟩, fun _ _ _ _ _ _ h1 h2 k => g_new hd (nCTab_ok _ _ (lk_mem hc)) hal h1 h2 k⟩
  | newarray t =>
    simp only [ex1, bindI, gd_some, go1, Option.some.injEq, Bool.and_eq_true, beq_iff_eq, decide_eq_true_eq, Bool.not_eq_true', decide_eq_false_iff_not] at hs
    obtain ⟨x, r, rfl, ⟨⟨⟨⟨rfl, hal⟩, ht⟩, hn⟩, hn6⟩, rfl⟩ := hs
    refine ⟨⟨Nat.le_succ _, Nat.le_add_right _ _, rfl⟩, fun _ _ _ _ _ _ h1 h2 k => ?_⟩
    cases t
    · exact g_newa_bool hd hal hn hn6 h1 h2 k
    · exact absurd ht (by decide)
    · exact absurd ht (by decide)
    · exact absurd ht (by decide)
    · exact g_newa_byte hd hal hn hn6 h1 h2 k
    · exact g_newa_short hd hal hn hn6 h1 h2 k
    · exact g_newa_int hd hal hn hn6 h1 h2 k
    · exact g_newa_long hd hal hn hn6 h1 h2 k
  | invokevirtual idx =>
    simp only [ex1, gd_some, beq_iff_eq] at hs
    obtain ⟨rfl, hs⟩ := hs
    exact calO_ok IH hd (Or.inl ⟨rfl, rfl⟩) hs
  | invokestatic idx =>
    simp only [ex1, gd_some, beq_iff_eq] at hs
    obtain ⟨rfl, hs⟩ := hs
    split at hs
    · next u hu =>
      simp only [bindI, bindA, gd_some, go1, Option.some.injEq, Bool.and_eq_true, beq_iff_eq, decide_eq_true_eq, Bool.not_eq_true', decide_eq_false_iff_not] at hs
      obtain ⟨k0, r1, rfl, dp, r2, rfl, a, r3, rfl, sp, r4, rfl, a0, r5, rfl, ⟨⟨⟨⟨⟨⟨⟨hk, hk0⟩, h3⟩, h2⟩, h1⟩, h4⟩, h5⟩, hw⟩, rfl⟩ := hs
      exact ⟨⟨Nat.le_refl _, Nat.le_refl _, rfl⟩, fun _ _ _ _ _ _ _ _ k => g_copy hd (aCTab_ok _ _ (lk_mem hu)) hk hk0 h1 h2 h3 h4 h5 hw (Nat.succ_le_succ (Nat.zero_le d)) k⟩
    · exact calO_ok IH hd (Or.inr (Or.inl ⟨rfl, rfl⟩)) hs
  | invokespecial idx =>
    simp only [ex1, gd_some, beq_iff_eq] at hs
    obtain ⟨rfl, hs⟩ := hs
    split at hs
    · next u hu =>
      simp only [bindA, gd_some, go1, Option.some.injEq] at hs
      obtain ⟨a, r, rfl, hw, rfl⟩ := hs
      exact ⟨Mon.rf, fun _ _ _ _ _ _ _ _ k => g_obj hd (oITab_ok _ _ (lk_mem hu)) hw (Nat.succ_le_succ (Nat.zero_le d)) k⟩
    · exact calO_ok IH hd (Or.inr (Or.inr ⟨rfl, rfl⟩)) hs
  | ireturn =>
    simp only [ex1, bindI] at hs
    obtain ⟨x, r, rfl, hs⟩ := hs
    split at hs
    · next hr =>
      simp only [gd_some, Option.some.injEq, Bool.and_eq_true, beq_iff_eq, List.isEmpty_iff] at hs
      obtain ⟨⟨rfl, rfl⟩, rfl⟩ := hs
      exact ⟨Mon.rf, fun _ _ _ _ _ h1 h2 => g_iret hd hr h1 h2⟩
    · next hr =>
      simp only [gd_some, Option.some.injEq, Bool.and_eq_true, beq_iff_eq, List.isEmpty_iff] at hs
      obtain ⟨⟨⟨rfl, rfl⟩, hv⟩, rfl⟩ := hs
      exact ⟨Mon.rf, fun _ _ _ _ _ h1 h2 => g_zret hd hr hv h1 h2⟩
    · cases hs
  | lreturn =>
    simp only [ex1, bindL, gd_some, Option.some.injEq, Bool.and_eq_true, beq_iff_eq, List.isEmpty_iff, decide_eq_true_eq] at hs
    obtain ⟨x, r, rfl, ⟨⟨rfl, rfl⟩, hr⟩, rfl⟩ := hs
    exact ⟨Mon.rf, fun _ _ _ _ _ h1 h2 => g_lret hd hr h1 h2⟩
  | areturn =>
    simp only [ex1, bindN, gd_some, Option.some.injEq, Bool.and_eq_true, beq_iff_eq, List.isEmpty_iff, decide_eq_true_eq] at hs
    obtain ⟨x, r, rfl, ⟨⟨rfl, rfl⟩, hr⟩, rfl⟩ := hs
    exact ⟨Mon.rf, fun _ _ _ _ _ h1 h2 => g_aret hd hr h1 h2⟩
  | return_ =>
    simp only [ex1, gd_some, Option.some.injEq, Bool.and_eq_true, beq_iff_eq, List.isEmpty_iff, decide_eq_true_eq] at hs
    obtain ⟨⟨⟨rfl, rfl⟩, hr⟩, rfl⟩ := hs
    exact ⟨Mon.rf, fun _ _ _ _ _ h1 h2 => g_vret hd hr h1 h2⟩
  | _ => cases hs
end STEPO
/-- the oracle that the kernel can run: T tells Tokens.<init> -/
def Cfu (T : Orc) : Nat → Orc
  | 0 => fun _ _ _ => none
  | d + 1 => fun M as h => if 100 ≤ M.2.2.2.2 then gd (decide (6 ≤ d)) (T M as h) else gd (decide ((entA as).length ≤ M.2.2.1)) (runs (Cfu T d) M 6000 (0, entL M.2.2.1 as, [], h))
theorem Cfu_ok (l : Launch) (T : Orc) (hT : ∀ (d : Nat) (M : Mth) (as : List Value) (h : Hp) (r : Rs), 6 ≤ d → mG M → T M as h = some r → Mon h r.2 ∧ MetP l (d + 1) M as h r) : ∀ (d : Nat) (M : Mth) (as : List Value) (h : Hp) (r : Rs), mG M → Cfu T d M as h = some r → Mon h r.2 ∧ MetP l d M as h r
  | 0, M, as, h, r, _, hc => by cases hc
  | d + 1, M, as, h, r, hg, hc => by
    have IH := Cfu_ok l T hT d
    unfold Cfu at hc
    split at hc
    · rw [gd_some] at hc
      exact hT d M as h r (of_decide_eq_true hc.1) hg hc.2
    · rw [gd_some] at hc
      obtain ⟨hl, hn⟩ := hc
      have hl := of_decide_eq_true hl
      have key : ∀ (n pc : Nat) (ls : Lc) (st : List Value) (h : Hp), runs (Cfu T d) M n (pc, ls, st, h) = some r → Mon h r.2 ∧ ∀ (t0 s0 mc ms b : Nat), hTop r.2 = t0 + mc → hSl r.2 = s0 + ms → GW l (d + 1) t0 s0 mc ms b M r pc ls st h := by
        intro n
        induction n with
        | zero => intro pc ls st h hr; cases hr
        | succ n ih =>
          intro pc ls st h hr
          unfold runs at hr
          have hstep : ∀ o, stp (Cfu T d) M (pc, ls, st, h) = some o → SO l d M pc ls st h o := by
            intro o ho
            unfold stp at ho
            split at ho
            · next i k hdc => exact stepO_ok IH hdc ho
            · cases ho
          split at hr
          · next c' hs =>
            obtain ⟨m1, k1⟩ := hstep _ hs
            obtain ⟨m2, k2⟩ := ih c'.1 c'.2.1 c'.2.2.1 c'.2.2.2 hr
            refine ⟨m1.tr m2, fun t0 s0 mc ms b ht hs => k1 t0 s0 mc ms b r (by rw [← ht]; exact m2.1) (by rw [← hs]; exact m2.2.1) (k2 t0 s0 mc ms b ht hs)⟩
          · next r' hs =>
            cases hr
            exact hstep _ hs
          · cases hr
      obtain ⟨m1, k1⟩ := key 6000 0 _ [] h hn
      refine ⟨m1, fun D cy b mc ms ht hs => ?_⟩
      refine Met.ofW (cc := M.2.1) (maxL := M.2.2.1) (ret := M.2.2.2.1) hg.2.2.2.1 rfl ?_
      intro p e s m args below meth c s₁ B hml hv
      obtain ⟨rfl, Rp, hK, hF, hMw, hb, hz, hkp⟩ := hv
      have hts := atoms_spec (ws := wsA M) B.pre
      have hown : s.vm.findClass (cnm M.2.2.2.2) = some m.cls := by rw [← hg.2.2.2.2.1]; exact findClass_of_methodNamed B.named
      rw [lg_entry_eq]
      exact k1 (hTop h) (hSl h) mc ms b ht hs p e s m _ below meth c D cy s.heap [] _ 0 0 ⟨B.exec, B.bytes, B.returns, hml, hown, fun w hw => hts w (List.mem_cons_of_mem _ hw), hK, B.notSynchronized, hF, hMw, (name_of_methodNamed B.named B.method).1⟩ (ent_LR hl) Rp va_S.rf ⟨hb, hkp⟩ hz (Nat.zero_add _) (Nat.zero_add _)

-- THE LAW: look's case
theorem thr_m {d : Nat} {I : Mem} {J : MemL} {R : MemR} : C (d + 1) MX12_thrown [.ref 123] (hp I J R) = some (some (.int (I 123 2)), hp I J R) := by
  rw [eX12_thrown, xX12_thrown_0, xX12_thrown_1]
  rw [show (hK (hp I J R) 123 == 12) = true from rfl, gd_t, xX12_thrown_4]
  rfl
section LK6
variable {p : Program} {l : Launch} {e : Env} {s : State} {m : MethodId} {below : List Frame} {meth : Method} {c : Code} {bs L : Nat} {xs : Nat → Int32} {D : va_G} {cy : Nat → ClassId} {H : Heap} {locs : List Loc} {cells slots : Nat} {Q : State → Prop} {LS : Array Slot}
/-- the call of the law's own look -/
theorem l_lkc {x y : Int32} {h : Hp} {r' : Rs} (F : LF p s m meth c bs L xs D cy) (hM : Met l yL_look wsLk (rmm 11 1 6) (PcM D cy s.heap.size [.ref 0, .int x, .int y, .ref 171] h) (QcM D cy s.heap.size r') 1 6 (fun q => s.heap.size ≤ q)) (hal : hAl h = false) (hLS : LS.size = 7) (hc1 : cells + 1 ≤ 601024) (hc2 : slots + 6 ≤ 7293034) (Rp : Rep D cy s.heap.size h H) (S : va_S (fun q => s.heap.size ≤ q) s.heap H locs)
    (kk : ∀ (H1 : Heap) (locs1 : List Loc), Rep D cy s.heap.size r'.2 H1 → va_S (fun q => s.heap.size ≤ q) s.heap H1 locs1 → W p l e room_1 s m #[Value.ref bs] below meth c H1 locs1 (cells + 1) (slots + 6) Q (F0 m 373 LS ((r'.1.map (mv s.heap.size)).toList ++ []))) :
    W p l e room_1 s m #[Value.ref bs] below meth c H locs cells slots Q (F0 m 370 LS [.ref (s.heap.size + 171), .int y, .int x, .ref (s.heap.size + 0)]) := by
  obtain ⟨F1, F2, F3, F4, F5, F6, F7, F8, F9, F10, F11, F12, F13⟩ := F
  have hnp : ∀ sig, parseMethodDescriptor yL_look.desc = some sig → 4 = sig.parameters.length := by
    have qn : (parseMethodDescriptor yL_look.desc).map (fun d => d.parameters.length) = some 4 := by decide +kernel
    intro sig hsg
    rw [hsg] at qn
    exact (Option.some.inj qn).symm
  have hrun := vx_runSW (p := p) (l := l) (e := e) (R := room_1) (s := s) (m := m) (args := #[Value.ref bs]) (below := below) (meth := meth) (c := c) (H := H) (locs := locs) (cells := cells) (slots := slots) (y := yL_look) (cc := code) (nL := 7) (bytes := cL_look) (maxL := 5) (ret := some .int) (hh := lkH) (n := 4) (own := RL) (As := [.ref (s.heap.size + 0), .int x, .int y, .ref (s.heap.size + 171)]) (rest := []) (Ts := gtbl) (index := 39) (g := F0 m 370 LS [.ref (s.heap.size + 171), .int y, .int x, .ref (s.heap.size + 0)]) ⟨F1, F2, F3, F4, F5⟩ hM ⟨⟨rfl, rfl, Nat.le_refl _, by decide, pay_in F5 wsLk_good, List.mem_cons_self⟩, F5 _ jk_code, F5 _ jk_init, by decide +kernel, hnp, F5 _ jk_link, F5 _ jk_stat⟩ ⟨PcM_blind, fun U hU hW => ⟨rfl, by rw [hU]; exact Rp, va_K.moved hW.alike F6, fun x hx => (F7 x hx).warmF hW, fun x hx => (F8 x hx).warmM hW, by rw [hU]; exact S.1, fun q => (by rw [hal] at q; cases q), F13.kept (Nat.le_refl _) S hU hW⟩⟩ rfl rfl hLS rfl (Nat.le_of_ble_eq_true rfl) dL_law_370 ⟨hc1, hc2⟩
  intro T hT X
  obtain ⟨v, st₀, t, T', L2, h0, X', hL, f1, f2, hq', go⟩ := hrun T hT X
  obtain ⟨g1, g2, g3⟩ := hq'
  cases g1
  have hS2 : va_S (fun q => s.heap.size ≤ q) s.heap t.heap (locs ++ L2) := by
    refine ⟨Nat.le_trans S.1 (by rw [← h0]; exact g3.1), fun q h1 h2 => ?_, fun x hx => ?_⟩
    · rw [g3.2 q (by rw [h0]; exact Nat.lt_of_lt_of_le h1 S.1) h2, h0]
      exact S.2.1 q h1 h2
    · rcases List.mem_append.mp hx with hx | hx
      · exact S.2.2 x hx
      · exact hL x hx
  obtain ⟨t2, a1, b1⟩ := kk t.heap (locs ++ L2) g2 hS2 T' f1 X'
  exact ⟨t2, go t2 a1, b1⟩
theorem l_lk {k w : Int32} {i : Nat} {I I2 : Mem} {J J1 : MemL} {R : MemR} (F : LF p s m meth c bs L xs D cy) (hL : L < 2 ^ 31) (hM : Met l yL_look wsLk (rmm 11 1 6) (PcM D cy s.heap.size [.ref 0, .int (xs (i + 1)), .int (xs (i + 2)), .ref 171] (hp I J R)) (QcM D cy s.heap.size (some (.int k), hp I J1 R)) 1 6 (fun q => s.heap.size ≤ q)) (hm : C 11 MX12_look [.ref 123, .int (xs (i + 1)), .int (xs (i + 2))] (hp I J1 R) = some (some (.int w), hp I2 J1 R)) (h2 : I2 123 2 = k) (h3 : k = 0 → J1 171 0 = w.toInt64) (inv : lInv I2 R)
    (hls : lv_has LS 7 (lvB s.heap.size bs i)) (Rp : Rep D cy s.heap.size (hp I J R) H) (S : va_S (fun q => s.heap.size ≤ q) s.heap H locs) (hi : i + 6 ≤ L) (hc1 : cells + 10 ≤ 601024) (hc2 : slots + 1000 ≤ 7293034)
    (kk : ∀ (I : Mem) (J : MemL) (R : MemR) (H : Heap) (locs : List Loc) (LS : Array Slot) (cells' slots' : Nat), cells' ≤ cells + 10 → slots' ≤ slots + 1000 → lv_has LS 7 (lvB s.heap.size bs i) → lInv I R → Rep D cy s.heap.size (hp I J R) H → va_S (fun q => s.heap.size ≤ q) s.heap H locs → W p l e room_1 s m #[Value.ref bs] below meth c H locs cells' slots' Q (F0 m 1518 LS [])) :
    W p l e room_1 s m #[Value.ref bs] below meth c H locs cells slots Q (F0 m 356 LS []) := by
  have F1 := F.1
  have F2 := F.2.1
  refine lv_aload_n F1 F2 dL_law_356 rfl (lv_at hls 3 rfl) ?_
  refine l_arg (k := 1) (q0 := 4) (q4 := 0) F hls rfl rfl rfl (by omega) hL S dL_law_357 dL_law_358 dL_law_360 dL_law_361 dL_law_362 ?_
  refine l_arg (k := 2) (q0 := 4) (q4 := 0) F hls rfl rfl rfl (by omega) hL S dL_law_363 dL_law_364 dL_law_366 dL_law_367 dL_law_368 ?_
  refine lv_aload_n F1 F2 dL_law_369 rfl (lv_at hls 1 rfl) ?_
  refine l_lkc F hM rfl hls.1 (by omega) (by omega) Rp S (fun H1 locs1 R1 S1 => ?_)
  refine lv_istore (x := k) F1 F2 dL_law_373 hls (by decide) (lv' := (5, .int k) :: lvB s.heap.size bs i) rfl (fun LS1 hl1 => ?_)
  refine lv_aload_n F1 F2 dL_law_375 rfl (lv_at hl1 3 rfl) ?_
  refine l_arg (k := 1) (q0 := 5) (q4 := 1) F hl1 rfl rfl rfl (by omega) hL S1 dL_law_376 dL_law_377 dL_law_379 dL_law_380 dL_law_381 ?_
  refine l_arg (k := 2) (q0 := 5) (q4 := 1) F hl1 rfl rfl rfl (by omega) hL S1 dL_law_382 dL_law_383 dL_law_385 dL_law_386 dL_law_387 ?_
  refine l_call (As := [.int (xs (i + 1)), .int (xs (i + 2))]) (rest := []) F dL_law_388 lo_44 rfl rfl rfl (by decide) hm rfl rfl rfl hl1.1 (by omega) (by omega) R1 S1 (fun H2 locs2 R2 S2 => ?_)
  refine lv_istore (x := w) F1 F2 dL_law_391 hl1 (by decide) (lv' := (6, .int w) :: (5, .int k) :: lvB s.heap.size bs i) rfl (fun LS2 hl2 => ?_)
  refine lv_aload_n F1 F2 dL_law_393 rfl (lv_at hl2 4 rfl) ?_
  refine l_call (As := []) (rest := []) F dL_law_394 lo_45 rfl rfl rfl (by decide) (thr_m (d := 10)) rfl rfl rfl hl2.1 (by omega) (by omega) R2 S2 (fun H3 locs3 R3 S3 => ?_)
  refine lv_iload F1 F2 dL_law_397 (lv_at hl2 1 rfl) ?_
  refine lv_icmp_eq (x := I2 123 2) F1 F2 dL_law_399 (tgt := 404) rfl (fun _ => ?_) (fun q => absurd h2 q)
  have hl3 : lv_has LS2 7 (lvB s.heap.size bs i) := lv_sub hl2 [2, 3, 4, 5, 6] rfl
  have ke : W p l e room_1 s m #[Value.ref bs] below meth c H3 locs3 (cells + 1) (slots + 6) Q (F0 m 421 LS2 []) := lv_goto F1 F2 dL_law_421 (tgt := 1518) rfl (kk I2 J1 R H3 locs3 LS2 (cells + 1) (slots + 6) (by omega) (by omega) hl3 inv R3 S3)
  refine lv_iload F1 F2 dL_law_404 (lv_at hl2 1 rfl) ?_
  refine lv_if_ne F1 F2 dL_law_406 (tgt := 421) rfl (fun _ => ke) (fun q => ?_)
  have hk0 : k = 0 := q
  refine lv_aload_n F1 F2 dL_law_409 rfl (lv_at hl2 3 rfl) ?_
  refine lv_iconst F1 F2 dL_law_410 (v := 0) rfl ?_
  have ha : 171 < hTop (hp I2 J1 R) := R3.2 171 (by show kd0 171 < 18; decide +kernel)
  refine va_lald (i := 0) F1 F2 F.2.2.2.2.2.1 R3.1 171 2 (by rw [wl_get ha, cE_lon (a := 171) (h := hp I2 J1 R) rfl]) rfl (inb_in (show inb 0 (hN (hp I2 J1 R) 171) = true from (by show inb 0 (ln0 171) = true; decide +kernel))) dL_law_411 ?_
  refine lv_iload F1 F2 dL_law_412 (lv_at hl2 0 rfl) ?_
  refine lv_i2l F1 F2 dL_law_414 rfl ?_
  refine W.lcmp F1 F2 dL_law_415 ?_
  refine lv_if_eq F1 F2 dL_law_416 (tgt := 421) rfl (fun _ => ke) (fun q => absurd ((lg_cmp_eq _ _).mpr ?_) q)
  exact h3 hk0
end LK6
section LK7
variable {p : Program} {l : Launch} {e : Env} {s : State} {m : MethodId} {below : List Frame} {meth : Method} {c : Code} {bs L : Nat} {xs : Nat → Int32} {D : va_G} {cy : Nat → ClassId}
theorem lInv_thr {I : Mem} {R : MemR} {t t' n nb nm fL lL fG lG st : Nat} {v : Int32} (h : cAll I R t t' n nb nm fL lL fG lG st) (ho : cOrd I t lL lG n) (hl : cLst I t lL lG n nb) : lInv (va_up I 123 (upd (I 123) 2 v)) R := by
  have k := kp.thr (I := I) (v := v)
  have ht := te_hi h.te
  have o : ∀ a, t ≤ a → a < t + 27 → va_up I 123 (upd (I 123) 2 v) a = I a := fun a h1 h2 => k.1 a (by unfold kpA; omega)
  exact ⟨t, t', n, nb, nm, fL, lL, fG, lG, st, cAll_kp h k rfl rfl rfl, cOrd_fr ho h.te o (k.1 62 (by unfold kpA; omega)) (k.1 63 (by unfold kpA; omega)) (k.1 117 (by unfold kpA; omega)) (k.1 119 (by unfold kpA; omega)), cLst_fr hl h.te o (k.1 62 (by unfold kpA; omega)) (k.1 63 (by unfold kpA; omega)) (k.1 112 (by unfold kpA; omega)) (k.1 116 (by unfold kpA; omega))⟩
theorem l_look (F : LF p s m meth c bs L xs D cy) (hL : L ≤ 3072) (hl : l.stackTraces = false) (Q : State → Prop) : lkC p l e s m below meth c bs L D cy Q := by
  intro I J R i H locs cells slots LS hls inv Rp S hi hc hs kk
  obtain ⟨t, t', n, nb, nm, fL, lL, fG, lG, st, hA, hO, hLs⟩ := inv
  have hR3 : R 0 3 = some t := hA.2.2.2.1
  have thr : ∀ v : Int32, va_up I 123 (upd (I 123) 2 v) 123 2 = v := fun v => by rw [up_s, pk_us]
  rcases look_p (J := J) hA (x := xs (i + 1)) (y := xs (i + 2)) with ⟨v, h1, h2⟩ | ⟨h1, h2⟩ | ⟨h1, h2, h3⟩
  · exact l_lk F (by omega) (lk_a h1) (h2 _) (thr 0) (fun _ => by rw [up_s]; simp [vp_updL]) (lInv_thr hA hO hLs) hls Rp S hi hc hs kk
  · exact l_lk F (by omega) (lk_th (lk_t1 hl hA.te hR3 h1) (Or.inl ⟨rfl, rfl⟩)) (h2 J) (thr 1) (fun q => absurd q (by decide)) (lInv_thr hA hO hLs) hls Rp S hi hc hs kk
  · exact l_lk F (by omega) (lk_th (lk_t2 hl hA.te hR3 h1 h2) (Or.inr ⟨rfl, rfl⟩)) (h3 J) (thr 2) (fun q => absurd q (by decide)) (lInv_thr hA hO hLs) hls Rp S hi hc hs kk
end LK7

-- THE LAW: its cases
/-- the law's locals at the head of its loop -/
def lvB (b bs i : Nat) : List (Nat × Value) := [(4, .int (nI i)), (3, .ref (b + 171)), (2, .ref (b + 123)), (1, .ref (b + 0)), (0, .ref bs)]
def bxF (x : Int32) : Int32 := if x = 0 then 0 else 1
section LAWC
variable {p : Program} {l : Launch} {e : Env} {s : State} {m : MethodId} {below : List Frame} {meth : Method} {c : Code} {bs L : Nat} {xs : Nat → Int32} {D : va_G} {cy : Nat → ClassId} {Q : State → Prop}
/-- a number as a truth -/
theorem l_bool {pc : Nat} {H : Heap} {locs : List Loc} {cells slots : Nat} {LS : Array Slot} {st : List Value} {x : Int32} (F : LF p s m meth c bs L xs D cy) (d0 : decode code pc = .ok (.ifCond .eq 7, 3)) (d1 : decode code (pc + 3) = .ok (.iconst 1, 1)) (d2 : decode code (pc + 4) = .ok (.goto 4, 3)) (d3 : decode code (pc + 7) = .ok (.iconst 0, 1)) (kk : W p l e room_1 s m #[Value.ref bs] below meth c H locs cells slots Q (F0 m (pc + 8) LS (.int (bxF x) :: st))) : W p l e room_1 s m #[Value.ref bs] below meth c H locs cells slots Q (F0 m pc LS (.int x :: st)) := by
  refine lv_if_eq F.1 F.2.1 d0 (tgt := pc + 7) (by omega) (fun q => ?_) (fun q => ?_)
  · refine lv_iconst F.1 F.2.1 d3 rfl ?_
    unfold bxF at kk
    rw [if_pos q] at kk
    exact kk
  · refine lv_iconst F.1 F.2.1 d1 rfl ?_
    refine lv_goto F.1 F.2.1 d2 (tgt := pc + 8) (by omega) ?_
    unfold bxF at kk
    rw [if_neg q] at kk
    exact kk
theorem lc_feed {I : Mem} {J : MemL} {R : MemR} {i : Nat} {H : Heap} {locs : List Loc} {cells slots : Nat} {LS : Array Slot} (F : LF p s m meth c bs L xs D cy) (hl : lv_has LS 7 (lvB s.heap.size bs i)) (inv : lInv I R) (Rp : Rep D cy s.heap.size (hp I J R) H) (S : va_S (fun q => s.heap.size ≤ q) s.heap H locs) (hi : i + 6 ≤ L) (hL : L < 2 ^ 31) (hc1 : cells ≤ 601024) (hc2 : slots ≤ 7293034)
    (kk : ∀ (I : Mem) (J : MemL) (R : MemR) (H : Heap) (locs : List Loc), lInv I R → Rep D cy s.heap.size (hp I J R) H → va_S (fun q => s.heap.size ≤ q) s.heap H locs → W p l e room_1 s m #[Value.ref bs] below meth c H locs cells slots Q (F0 m 1518 LS [])) :
    W p l e room_1 s m #[Value.ref bs] below meth c H locs cells slots Q (F0 m 196 LS []) := by
  obtain ⟨v, I1, J1, R1, I2, J2, e1, e2, inv2⟩ := pr_feed (J := J) inv (x := xs (i + 1)) (y := xs (i + 2)) (z := xs (i + 3)) (w := xs (i + 4)) (v := xs (i + 5))
  refine lv_aload_n F.1 F.2.1 dL_law_196 rfl (lv_at hl 3 rfl) ?_
  refine l_arg (k := 1) (q0 := 4) (q4 := 0) F hl rfl rfl rfl (by omega) hL S dL_law_197 dL_law_198 dL_law_200 dL_law_201 dL_law_202 ?_
  refine l_arg (k := 2) (q0 := 4) (q4 := 0) F hl rfl rfl rfl (by omega) hL S dL_law_203 dL_law_204 dL_law_206 dL_law_207 dL_law_208 ?_
  refine l_arg (k := 3) (q0 := 4) (q4 := 0) F hl rfl rfl rfl (by omega) hL S dL_law_209 dL_law_210 dL_law_212 dL_law_213 dL_law_214 ?_
  refine l_arg (k := 4) (q0 := 4) (q4 := 0) F hl rfl rfl rfl (by omega) hL S dL_law_215 dL_law_216 dL_law_218 dL_law_219 dL_law_220 ?_
  refine l_arg (k := 5) (q0 := 4) (q4 := 0) F hl rfl rfl rfl (by omega) hL S dL_law_221 dL_law_222 dL_law_224 dL_law_225 dL_law_226 ?_
  refine l_call (As := [.int (xs (i + 1)), .int (xs (i + 2)), .int (xs (i + 3)), .int (xs (i + 4)), .int (xs (i + 5))]) (rest := []) F dL_law_227 lo_21 rfl rfl rfl (by decide) e1 rfl rfl rfl hl.1 hc1 hc2 Rp S (fun H locs Rp S => ?_)
  refine lv_aload_n F.1 F.2.1 dL_law_230 rfl (lv_at hl 2 rfl) ?_
  refine l_arg (k := 1) (q0 := 4) (q4 := 0) F hl rfl rfl rfl (by omega) hL S dL_law_231 dL_law_232 dL_law_234 dL_law_235 dL_law_236 ?_
  refine l_arg (k := 2) (q0 := 4) (q4 := 0) F hl rfl rfl rfl (by omega) hL S dL_law_237 dL_law_238 dL_law_240 dL_law_241 dL_law_242 ?_
  refine l_arg (k := 3) (q0 := 4) (q4 := 0) F hl rfl rfl rfl (by omega) hL S dL_law_243 dL_law_244 dL_law_246 dL_law_247 dL_law_248 ?_
  refine l_arg (k := 4) (q0 := 4) (q4 := 0) F hl rfl rfl rfl (by omega) hL S dL_law_249 dL_law_250 dL_law_252 dL_law_253 dL_law_254 ?_
  refine l_arg (k := 5) (q0 := 4) (q4 := 0) F hl rfl rfl rfl (by omega) hL S dL_law_255 dL_law_256 dL_law_258 dL_law_259 dL_law_260 ?_
  refine l_call (As := [.int (xs (i + 1)), .int (xs (i + 2)), .int (xs (i + 3)), .int (xs (i + 4)), .int (xs (i + 5))]) (rest := [.int v]) F dL_law_261 lo_25 rfl rfl rfl (Nat.le_of_ble_eq_true rfl) e2 rfl rfl rfl hl.1 hc1 hc2 Rp S (fun H locs Rp S => ?_)
  refine lv_icmp_eq F.1 F.2.1 dL_law_264 (tgt := 1518) (by decide) (fun _ => ?_) (fun q => absurd rfl q)
  exact kk I2 J2 R1 H locs inv2 Rp S
theorem lc_text {I : Mem} {J : MemL} {R : MemR} {i : Nat} {H : Heap} {locs : List Loc} {cells slots : Nat} {LS : Array Slot} (F : LF p s m meth c bs L xs D cy) (hl : lv_has LS 7 (lvB s.heap.size bs i)) (inv : lInv I R) (Rp : Rep D cy s.heap.size (hp I J R) H) (S : va_S (fun q => s.heap.size ≤ q) s.heap H locs) (hi : i + 6 ≤ L) (hL : L < 2 ^ 31) (hc1 : cells ≤ 601024) (hc2 : slots ≤ 7293034)
    (kk : ∀ (I : Mem) (J : MemL) (R : MemR) (H : Heap) (locs : List Loc), lInv I R → Rep D cy s.heap.size (hp I J R) H → va_S (fun q => s.heap.size ≤ q) s.heap H locs → W p l e room_1 s m #[Value.ref bs] below meth c H locs cells slots Q (F0 m 1518 LS [])) :
    W p l e room_1 s m #[Value.ref bs] below meth c H locs cells slots Q (F0 m 269 LS []) := by
  obtain ⟨v, I1, J1, R1, I2, J2, e1, e2, inv2⟩ := pr_text (J := J) inv (x := xs (i + 1))
  refine lv_aload_n F.1 F.2.1 dL_law_269 rfl (lv_at hl 3 rfl) ?_
  refine l_arg (k := 1) (q0 := 4) (q4 := 0) F hl rfl rfl rfl (by omega) hL S dL_law_270 dL_law_271 dL_law_273 dL_law_274 dL_law_275 ?_
  refine l_call (As := [.int (xs (i + 1))]) (rest := []) F dL_law_276 lo_26 rfl rfl rfl (by decide) e1 rfl rfl rfl hl.1 hc1 hc2 Rp S (fun H locs Rp S => ?_)
  refine lv_aload_n F.1 F.2.1 dL_law_279 rfl (lv_at hl 2 rfl) ?_
  refine l_arg (k := 1) (q0 := 4) (q4 := 0) F hl rfl rfl rfl (by omega) hL S dL_law_280 dL_law_281 dL_law_283 dL_law_284 dL_law_285 ?_
  refine l_call (As := [.int (xs (i + 1))]) (rest := [.int v]) F dL_law_286 lo_30 rfl rfl rfl (Nat.le_of_ble_eq_true rfl) e2 rfl rfl rfl hl.1 hc1 hc2 Rp S (fun H locs Rp S => ?_)
  refine lv_icmp_eq F.1 F.2.1 dL_law_289 (tgt := 1518) (by decide) (fun _ => ?_) (fun q => absurd rfl q)
  exact kk I2 J2 R1 H locs inv2 Rp S
theorem lc_fault {I : Mem} {J : MemL} {R : MemR} {i : Nat} {H : Heap} {locs : List Loc} {cells slots : Nat} {LS : Array Slot} (F : LF p s m meth c bs L xs D cy) (hl : lv_has LS 7 (lvB s.heap.size bs i)) (inv : lInv I R) (Rp : Rep D cy s.heap.size (hp I J R) H) (S : va_S (fun q => s.heap.size ≤ q) s.heap H locs) (hi : i + 6 ≤ L) (hL : L < 2 ^ 31) (hc1 : cells ≤ 601024) (hc2 : slots ≤ 7293034)
    (kk : ∀ (I : Mem) (J : MemL) (R : MemR) (H : Heap) (locs : List Loc), lInv I R → Rep D cy s.heap.size (hp I J R) H → va_S (fun q => s.heap.size ≤ q) s.heap H locs → W p l e room_1 s m #[Value.ref bs] below meth c H locs cells slots Q (F0 m 1518 LS [])) :
    W p l e room_1 s m #[Value.ref bs] below meth c H locs cells slots Q (F0 m 294 LS []) := by
  obtain ⟨v, I1, J1, R1, I2, J2, e1, e2, inv2⟩ := pr_fault (J := J) inv (x := xs (i + 1))
  refine lv_aload_n F.1 F.2.1 dL_law_294 rfl (lv_at hl 3 rfl) ?_
  refine l_arg (k := 1) (q0 := 4) (q4 := 0) F hl rfl rfl rfl (by omega) hL S dL_law_295 dL_law_296 dL_law_298 dL_law_299 dL_law_300 ?_
  refine l_call (As := [.int (xs (i + 1))]) (rest := []) F dL_law_301 lo_31 rfl rfl rfl (by decide) e1 rfl rfl rfl hl.1 hc1 hc2 Rp S (fun H locs Rp S => ?_)
  refine lv_aload_n F.1 F.2.1 dL_law_304 rfl (lv_at hl 2 rfl) ?_
  refine l_arg (k := 1) (q0 := 4) (q4 := 0) F hl rfl rfl rfl (by omega) hL S dL_law_305 dL_law_306 dL_law_308 dL_law_309 dL_law_310 ?_
  refine l_call (As := [.int (xs (i + 1))]) (rest := [.int v]) F dL_law_311 lo_34 rfl rfl rfl (Nat.le_of_ble_eq_true rfl) e2 rfl rfl rfl hl.1 hc1 hc2 Rp S (fun H locs Rp S => ?_)
  refine lv_icmp_eq F.1 F.2.1 dL_law_314 (tgt := 1518) (by decide) (fun _ => ?_) (fun q => absurd rfl q)
  exact kk I2 J2 R1 H locs inv2 Rp S
theorem lc_named {I : Mem} {J : MemL} {R : MemR} {i : Nat} {H : Heap} {locs : List Loc} {cells slots : Nat} {LS : Array Slot} (F : LF p s m meth c bs L xs D cy) (hl : lv_has LS 7 (lvB s.heap.size bs i)) (inv : lInv I R) (Rp : Rep D cy s.heap.size (hp I J R) H) (S : va_S (fun q => s.heap.size ≤ q) s.heap H locs) (hi : i + 6 ≤ L) (hL : L < 2 ^ 31) (hc1 : cells ≤ 601024) (hc2 : slots ≤ 7293034)
    (kk : ∀ (I : Mem) (J : MemL) (R : MemR) (H : Heap) (locs : List Loc), lInv I R → Rep D cy s.heap.size (hp I J R) H → va_S (fun q => s.heap.size ≤ q) s.heap H locs → W p l e room_1 s m #[Value.ref bs] below meth c H locs cells slots Q (F0 m 1518 LS [])) :
    W p l e room_1 s m #[Value.ref bs] below meth c H locs cells slots Q (F0 m 319 LS []) := by
  obtain ⟨v, I1, J1, R1, I2, J2, e1, e2, inv2⟩ := pr_named (J := J) inv (x := xs (i + 1)) (y := xs (i + 2))
  refine lv_aload_n F.1 F.2.1 dL_law_319 rfl (lv_at hl 3 rfl) ?_
  refine l_arg (k := 1) (q0 := 4) (q4 := 0) F hl rfl rfl rfl (by omega) hL S dL_law_320 dL_law_321 dL_law_323 dL_law_324 dL_law_325 ?_
  refine l_arg (k := 2) (q0 := 4) (q4 := 0) F hl rfl rfl rfl (by omega) hL S dL_law_326 dL_law_327 dL_law_329 dL_law_330 dL_law_331 ?_
  refine l_call (As := [.int (xs (i + 1)), .int (xs (i + 2))]) (rest := []) F dL_law_332 lo_35 rfl rfl rfl (by decide) e1 rfl rfl rfl hl.1 hc1 hc2 Rp S (fun H locs Rp S => ?_)
  refine lv_aload_n F.1 F.2.1 dL_law_335 rfl (lv_at hl 2 rfl) ?_
  refine l_arg (k := 1) (q0 := 4) (q4 := 0) F hl rfl rfl rfl (by omega) hL S dL_law_336 dL_law_337 dL_law_339 dL_law_340 dL_law_341 ?_
  refine l_arg (k := 2) (q0 := 4) (q4 := 0) F hl rfl rfl rfl (by omega) hL S dL_law_342 dL_law_343 dL_law_345 dL_law_346 dL_law_347 ?_
  refine l_call (As := [.int (xs (i + 1)), .int (xs (i + 2))]) (rest := [.int v]) F dL_law_348 lo_38 rfl rfl rfl (Nat.le_of_ble_eq_true rfl) e2 rfl rfl rfl hl.1 hc1 hc2 Rp S (fun H locs Rp S => ?_)
  refine lv_icmp_eq F.1 F.2.1 dL_law_351 (tgt := 1518) (by decide) (fun _ => ?_) (fun q => absurd rfl q)
  exact kk I2 J2 R1 H locs inv2 Rp S
theorem lc_reach {I : Mem} {J : MemL} {R : MemR} {i : Nat} {H : Heap} {locs : List Loc} {cells slots : Nat} {LS : Array Slot} (F : LF p s m meth c bs L xs D cy) (hl : lv_has LS 7 (lvB s.heap.size bs i)) (inv : lInv I R) (Rp : Rep D cy s.heap.size (hp I J R) H) (S : va_S (fun q => s.heap.size ≤ q) s.heap H locs) (hi : i + 6 ≤ L) (hL : L < 2 ^ 31) (hc1 : cells ≤ 601024) (hc2 : slots ≤ 7293034)
    (kk : ∀ (I : Mem) (J : MemL) (R : MemR) (H : Heap) (locs : List Loc), lInv I R → Rep D cy s.heap.size (hp I J R) H → va_S (fun q => s.heap.size ≤ q) s.heap H locs → W p l e room_1 s m #[Value.ref bs] below meth c H locs cells slots Q (F0 m 1518 LS [])) :
    W p l e room_1 s m #[Value.ref bs] below meth c H locs cells slots Q (F0 m 424 LS []) := by
  obtain ⟨v, I1, J1, R1, I2, J2, e1, e2, inv2⟩ := pr_reach (J := J) inv (x := xs (i + 1)) (y := xs (i + 2))
  refine lv_aload_n F.1 F.2.1 dL_law_424 rfl (lv_at hl 3 rfl) ?_
  refine l_arg (k := 1) (q0 := 4) (q4 := 0) F hl rfl rfl rfl (by omega) hL S dL_law_425 dL_law_426 dL_law_428 dL_law_429 dL_law_430 ?_
  refine l_arg (k := 2) (q0 := 4) (q4 := 0) F hl rfl rfl rfl (by omega) hL S dL_law_431 dL_law_432 dL_law_434 dL_law_435 dL_law_436 ?_
  refine l_call (As := [.int (xs (i + 1)), .int (xs (i + 2))]) (rest := []) F dL_law_437 lo_49 rfl rfl rfl (by decide) e1 rfl rfl rfl hl.1 hc1 hc2 Rp S (fun H locs Rp S => ?_)
  refine lv_aload_n F.1 F.2.1 dL_law_440 rfl (lv_at hl 2 rfl) ?_
  refine l_arg (k := 1) (q0 := 4) (q4 := 0) F hl rfl rfl rfl (by omega) hL S dL_law_441 dL_law_442 dL_law_444 dL_law_445 dL_law_446 ?_
  refine l_arg (k := 2) (q0 := 4) (q4 := 0) F hl rfl rfl rfl (by omega) hL S dL_law_447 dL_law_448 dL_law_450 dL_law_451 dL_law_452 ?_
  refine l_call (As := [.int (xs (i + 1)), .int (xs (i + 2))]) (rest := [.int v]) F dL_law_453 lo_52 rfl rfl rfl (Nat.le_of_ble_eq_true rfl) e2 rfl rfl rfl hl.1 hc1 hc2 Rp S (fun H locs Rp S => ?_)
  refine lv_icmp_eq F.1 F.2.1 dL_law_456 (tgt := 1518) (by decide) (fun _ => ?_) (fun q => absurd rfl q)
  exact kk I2 J2 R1 H locs inv2 Rp S
theorem lc_pull {I : Mem} {J : MemL} {R : MemR} {i : Nat} {H : Heap} {locs : List Loc} {cells slots : Nat} {LS : Array Slot} (F : LF p s m meth c bs L xs D cy) (hl : lv_has LS 7 (lvB s.heap.size bs i)) (inv : lInv I R) (Rp : Rep D cy s.heap.size (hp I J R) H) (S : va_S (fun q => s.heap.size ≤ q) s.heap H locs) (hi : i + 6 ≤ L) (hL : L < 2 ^ 31) (hc1 : cells ≤ 601024) (hc2 : slots ≤ 7293034)
    (kk : ∀ (I : Mem) (J : MemL) (R : MemR) (H : Heap) (locs : List Loc), lInv I R → Rep D cy s.heap.size (hp I J R) H → va_S (fun q => s.heap.size ≤ q) s.heap H locs → W p l e room_1 s m #[Value.ref bs] below meth c H locs cells slots Q (F0 m 1518 LS [])) :
    W p l e room_1 s m #[Value.ref bs] below meth c H locs cells slots Q (F0 m 461 LS []) := by
  obtain ⟨v, I1, J1, R1, I2, J2, e1, e2, inv2⟩ := pr_pull (J := J) inv (x := xs (i + 1))
  refine lv_aload_n F.1 F.2.1 dL_law_461 rfl (lv_at hl 3 rfl) ?_
  refine l_arg (k := 1) (q0 := 4) (q4 := 0) F hl rfl rfl rfl (by omega) hL S dL_law_462 dL_law_463 dL_law_465 dL_law_466 dL_law_467 ?_
  refine l_call (As := [.int (xs (i + 1))]) (rest := []) F dL_law_468 lo_53 rfl rfl rfl (by decide) e1 rfl rfl rfl hl.1 hc1 hc2 Rp S (fun H locs Rp S => ?_)
  refine lv_aload_n F.1 F.2.1 dL_law_471 rfl (lv_at hl 2 rfl) ?_
  refine l_arg (k := 1) (q0 := 4) (q4 := 0) F hl rfl rfl rfl (by omega) hL S dL_law_472 dL_law_473 dL_law_475 dL_law_476 dL_law_477 ?_
  refine l_call (As := [.int (xs (i + 1))]) (rest := [.int v]) F dL_law_478 lo_56 rfl rfl rfl (Nat.le_of_ble_eq_true rfl) e2 rfl rfl rfl hl.1 hc1 hc2 Rp S (fun H locs Rp S => ?_)
  refine lv_icmp_eq F.1 F.2.1 dL_law_481 (tgt := 1518) (by decide) (fun _ => ?_) (fun q => absurd rfl q)
  exact kk I2 J2 R1 H locs inv2 Rp S
theorem lc_steps {I : Mem} {J : MemL} {R : MemR} {i : Nat} {H : Heap} {locs : List Loc} {cells slots : Nat} {LS : Array Slot} (F : LF p s m meth c bs L xs D cy) (hl : lv_has LS 7 (lvB s.heap.size bs i)) (inv : lInv I R) (Rp : Rep D cy s.heap.size (hp I J R) H) (S : va_S (fun q => s.heap.size ≤ q) s.heap H locs) (hi : i + 6 ≤ L) (hL : L < 2 ^ 31) (hc1 : cells ≤ 601024) (hc2 : slots ≤ 7293034)
    (kk : ∀ (I : Mem) (J : MemL) (R : MemR) (H : Heap) (locs : List Loc), lInv I R → Rep D cy s.heap.size (hp I J R) H → va_S (fun q => s.heap.size ≤ q) s.heap H locs → W p l e room_1 s m #[Value.ref bs] below meth c H locs cells slots Q (F0 m 1518 LS [])) :
    W p l e room_1 s m #[Value.ref bs] below meth c H locs cells slots Q (F0 m 486 LS []) := by
  obtain ⟨v, I1, J1, R1, I2, J2, e1, e2, inv2⟩ := pr_steps (J := J) inv (x := xs (i + 1))
  refine lv_aload_n F.1 F.2.1 dL_law_486 rfl (lv_at hl 3 rfl) ?_
  refine l_arg (k := 1) (q0 := 4) (q4 := 0) F hl rfl rfl rfl (by omega) hL S dL_law_487 dL_law_488 dL_law_490 dL_law_491 dL_law_492 ?_
  refine l_call (As := [.int (xs (i + 1))]) (rest := []) F dL_law_493 lo_57 rfl rfl rfl (by decide) e1 rfl rfl rfl hl.1 hc1 hc2 Rp S (fun H locs Rp S => ?_)
  refine lv_aload_n F.1 F.2.1 dL_law_496 rfl (lv_at hl 2 rfl) ?_
  refine l_arg (k := 1) (q0 := 4) (q4 := 0) F hl rfl rfl rfl (by omega) hL S dL_law_497 dL_law_498 dL_law_500 dL_law_501 dL_law_502 ?_
  refine l_call (As := [.int (xs (i + 1))]) (rest := [.int v]) F dL_law_503 lo_60 rfl rfl rfl (Nat.le_of_ble_eq_true rfl) e2 rfl rfl rfl hl.1 hc1 hc2 Rp S (fun H locs Rp S => ?_)
  refine lv_icmp_eq F.1 F.2.1 dL_law_506 (tgt := 1518) (by decide) (fun _ => ?_) (fun q => absurd rfl q)
  exact kk I2 J2 R1 H locs inv2 Rp S
theorem lc_was {I : Mem} {J : MemL} {R : MemR} {i : Nat} {H : Heap} {locs : List Loc} {cells slots : Nat} {LS : Array Slot} (F : LF p s m meth c bs L xs D cy) (hl : lv_has LS 7 (lvB s.heap.size bs i)) (inv : lInv I R) (Rp : Rep D cy s.heap.size (hp I J R) H) (S : va_S (fun q => s.heap.size ≤ q) s.heap H locs) (hi : i + 6 ≤ L) (hL : L < 2 ^ 31) (hc1 : cells ≤ 601024) (hc2 : slots ≤ 7293034)
    (kk : ∀ (I : Mem) (J : MemL) (R : MemR) (H : Heap) (locs : List Loc), lInv I R → Rep D cy s.heap.size (hp I J R) H → va_S (fun q => s.heap.size ≤ q) s.heap H locs → W p l e room_1 s m #[Value.ref bs] below meth c H locs cells slots Q (F0 m 1518 LS [])) :
    W p l e room_1 s m #[Value.ref bs] below meth c H locs cells slots Q (F0 m 511 LS []) := by
  obtain ⟨v, I1, J1, R1, I2, J2, e1, e2, inv2⟩ := pr_was (J := J) inv (x := xs (i + 1)) (y := xs (i + 2))
  refine lv_aload_n F.1 F.2.1 dL_law_511 rfl (lv_at hl 3 rfl) ?_
  refine l_arg (k := 1) (q0 := 4) (q4 := 0) F hl rfl rfl rfl (by omega) hL S dL_law_512 dL_law_513 dL_law_515 dL_law_516 dL_law_517 ?_
  refine l_arg (k := 2) (q0 := 4) (q4 := 0) F hl rfl rfl rfl (by omega) hL S dL_law_518 dL_law_519 dL_law_521 dL_law_522 dL_law_523 ?_
  refine l_call (As := [.int (xs (i + 1)), .int (xs (i + 2))]) (rest := []) F dL_law_524 lo_61 rfl rfl rfl (by decide) e1 rfl rfl rfl hl.1 hc1 hc2 Rp S (fun H locs Rp S => ?_)
  refine lv_aload_n F.1 F.2.1 dL_law_527 rfl (lv_at hl 2 rfl) ?_
  refine l_arg (k := 1) (q0 := 4) (q4 := 0) F hl rfl rfl rfl (by omega) hL S dL_law_528 dL_law_529 dL_law_531 dL_law_532 dL_law_533 ?_
  refine l_arg (k := 2) (q0 := 4) (q4 := 0) F hl rfl rfl rfl (by omega) hL S dL_law_534 dL_law_535 dL_law_537 dL_law_538 dL_law_539 ?_
  refine l_call (As := [.int (xs (i + 1)), .int (xs (i + 2))]) (rest := [.int v]) F dL_law_540 lo_64 rfl rfl rfl (Nat.le_of_ble_eq_true rfl) e2 rfl rfl rfl hl.1 hc1 hc2 Rp S (fun H locs Rp S => ?_)
  refine lv_icmp_eq F.1 F.2.1 dL_law_543 (tgt := 1518) (by decide) (fun _ => ?_) (fun q => absurd rfl q)
  exact kk I2 J2 R1 H locs inv2 Rp S
theorem lc_stroke {I : Mem} {J : MemL} {R : MemR} {i : Nat} {H : Heap} {locs : List Loc} {cells slots : Nat} {LS : Array Slot} (F : LF p s m meth c bs L xs D cy) (hl : lv_has LS 7 (lvB s.heap.size bs i)) (inv : lInv I R) (Rp : Rep D cy s.heap.size (hp I J R) H) (S : va_S (fun q => s.heap.size ≤ q) s.heap H locs) (hi : i + 6 ≤ L) (hL : L < 2 ^ 31) (hc1 : cells ≤ 601024) (hc2 : slots ≤ 7293034)
    (kk : ∀ (I : Mem) (J : MemL) (R : MemR) (H : Heap) (locs : List Loc), lInv I R → Rep D cy s.heap.size (hp I J R) H → va_S (fun q => s.heap.size ≤ q) s.heap H locs → W p l e room_1 s m #[Value.ref bs] below meth c H locs cells slots Q (F0 m 1518 LS [])) :
    W p l e room_1 s m #[Value.ref bs] below meth c H locs cells slots Q (F0 m 548 LS []) := by
  obtain ⟨v, I1, J1, R1, I2, J2, e1, e2, inv2⟩ := pr_stroke (J := J) inv (x := xs (i + 1)) (y := xs (i + 2))
  refine lv_aload_n F.1 F.2.1 dL_law_548 rfl (lv_at hl 3 rfl) ?_
  refine l_arg (k := 1) (q0 := 4) (q4 := 0) F hl rfl rfl rfl (by omega) hL S dL_law_549 dL_law_550 dL_law_552 dL_law_553 dL_law_554 ?_
  refine l_arg (k := 2) (q0 := 4) (q4 := 0) F hl rfl rfl rfl (by omega) hL S dL_law_555 dL_law_556 dL_law_558 dL_law_559 dL_law_560 ?_
  refine l_call (As := [.int (xs (i + 1)), .int (xs (i + 2))]) (rest := []) F dL_law_561 lo_65 rfl rfl rfl (by decide) e1 rfl rfl rfl hl.1 hc1 hc2 Rp S (fun H locs Rp S => ?_)
  refine lv_aload_n F.1 F.2.1 dL_law_564 rfl (lv_at hl 2 rfl) ?_
  refine l_arg (k := 1) (q0 := 4) (q4 := 0) F hl rfl rfl rfl (by omega) hL S dL_law_565 dL_law_566 dL_law_568 dL_law_569 dL_law_570 ?_
  refine l_arg (k := 2) (q0 := 4) (q4 := 0) F hl rfl rfl rfl (by omega) hL S dL_law_571 dL_law_572 dL_law_574 dL_law_575 dL_law_576 ?_
  refine l_call (As := [.int (xs (i + 1)), .int (xs (i + 2))]) (rest := [.int v]) F dL_law_577 lo_68 rfl rfl rfl (Nat.le_of_ble_eq_true rfl) e2 rfl rfl rfl hl.1 hc1 hc2 Rp S (fun H locs Rp S => ?_)
  refine lv_icmp_eq F.1 F.2.1 dL_law_580 (tgt := 1518) (by decide) (fun _ => ?_) (fun q => absurd rfl q)
  exact kk I2 J2 R1 H locs inv2 Rp S
theorem lc_apart {I : Mem} {J : MemL} {R : MemR} {i : Nat} {H : Heap} {locs : List Loc} {cells slots : Nat} {LS : Array Slot} (F : LF p s m meth c bs L xs D cy) (hl : lv_has LS 7 (lvB s.heap.size bs i)) (inv : lInv I R) (Rp : Rep D cy s.heap.size (hp I J R) H) (S : va_S (fun q => s.heap.size ≤ q) s.heap H locs) (hi : i + 6 ≤ L) (hL : L < 2 ^ 31) (hc1 : cells ≤ 601024) (hc2 : slots ≤ 7293034)
    (kk : ∀ (I : Mem) (J : MemL) (R : MemR) (H : Heap) (locs : List Loc), lInv I R → Rep D cy s.heap.size (hp I J R) H → va_S (fun q => s.heap.size ≤ q) s.heap H locs → W p l e room_1 s m #[Value.ref bs] below meth c H locs cells slots Q (F0 m 1518 LS [])) :
    W p l e room_1 s m #[Value.ref bs] below meth c H locs cells slots Q (F0 m 585 LS []) := by
  obtain ⟨v, I1, J1, R1, I2, J2, e1, e2, inv2⟩ := pr_apart (J := J) inv (x := xs (i + 1)) (y := xs (i + 2))
  refine lv_aload_n F.1 F.2.1 dL_law_585 rfl (lv_at hl 3 rfl) ?_
  refine l_arg (k := 1) (q0 := 4) (q4 := 0) F hl rfl rfl rfl (by omega) hL S dL_law_586 dL_law_587 dL_law_589 dL_law_590 dL_law_591 ?_
  refine l_arg (k := 2) (q0 := 4) (q4 := 0) F hl rfl rfl rfl (by omega) hL S dL_law_592 dL_law_593 dL_law_595 dL_law_596 dL_law_597 ?_
  refine l_call (As := [.int (xs (i + 1)), .int (xs (i + 2))]) (rest := []) F dL_law_598 lo_69 rfl rfl rfl (by decide) e1 rfl rfl rfl hl.1 hc1 hc2 Rp S (fun H locs Rp S => ?_)
  refine lv_aload_n F.1 F.2.1 dL_law_601 rfl (lv_at hl 2 rfl) ?_
  refine l_arg (k := 1) (q0 := 4) (q4 := 0) F hl rfl rfl rfl (by omega) hL S dL_law_602 dL_law_603 dL_law_605 dL_law_606 dL_law_607 ?_
  refine l_arg (k := 2) (q0 := 4) (q4 := 0) F hl rfl rfl rfl (by omega) hL S dL_law_608 dL_law_609 dL_law_611 dL_law_612 dL_law_613 ?_
  refine l_call (As := [.int (xs (i + 1)), .int (xs (i + 2))]) (rest := [.int v]) F dL_law_614 lo_72 rfl rfl rfl (Nat.le_of_ble_eq_true rfl) e2 rfl rfl rfl hl.1 hc1 hc2 Rp S (fun H locs Rp S => ?_)
  refine lv_icmp_eq F.1 F.2.1 dL_law_617 (tgt := 1518) (by decide) (fun _ => ?_) (fun q => absurd rfl q)
  exact kk I2 J2 R1 H locs inv2 Rp S
theorem lc_since {I : Mem} {J : MemL} {R : MemR} {i : Nat} {H : Heap} {locs : List Loc} {cells slots : Nat} {LS : Array Slot} (F : LF p s m meth c bs L xs D cy) (hl : lv_has LS 7 (lvB s.heap.size bs i)) (inv : lInv I R) (Rp : Rep D cy s.heap.size (hp I J R) H) (S : va_S (fun q => s.heap.size ≤ q) s.heap H locs) (hi : i + 6 ≤ L) (hL : L < 2 ^ 31) (hc1 : cells ≤ 601024) (hc2 : slots ≤ 7293034)
    (kk : ∀ (I : Mem) (J : MemL) (R : MemR) (H : Heap) (locs : List Loc), lInv I R → Rep D cy s.heap.size (hp I J R) H → va_S (fun q => s.heap.size ≤ q) s.heap H locs → W p l e room_1 s m #[Value.ref bs] below meth c H locs cells slots Q (F0 m 1518 LS [])) :
    W p l e room_1 s m #[Value.ref bs] below meth c H locs cells slots Q (F0 m 622 LS []) := by
  obtain ⟨v, I1, J1, R1, I2, J2, e1, e2, inv2⟩ := pr_since (J := J) inv (x := xs (i + 1)) (y := xs (i + 2)) (z := xs (i + 3)) (w := bxF (xs (i + 4)))
  refine lv_aload_n F.1 F.2.1 dL_law_622 rfl (lv_at hl 3 rfl) ?_
  refine l_arg (k := 1) (q0 := 4) (q4 := 0) F hl rfl rfl rfl (by omega) hL S dL_law_623 dL_law_624 dL_law_626 dL_law_627 dL_law_628 ?_
  refine l_arg (k := 2) (q0 := 4) (q4 := 0) F hl rfl rfl rfl (by omega) hL S dL_law_629 dL_law_630 dL_law_632 dL_law_633 dL_law_634 ?_
  refine l_arg (k := 3) (q0 := 4) (q4 := 0) F hl rfl rfl rfl (by omega) hL S dL_law_635 dL_law_636 dL_law_638 dL_law_639 dL_law_640 ?_
  refine l_arg (k := 4) (q0 := 4) (q4 := 0) F hl rfl rfl rfl (by omega) hL S dL_law_641 dL_law_642 dL_law_644 dL_law_645 dL_law_646 ?_
  refine l_bool F dL_law_647 dL_law_650 dL_law_651 dL_law_654 ?_
  refine l_call (As := [.int (xs (i + 1)), .int (xs (i + 2)), .int (xs (i + 3)), .int (bxF (xs (i + 4)))]) (rest := []) F dL_law_655 lo_73 rfl rfl rfl (by decide) e1 rfl rfl rfl hl.1 hc1 hc2 Rp S (fun H locs Rp S => ?_)
  refine lv_aload_n F.1 F.2.1 dL_law_658 rfl (lv_at hl 2 rfl) ?_
  refine l_arg (k := 1) (q0 := 4) (q4 := 0) F hl rfl rfl rfl (by omega) hL S dL_law_659 dL_law_660 dL_law_662 dL_law_663 dL_law_664 ?_
  refine l_arg (k := 2) (q0 := 4) (q4 := 0) F hl rfl rfl rfl (by omega) hL S dL_law_665 dL_law_666 dL_law_668 dL_law_669 dL_law_670 ?_
  refine l_arg (k := 3) (q0 := 4) (q4 := 0) F hl rfl rfl rfl (by omega) hL S dL_law_671 dL_law_672 dL_law_674 dL_law_675 dL_law_676 ?_
  refine l_arg (k := 4) (q0 := 4) (q4 := 0) F hl rfl rfl rfl (by omega) hL S dL_law_677 dL_law_678 dL_law_680 dL_law_681 dL_law_682 ?_
  refine l_bool F dL_law_683 dL_law_686 dL_law_687 dL_law_690 ?_
  refine l_call (As := [.int (xs (i + 1)), .int (xs (i + 2)), .int (xs (i + 3)), .int (bxF (xs (i + 4)))]) (rest := [.int v]) F dL_law_691 lo_77 rfl rfl rfl (Nat.le_of_ble_eq_true rfl) e2 rfl rfl rfl hl.1 hc1 hc2 Rp S (fun H locs Rp S => ?_)
  refine lv_icmp_eq F.1 F.2.1 dL_law_694 (tgt := 1518) (by decide) (fun _ => ?_) (fun q => absurd rfl q)
  exact kk I2 J2 R1 H locs inv2 Rp S
theorem lc_groups {I : Mem} {J : MemL} {R : MemR} {i : Nat} {H : Heap} {locs : List Loc} {cells slots : Nat} {LS : Array Slot} (F : LF p s m meth c bs L xs D cy) (hl : lv_has LS 7 (lvB s.heap.size bs i)) (inv : lInv I R) (Rp : Rep D cy s.heap.size (hp I J R) H) (S : va_S (fun q => s.heap.size ≤ q) s.heap H locs) (hi : i + 6 ≤ L) (hL : L < 2 ^ 31) (hc1 : cells ≤ 601024) (hc2 : slots ≤ 7293034)
    (kk : ∀ (I : Mem) (J : MemL) (R : MemR) (H : Heap) (locs : List Loc), lInv I R → Rep D cy s.heap.size (hp I J R) H → va_S (fun q => s.heap.size ≤ q) s.heap H locs → W p l e room_1 s m #[Value.ref bs] below meth c H locs cells slots Q (F0 m 1518 LS [])) :
    W p l e room_1 s m #[Value.ref bs] below meth c H locs cells slots Q (F0 m 699 LS []) := by
  obtain ⟨v, I1, J1, R1, I2, J2, e1, e2, inv2⟩ := pr_groups (J := J) inv (x := xs (i + 1))
  refine lv_aload_n F.1 F.2.1 dL_law_699 rfl (lv_at hl 3 rfl) ?_
  refine l_arg (k := 1) (q0 := 4) (q4 := 0) F hl rfl rfl rfl (by omega) hL S dL_law_700 dL_law_701 dL_law_703 dL_law_704 dL_law_705 ?_
  refine l_call (As := [.int (xs (i + 1))]) (rest := []) F dL_law_706 lo_78 rfl rfl rfl (by decide) e1 rfl rfl rfl hl.1 hc1 hc2 Rp S (fun H locs Rp S => ?_)
  refine lv_aload_n F.1 F.2.1 dL_law_709 rfl (lv_at hl 2 rfl) ?_
  refine l_arg (k := 1) (q0 := 4) (q4 := 0) F hl rfl rfl rfl (by omega) hL S dL_law_710 dL_law_711 dL_law_713 dL_law_714 dL_law_715 ?_
  refine l_call (As := [.int (xs (i + 1))]) (rest := [.int v]) F dL_law_716 lo_81 rfl rfl rfl (Nat.le_of_ble_eq_true rfl) e2 rfl rfl rfl hl.1 hc1 hc2 Rp S (fun H locs Rp S => ?_)
  refine lv_icmp_eq F.1 F.2.1 dL_law_719 (tgt := 1518) (by decide) (fun _ => ?_) (fun q => absurd rfl q)
  exact kk I2 J2 R1 H locs inv2 Rp S
theorem lc_group {I : Mem} {J : MemL} {R : MemR} {i : Nat} {H : Heap} {locs : List Loc} {cells slots : Nat} {LS : Array Slot} (F : LF p s m meth c bs L xs D cy) (hl : lv_has LS 7 (lvB s.heap.size bs i)) (inv : lInv I R) (Rp : Rep D cy s.heap.size (hp I J R) H) (S : va_S (fun q => s.heap.size ≤ q) s.heap H locs) (hi : i + 6 ≤ L) (hL : L < 2 ^ 31) (hc1 : cells ≤ 601024) (hc2 : slots ≤ 7293034)
    (kk : ∀ (I : Mem) (J : MemL) (R : MemR) (H : Heap) (locs : List Loc), lInv I R → Rep D cy s.heap.size (hp I J R) H → va_S (fun q => s.heap.size ≤ q) s.heap H locs → W p l e room_1 s m #[Value.ref bs] below meth c H locs cells slots Q (F0 m 1518 LS [])) :
    W p l e room_1 s m #[Value.ref bs] below meth c H locs cells slots Q (F0 m 724 LS []) := by
  obtain ⟨v, I1, J1, R1, I2, J2, e1, e2, inv2⟩ := pr_group (J := J) inv (x := xs (i + 1)) (y := xs (i + 2))
  refine lv_aload_n F.1 F.2.1 dL_law_724 rfl (lv_at hl 3 rfl) ?_
  refine l_arg (k := 1) (q0 := 4) (q4 := 0) F hl rfl rfl rfl (by omega) hL S dL_law_725 dL_law_726 dL_law_728 dL_law_729 dL_law_730 ?_
  refine l_arg (k := 2) (q0 := 4) (q4 := 0) F hl rfl rfl rfl (by omega) hL S dL_law_731 dL_law_732 dL_law_734 dL_law_735 dL_law_736 ?_
  refine l_call (As := [.int (xs (i + 1)), .int (xs (i + 2))]) (rest := []) F dL_law_737 lo_82 rfl rfl rfl (by decide) e1 rfl rfl rfl hl.1 hc1 hc2 Rp S (fun H locs Rp S => ?_)
  refine lv_aload_n F.1 F.2.1 dL_law_740 rfl (lv_at hl 2 rfl) ?_
  refine l_arg (k := 1) (q0 := 4) (q4 := 0) F hl rfl rfl rfl (by omega) hL S dL_law_741 dL_law_742 dL_law_744 dL_law_745 dL_law_746 ?_
  refine l_arg (k := 2) (q0 := 4) (q4 := 0) F hl rfl rfl rfl (by omega) hL S dL_law_747 dL_law_748 dL_law_750 dL_law_751 dL_law_752 ?_
  refine l_call (As := [.int (xs (i + 1)), .int (xs (i + 2))]) (rest := [.int v]) F dL_law_753 lo_85 rfl rfl rfl (Nat.le_of_ble_eq_true rfl) e2 rfl rfl rfl hl.1 hc1 hc2 Rp S (fun H locs Rp S => ?_)
  refine lv_icmp_eq F.1 F.2.1 dL_law_756 (tgt := 1518) (by decide) (fun _ => ?_) (fun q => absurd rfl q)
  exact kk I2 J2 R1 H locs inv2 Rp S
theorem lc_falls {I : Mem} {J : MemL} {R : MemR} {i : Nat} {H : Heap} {locs : List Loc} {cells slots : Nat} {LS : Array Slot} (F : LF p s m meth c bs L xs D cy) (hl : lv_has LS 7 (lvB s.heap.size bs i)) (inv : lInv I R) (Rp : Rep D cy s.heap.size (hp I J R) H) (S : va_S (fun q => s.heap.size ≤ q) s.heap H locs) (hi : i + 6 ≤ L) (hL : L < 2 ^ 31) (hc1 : cells ≤ 601024) (hc2 : slots ≤ 7293034)
    (kk : ∀ (I : Mem) (J : MemL) (R : MemR) (H : Heap) (locs : List Loc), lInv I R → Rep D cy s.heap.size (hp I J R) H → va_S (fun q => s.heap.size ≤ q) s.heap H locs → W p l e room_1 s m #[Value.ref bs] below meth c H locs cells slots Q (F0 m 1518 LS [])) :
    W p l e room_1 s m #[Value.ref bs] below meth c H locs cells slots Q (F0 m 761 LS []) := by
  obtain ⟨v, I1, J1, R1, I2, J2, e1, e2, inv2⟩ := pr_falls (J := J) inv
  refine lv_aload_n F.1 F.2.1 dL_law_761 rfl (lv_at hl 3 rfl) ?_
  
  refine l_call (As := []) (rest := []) F dL_law_762 lo_86 rfl rfl rfl (by decide) e1 rfl rfl rfl hl.1 hc1 hc2 Rp S (fun H locs Rp S => ?_)
  refine lv_aload_n F.1 F.2.1 dL_law_765 rfl (lv_at hl 2 rfl) ?_
  
  refine l_call (As := []) (rest := [.int v]) F dL_law_766 lo_89 rfl rfl rfl (Nat.le_of_ble_eq_true rfl) e2 rfl rfl rfl hl.1 hc1 hc2 Rp S (fun H locs Rp S => ?_)
  refine lv_icmp_eq F.1 F.2.1 dL_law_769 (tgt := 1518) (by decide) (fun _ => ?_) (fun q => absurd rfl q)
  exact kk I2 J2 R1 H locs inv2 Rp S
theorem lc_fall {I : Mem} {J : MemL} {R : MemR} {i : Nat} {H : Heap} {locs : List Loc} {cells slots : Nat} {LS : Array Slot} (F : LF p s m meth c bs L xs D cy) (hl : lv_has LS 7 (lvB s.heap.size bs i)) (inv : lInv I R) (Rp : Rep D cy s.heap.size (hp I J R) H) (S : va_S (fun q => s.heap.size ≤ q) s.heap H locs) (hi : i + 6 ≤ L) (hL : L < 2 ^ 31) (hc1 : cells ≤ 601024) (hc2 : slots ≤ 7293034)
    (kk : ∀ (I : Mem) (J : MemL) (R : MemR) (H : Heap) (locs : List Loc), lInv I R → Rep D cy s.heap.size (hp I J R) H → va_S (fun q => s.heap.size ≤ q) s.heap H locs → W p l e room_1 s m #[Value.ref bs] below meth c H locs cells slots Q (F0 m 1518 LS [])) :
    W p l e room_1 s m #[Value.ref bs] below meth c H locs cells slots Q (F0 m 774 LS []) := by
  obtain ⟨v, I1, J1, R1, I2, J2, e1, e2, inv2⟩ := pr_fall (J := J) inv (x := xs (i + 1))
  refine lv_aload_n F.1 F.2.1 dL_law_774 rfl (lv_at hl 3 rfl) ?_
  refine l_arg (k := 1) (q0 := 4) (q4 := 0) F hl rfl rfl rfl (by omega) hL S dL_law_775 dL_law_776 dL_law_778 dL_law_779 dL_law_780 ?_
  refine l_call (As := [.int (xs (i + 1))]) (rest := []) F dL_law_781 lo_90 rfl rfl rfl (by decide) e1 rfl rfl rfl hl.1 hc1 hc2 Rp S (fun H locs Rp S => ?_)
  refine lv_aload_n F.1 F.2.1 dL_law_784 rfl (lv_at hl 2 rfl) ?_
  refine l_arg (k := 1) (q0 := 4) (q4 := 0) F hl rfl rfl rfl (by omega) hL S dL_law_785 dL_law_786 dL_law_788 dL_law_789 dL_law_790 ?_
  refine l_call (As := [.int (xs (i + 1))]) (rest := [.int v]) F dL_law_791 lo_93 rfl rfl rfl (Nat.le_of_ble_eq_true rfl) e2 rfl rfl rfl hl.1 hc1 hc2 Rp S (fun H locs Rp S => ?_)
  refine lv_icmp_eq F.1 F.2.1 dL_law_794 (tgt := 1518) (by decide) (fun _ => ?_) (fun q => absurd rfl q)
  exact kk I2 J2 R1 H locs inv2 Rp S
theorem lc_hang {I : Mem} {J : MemL} {R : MemR} {i : Nat} {H : Heap} {locs : List Loc} {cells slots : Nat} {LS : Array Slot} (F : LF p s m meth c bs L xs D cy) (hl : lv_has LS 7 (lvB s.heap.size bs i)) (inv : lInv I R) (Rp : Rep D cy s.heap.size (hp I J R) H) (S : va_S (fun q => s.heap.size ≤ q) s.heap H locs) (hi : i + 6 ≤ L) (hL : L < 2 ^ 31) (hc1 : cells ≤ 601024) (hc2 : slots ≤ 7293034)
    (kk : ∀ (I : Mem) (J : MemL) (R : MemR) (H : Heap) (locs : List Loc), lInv I R → Rep D cy s.heap.size (hp I J R) H → va_S (fun q => s.heap.size ≤ q) s.heap H locs → W p l e room_1 s m #[Value.ref bs] below meth c H locs cells slots Q (F0 m 1518 LS [])) :
    W p l e room_1 s m #[Value.ref bs] below meth c H locs cells slots Q (F0 m 799 LS []) := by
  obtain ⟨v, I1, J1, R1, I2, J2, e1, e2, inv2⟩ := pr_hang (J := J) inv (x := xs (i + 1)) (y := xs (i + 2)) (z := xs (i + 3))
  refine lv_aload_n F.1 F.2.1 dL_law_799 rfl (lv_at hl 3 rfl) ?_
  refine l_arg (k := 1) (q0 := 4) (q4 := 0) F hl rfl rfl rfl (by omega) hL S dL_law_800 dL_law_801 dL_law_803 dL_law_804 dL_law_805 ?_
  refine l_arg (k := 2) (q0 := 4) (q4 := 0) F hl rfl rfl rfl (by omega) hL S dL_law_806 dL_law_807 dL_law_809 dL_law_810 dL_law_811 ?_
  refine l_arg (k := 3) (q0 := 4) (q4 := 0) F hl rfl rfl rfl (by omega) hL S dL_law_812 dL_law_813 dL_law_815 dL_law_816 dL_law_817 ?_
  refine l_call (As := [.int (xs (i + 1)), .int (xs (i + 2)), .int (xs (i + 3))]) (rest := []) F dL_law_818 lo_94 rfl rfl rfl (by decide) e1 rfl rfl rfl hl.1 hc1 hc2 Rp S (fun H locs Rp S => ?_)
  refine lv_aload_n F.1 F.2.1 dL_law_821 rfl (lv_at hl 2 rfl) ?_
  refine l_arg (k := 1) (q0 := 4) (q4 := 0) F hl rfl rfl rfl (by omega) hL S dL_law_822 dL_law_823 dL_law_825 dL_law_826 dL_law_827 ?_
  refine l_arg (k := 2) (q0 := 4) (q4 := 0) F hl rfl rfl rfl (by omega) hL S dL_law_828 dL_law_829 dL_law_831 dL_law_832 dL_law_833 ?_
  refine l_arg (k := 3) (q0 := 4) (q4 := 0) F hl rfl rfl rfl (by omega) hL S dL_law_834 dL_law_835 dL_law_837 dL_law_838 dL_law_839 ?_
  refine l_call (As := [.int (xs (i + 1)), .int (xs (i + 2)), .int (xs (i + 3))]) (rest := [.int v]) F dL_law_840 lo_98 rfl rfl rfl (Nat.le_of_ble_eq_true rfl) e2 rfl rfl rfl hl.1 hc1 hc2 Rp S (fun H locs Rp S => ?_)
  refine lv_icmp_eq F.1 F.2.1 dL_law_843 (tgt := 1518) (by decide) (fun _ => ?_) (fun q => absurd rfl q)
  exact kk I2 J2 R1 H locs inv2 Rp S
theorem lc_stop {I : Mem} {J : MemL} {R : MemR} {i : Nat} {H : Heap} {locs : List Loc} {cells slots : Nat} {LS : Array Slot} (F : LF p s m meth c bs L xs D cy) (hl : lv_has LS 7 (lvB s.heap.size bs i)) (inv : lInv I R) (Rp : Rep D cy s.heap.size (hp I J R) H) (S : va_S (fun q => s.heap.size ≤ q) s.heap H locs) (hi : i + 6 ≤ L) (hL : L < 2 ^ 31) (hc1 : cells ≤ 601024) (hc2 : slots ≤ 7293034)
    (kk : ∀ (I : Mem) (J : MemL) (R : MemR) (H : Heap) (locs : List Loc), lInv I R → Rep D cy s.heap.size (hp I J R) H → va_S (fun q => s.heap.size ≤ q) s.heap H locs → W p l e room_1 s m #[Value.ref bs] below meth c H locs cells slots Q (F0 m 1518 LS [])) :
    W p l e room_1 s m #[Value.ref bs] below meth c H locs cells slots Q (F0 m 848 LS []) := by
  obtain ⟨v, I1, J1, R1, I2, J2, e1, e2, inv2⟩ := pr_stop (J := J) inv (x := xs (i + 1))
  refine lv_aload_n F.1 F.2.1 dL_law_848 rfl (lv_at hl 3 rfl) ?_
  refine l_arg (k := 1) (q0 := 4) (q4 := 0) F hl rfl rfl rfl (by omega) hL S dL_law_849 dL_law_850 dL_law_852 dL_law_853 dL_law_854 ?_
  refine l_call (As := [.int (xs (i + 1))]) (rest := []) F dL_law_855 lo_99 rfl rfl rfl (by decide) e1 rfl rfl rfl hl.1 hc1 hc2 Rp S (fun H locs Rp S => ?_)
  refine lv_aload_n F.1 F.2.1 dL_law_858 rfl (lv_at hl 2 rfl) ?_
  refine l_arg (k := 1) (q0 := 4) (q4 := 0) F hl rfl rfl rfl (by omega) hL S dL_law_859 dL_law_860 dL_law_862 dL_law_863 dL_law_864 ?_
  refine l_call (As := [.int (xs (i + 1))]) (rest := [.int v]) F dL_law_865 lo_103 rfl rfl rfl (Nat.le_of_ble_eq_true rfl) e2 rfl rfl rfl hl.1 hc1 hc2 Rp S (fun H locs Rp S => ?_)
  refine lv_icmp_eq F.1 F.2.1 dL_law_868 (tgt := 1518) (by decide) (fun _ => ?_) (fun q => absurd rfl q)
  exact kk I2 J2 R1 H locs inv2 Rp S
theorem lc_undo {I : Mem} {J : MemL} {R : MemR} {i : Nat} {H : Heap} {locs : List Loc} {cells slots : Nat} {LS : Array Slot} (F : LF p s m meth c bs L xs D cy) (hl : lv_has LS 7 (lvB s.heap.size bs i)) (inv : lInv I R) (Rp : Rep D cy s.heap.size (hp I J R) H) (S : va_S (fun q => s.heap.size ≤ q) s.heap H locs) (hi : i + 6 ≤ L) (hL : L < 2 ^ 31) (hc1 : cells ≤ 601024) (hc2 : slots ≤ 7293034)
    (kk : ∀ (I : Mem) (J : MemL) (R : MemR) (H : Heap) (locs : List Loc), lInv I R → Rep D cy s.heap.size (hp I J R) H → va_S (fun q => s.heap.size ≤ q) s.heap H locs → W p l e room_1 s m #[Value.ref bs] below meth c H locs cells slots Q (F0 m 1518 LS [])) :
    W p l e room_1 s m #[Value.ref bs] below meth c H locs cells slots Q (F0 m 873 LS []) := by
  obtain ⟨v, I1, J1, R1, I2, J2, e1, e2, inv2⟩ := pr_undo (J := J) inv
  refine lv_aload_n F.1 F.2.1 dL_law_873 rfl (lv_at hl 3 rfl) ?_
  
  refine l_call (As := []) (rest := []) F dL_law_874 lo_104 rfl rfl rfl (by decide) e1 rfl rfl rfl hl.1 hc1 hc2 Rp S (fun H locs Rp S => ?_)
  refine lv_aload_n F.1 F.2.1 dL_law_877 rfl (lv_at hl 2 rfl) ?_
  
  refine l_call (As := []) (rest := [.int v]) F dL_law_878 lo_107 rfl rfl rfl (Nat.le_of_ble_eq_true rfl) e2 rfl rfl rfl hl.1 hc1 hc2 Rp S (fun H locs Rp S => ?_)
  refine lv_icmp_eq F.1 F.2.1 dL_law_881 (tgt := 1518) (by decide) (fun _ => ?_) (fun q => absurd rfl q)
  exact kk I2 J2 R1 H locs inv2 Rp S
theorem lc_run {I : Mem} {J : MemL} {R : MemR} {i : Nat} {H : Heap} {locs : List Loc} {cells slots : Nat} {LS : Array Slot} (F : LF p s m meth c bs L xs D cy) (hl : lv_has LS 7 (lvB s.heap.size bs i)) (inv : lInv I R) (Rp : Rep D cy s.heap.size (hp I J R) H) (S : va_S (fun q => s.heap.size ≤ q) s.heap H locs) (hi : i + 6 ≤ L) (hL : L < 2 ^ 31) (hc1 : cells ≤ 601024) (hc2 : slots ≤ 7293034)
    (kk : ∀ (I : Mem) (J : MemL) (R : MemR) (H : Heap) (locs : List Loc), lInv I R → Rep D cy s.heap.size (hp I J R) H → va_S (fun q => s.heap.size ≤ q) s.heap H locs → W p l e room_1 s m #[Value.ref bs] below meth c H locs cells slots Q (F0 m 1518 LS [])) :
    W p l e room_1 s m #[Value.ref bs] below meth c H locs cells slots Q (F0 m 886 LS []) := by
  obtain ⟨v, I1, J1, R1, I2, J2, e1, e2, inv2⟩ := pr_run (J := J) inv (x := xs (i + 1)) (y := xs (i + 2)) (z := xs (i + 3))
  refine lv_aload_n F.1 F.2.1 dL_law_886 rfl (lv_at hl 3 rfl) ?_
  refine l_arg (k := 1) (q0 := 4) (q4 := 0) F hl rfl rfl rfl (by omega) hL S dL_law_887 dL_law_888 dL_law_890 dL_law_891 dL_law_892 ?_
  refine l_arg (k := 2) (q0 := 4) (q4 := 0) F hl rfl rfl rfl (by omega) hL S dL_law_893 dL_law_894 dL_law_896 dL_law_897 dL_law_898 ?_
  refine l_arg (k := 3) (q0 := 4) (q4 := 0) F hl rfl rfl rfl (by omega) hL S dL_law_899 dL_law_900 dL_law_902 dL_law_903 dL_law_904 ?_
  refine l_call (As := [.int (xs (i + 1)), .int (xs (i + 2)), .int (xs (i + 3))]) (rest := []) F dL_law_905 lo_108 rfl rfl rfl (by decide) e1 rfl rfl rfl hl.1 hc1 hc2 Rp S (fun H locs Rp S => ?_)
  refine lv_aload_n F.1 F.2.1 dL_law_908 rfl (lv_at hl 2 rfl) ?_
  refine l_arg (k := 1) (q0 := 4) (q4 := 0) F hl rfl rfl rfl (by omega) hL S dL_law_909 dL_law_910 dL_law_912 dL_law_913 dL_law_914 ?_
  refine l_arg (k := 2) (q0 := 4) (q4 := 0) F hl rfl rfl rfl (by omega) hL S dL_law_915 dL_law_916 dL_law_918 dL_law_919 dL_law_920 ?_
  refine l_arg (k := 3) (q0 := 4) (q4 := 0) F hl rfl rfl rfl (by omega) hL S dL_law_921 dL_law_922 dL_law_924 dL_law_925 dL_law_926 ?_
  refine l_call (As := [.int (xs (i + 1)), .int (xs (i + 2)), .int (xs (i + 3))]) (rest := [.int v]) F dL_law_927 lo_112 rfl rfl rfl (Nat.le_of_ble_eq_true rfl) e2 rfl rfl rfl hl.1 hc1 hc2 Rp S (fun H locs Rp S => ?_)
  refine lv_icmp_eq F.1 F.2.1 dL_law_930 (tgt := 1518) (by decide) (fun _ => ?_) (fun q => absurd rfl q)
  exact kk I2 J2 R1 H locs inv2 Rp S
theorem lc_own {I : Mem} {J : MemL} {R : MemR} {i : Nat} {H : Heap} {locs : List Loc} {cells slots : Nat} {LS : Array Slot} (F : LF p s m meth c bs L xs D cy) (hl : lv_has LS 7 (lvB s.heap.size bs i)) (inv : lInv I R) (Rp : Rep D cy s.heap.size (hp I J R) H) (S : va_S (fun q => s.heap.size ≤ q) s.heap H locs) (hi : i + 6 ≤ L) (hL : L < 2 ^ 31) (hc1 : cells ≤ 601024) (hc2 : slots ≤ 7293034)
    (kk : ∀ (I : Mem) (J : MemL) (R : MemR) (H : Heap) (locs : List Loc), lInv I R → Rep D cy s.heap.size (hp I J R) H → va_S (fun q => s.heap.size ≤ q) s.heap H locs → W p l e room_1 s m #[Value.ref bs] below meth c H locs cells slots Q (F0 m 1518 LS [])) :
    W p l e room_1 s m #[Value.ref bs] below meth c H locs cells slots Q (F0 m 935 LS []) := by
  obtain ⟨v, I1, J1, R1, I2, J2, e1, e2, inv2⟩ := pr_own (J := J) inv (x := xs (i + 1)) (y := xs (i + 2))
  refine lv_aload_n F.1 F.2.1 dL_law_935 rfl (lv_at hl 3 rfl) ?_
  refine l_arg (k := 1) (q0 := 4) (q4 := 0) F hl rfl rfl rfl (by omega) hL S dL_law_936 dL_law_937 dL_law_939 dL_law_940 dL_law_941 ?_
  refine l_arg (k := 2) (q0 := 4) (q4 := 0) F hl rfl rfl rfl (by omega) hL S dL_law_942 dL_law_943 dL_law_945 dL_law_946 dL_law_947 ?_
  refine l_call (As := [.int (xs (i + 1)), .int (xs (i + 2))]) (rest := []) F dL_law_948 lo_113 rfl rfl rfl (by decide) e1 rfl rfl rfl hl.1 hc1 hc2 Rp S (fun H locs Rp S => ?_)
  refine lv_aload_n F.1 F.2.1 dL_law_951 rfl (lv_at hl 2 rfl) ?_
  refine l_arg (k := 1) (q0 := 4) (q4 := 0) F hl rfl rfl rfl (by omega) hL S dL_law_952 dL_law_953 dL_law_955 dL_law_956 dL_law_957 ?_
  refine l_arg (k := 2) (q0 := 4) (q4 := 0) F hl rfl rfl rfl (by omega) hL S dL_law_958 dL_law_959 dL_law_961 dL_law_962 dL_law_963 ?_
  refine l_call (As := [.int (xs (i + 1)), .int (xs (i + 2))]) (rest := [.int v]) F dL_law_964 lo_116 rfl rfl rfl (Nat.le_of_ble_eq_true rfl) e2 rfl rfl rfl hl.1 hc1 hc2 Rp S (fun H locs Rp S => ?_)
  refine lv_icmp_eq F.1 F.2.1 dL_law_967 (tgt := 1518) (by decide) (fun _ => ?_) (fun q => absurd rfl q)
  exact kk I2 J2 R1 H locs inv2 Rp S
theorem lc_least {I : Mem} {J : MemL} {R : MemR} {i : Nat} {H : Heap} {locs : List Loc} {cells slots : Nat} {LS : Array Slot} (F : LF p s m meth c bs L xs D cy) (hl : lv_has LS 7 (lvB s.heap.size bs i)) (inv : lInv I R) (Rp : Rep D cy s.heap.size (hp I J R) H) (S : va_S (fun q => s.heap.size ≤ q) s.heap H locs) (hi : i + 6 ≤ L) (hL : L < 2 ^ 31) (hc1 : cells ≤ 601024) (hc2 : slots ≤ 7293034)
    (kk : ∀ (I : Mem) (J : MemL) (R : MemR) (H : Heap) (locs : List Loc), lInv I R → Rep D cy s.heap.size (hp I J R) H → va_S (fun q => s.heap.size ≤ q) s.heap H locs → W p l e room_1 s m #[Value.ref bs] below meth c H locs cells slots Q (F0 m 1518 LS [])) :
    W p l e room_1 s m #[Value.ref bs] below meth c H locs cells slots Q (F0 m 972 LS []) := by
  obtain ⟨v, I1, J1, R1, I2, J2, e1, e2, inv2⟩ := pr_least (J := J) inv (x := xs (i + 1)) (y := xs (i + 2)) (z := xs (i + 3)) (w := xs (i + 4))
  refine lv_aload_n F.1 F.2.1 dL_law_972 rfl (lv_at hl 3 rfl) ?_
  refine l_arg (k := 1) (q0 := 4) (q4 := 0) F hl rfl rfl rfl (by omega) hL S dL_law_973 dL_law_974 dL_law_976 dL_law_977 dL_law_978 ?_
  refine l_arg (k := 2) (q0 := 4) (q4 := 0) F hl rfl rfl rfl (by omega) hL S dL_law_979 dL_law_980 dL_law_982 dL_law_983 dL_law_984 ?_
  refine l_arg (k := 3) (q0 := 4) (q4 := 0) F hl rfl rfl rfl (by omega) hL S dL_law_985 dL_law_986 dL_law_988 dL_law_989 dL_law_990 ?_
  refine l_arg (k := 4) (q0 := 4) (q4 := 0) F hl rfl rfl rfl (by omega) hL S dL_law_991 dL_law_992 dL_law_994 dL_law_995 dL_law_996 ?_
  refine l_call (As := [.int (xs (i + 1)), .int (xs (i + 2)), .int (xs (i + 3)), .int (xs (i + 4))]) (rest := []) F dL_law_997 lo_117 rfl rfl rfl (by decide) e1 rfl rfl rfl hl.1 hc1 hc2 Rp S (fun H locs Rp S => ?_)
  refine lv_aload_n F.1 F.2.1 dL_law_1000 rfl (lv_at hl 2 rfl) ?_
  refine l_arg (k := 1) (q0 := 4) (q4 := 0) F hl rfl rfl rfl (by omega) hL S dL_law_1001 dL_law_1002 dL_law_1004 dL_law_1005 dL_law_1006 ?_
  refine l_arg (k := 2) (q0 := 4) (q4 := 0) F hl rfl rfl rfl (by omega) hL S dL_law_1007 dL_law_1008 dL_law_1010 dL_law_1011 dL_law_1012 ?_
  refine l_arg (k := 3) (q0 := 4) (q4 := 0) F hl rfl rfl rfl (by omega) hL S dL_law_1013 dL_law_1014 dL_law_1016 dL_law_1017 dL_law_1018 ?_
  refine l_arg (k := 4) (q0 := 4) (q4 := 0) F hl rfl rfl rfl (by omega) hL S dL_law_1019 dL_law_1020 dL_law_1022 dL_law_1023 dL_law_1024 ?_
  refine l_call (As := [.int (xs (i + 1)), .int (xs (i + 2)), .int (xs (i + 3)), .int (xs (i + 4))]) (rest := [.int v]) F dL_law_1025 lo_121 rfl rfl rfl (Nat.le_of_ble_eq_true rfl) e2 rfl rfl rfl hl.1 hc1 hc2 Rp S (fun H locs Rp S => ?_)
  refine lv_icmp_eq F.1 F.2.1 dL_law_1028 (tgt := 1518) (by decide) (fun _ => ?_) (fun q => absurd rfl q)
  exact kk I2 J2 R1 H locs inv2 Rp S
theorem lc_mend {I : Mem} {J : MemL} {R : MemR} {i : Nat} {H : Heap} {locs : List Loc} {cells slots : Nat} {LS : Array Slot} (F : LF p s m meth c bs L xs D cy) (hl : lv_has LS 7 (lvB s.heap.size bs i)) (inv : lInv I R) (Rp : Rep D cy s.heap.size (hp I J R) H) (S : va_S (fun q => s.heap.size ≤ q) s.heap H locs) (hi : i + 6 ≤ L) (hL : L < 2 ^ 31) (hc1 : cells ≤ 601024) (hc2 : slots ≤ 7293034)
    (kk : ∀ (I : Mem) (J : MemL) (R : MemR) (H : Heap) (locs : List Loc), lInv I R → Rep D cy s.heap.size (hp I J R) H → va_S (fun q => s.heap.size ≤ q) s.heap H locs → W p l e room_1 s m #[Value.ref bs] below meth c H locs cells slots Q (F0 m 1518 LS [])) :
    W p l e room_1 s m #[Value.ref bs] below meth c H locs cells slots Q (F0 m 1033 LS []) := by
  obtain ⟨v, I1, J1, R1, I2, J2, e1, e2, inv2⟩ := pr_mend (J := J) inv (x := xs (i + 1)) (y := xs (i + 2)) (z := xs (i + 3))
  refine lv_aload_n F.1 F.2.1 dL_law_1033 rfl (lv_at hl 3 rfl) ?_
  refine l_arg (k := 1) (q0 := 4) (q4 := 0) F hl rfl rfl rfl (by omega) hL S dL_law_1034 dL_law_1035 dL_law_1037 dL_law_1038 dL_law_1039 ?_
  refine l_arg (k := 2) (q0 := 4) (q4 := 0) F hl rfl rfl rfl (by omega) hL S dL_law_1040 dL_law_1041 dL_law_1043 dL_law_1044 dL_law_1045 ?_
  refine l_arg (k := 3) (q0 := 4) (q4 := 0) F hl rfl rfl rfl (by omega) hL S dL_law_1046 dL_law_1047 dL_law_1049 dL_law_1050 dL_law_1051 ?_
  refine l_call (As := [.int (xs (i + 1)), .int (xs (i + 2)), .int (xs (i + 3))]) (rest := []) F dL_law_1052 lo_122 rfl rfl rfl (by decide) e1 rfl rfl rfl hl.1 hc1 hc2 Rp S (fun H locs Rp S => ?_)
  refine lv_aload_n F.1 F.2.1 dL_law_1055 rfl (lv_at hl 2 rfl) ?_
  refine l_arg (k := 1) (q0 := 4) (q4 := 0) F hl rfl rfl rfl (by omega) hL S dL_law_1056 dL_law_1057 dL_law_1059 dL_law_1060 dL_law_1061 ?_
  refine l_arg (k := 2) (q0 := 4) (q4 := 0) F hl rfl rfl rfl (by omega) hL S dL_law_1062 dL_law_1063 dL_law_1065 dL_law_1066 dL_law_1067 ?_
  refine l_arg (k := 3) (q0 := 4) (q4 := 0) F hl rfl rfl rfl (by omega) hL S dL_law_1068 dL_law_1069 dL_law_1071 dL_law_1072 dL_law_1073 ?_
  refine l_call (As := [.int (xs (i + 1)), .int (xs (i + 2)), .int (xs (i + 3))]) (rest := [.int v]) F dL_law_1074 lo_125 rfl rfl rfl (Nat.le_of_ble_eq_true rfl) e2 rfl rfl rfl hl.1 hc1 hc2 Rp S (fun H locs Rp S => ?_)
  refine lv_icmp_eq F.1 F.2.1 dL_law_1077 (tgt := 1518) (by decide) (fun _ => ?_) (fun q => absurd rfl q)
  exact kk I2 J2 R1 H locs inv2 Rp S
theorem lc_order {I : Mem} {J : MemL} {R : MemR} {i : Nat} {H : Heap} {locs : List Loc} {cells slots : Nat} {LS : Array Slot} (F : LF p s m meth c bs L xs D cy) (hl : lv_has LS 7 (lvB s.heap.size bs i)) (inv : lInv I R) (Rp : Rep D cy s.heap.size (hp I J R) H) (S : va_S (fun q => s.heap.size ≤ q) s.heap H locs) (hi : i + 6 ≤ L) (hL : L < 2 ^ 31) (hc1 : cells ≤ 601024) (hc2 : slots ≤ 7293034)
    (kk : ∀ (I : Mem) (J : MemL) (R : MemR) (H : Heap) (locs : List Loc), lInv I R → Rep D cy s.heap.size (hp I J R) H → va_S (fun q => s.heap.size ≤ q) s.heap H locs → W p l e room_1 s m #[Value.ref bs] below meth c H locs cells slots Q (F0 m 1518 LS [])) :
    W p l e room_1 s m #[Value.ref bs] below meth c H locs cells slots Q (F0 m 1082 LS []) := by
  obtain ⟨v, I1, J1, R1, I2, J2, e1, e2, inv2⟩ := pr_order (J := J) inv (x := xs (i + 1)) (y := xs (i + 2)) (z := xs (i + 3)) (w := xs (i + 4))
  refine lv_aload_n F.1 F.2.1 dL_law_1082 rfl (lv_at hl 3 rfl) ?_
  refine l_arg (k := 1) (q0 := 4) (q4 := 0) F hl rfl rfl rfl (by omega) hL S dL_law_1083 dL_law_1084 dL_law_1086 dL_law_1087 dL_law_1088 ?_
  refine l_arg (k := 2) (q0 := 4) (q4 := 0) F hl rfl rfl rfl (by omega) hL S dL_law_1089 dL_law_1090 dL_law_1092 dL_law_1093 dL_law_1094 ?_
  refine l_arg (k := 3) (q0 := 4) (q4 := 0) F hl rfl rfl rfl (by omega) hL S dL_law_1095 dL_law_1096 dL_law_1098 dL_law_1099 dL_law_1100 ?_
  refine l_arg (k := 4) (q0 := 4) (q4 := 0) F hl rfl rfl rfl (by omega) hL S dL_law_1101 dL_law_1102 dL_law_1104 dL_law_1105 dL_law_1106 ?_
  refine l_call (As := [.int (xs (i + 1)), .int (xs (i + 2)), .int (xs (i + 3)), .int (xs (i + 4))]) (rest := []) F dL_law_1107 lo_126 rfl rfl rfl (by decide) e1 rfl rfl rfl hl.1 hc1 hc2 Rp S (fun H locs Rp S => ?_)
  refine lv_aload_n F.1 F.2.1 dL_law_1110 rfl (lv_at hl 2 rfl) ?_
  refine l_arg (k := 1) (q0 := 4) (q4 := 0) F hl rfl rfl rfl (by omega) hL S dL_law_1111 dL_law_1112 dL_law_1114 dL_law_1115 dL_law_1116 ?_
  refine l_arg (k := 2) (q0 := 4) (q4 := 0) F hl rfl rfl rfl (by omega) hL S dL_law_1117 dL_law_1118 dL_law_1120 dL_law_1121 dL_law_1122 ?_
  refine l_arg (k := 3) (q0 := 4) (q4 := 0) F hl rfl rfl rfl (by omega) hL S dL_law_1123 dL_law_1124 dL_law_1126 dL_law_1127 dL_law_1128 ?_
  refine l_arg (k := 4) (q0 := 4) (q4 := 0) F hl rfl rfl rfl (by omega) hL S dL_law_1129 dL_law_1130 dL_law_1132 dL_law_1133 dL_law_1134 ?_
  refine l_call (As := [.int (xs (i + 1)), .int (xs (i + 2)), .int (xs (i + 3)), .int (xs (i + 4))]) (rest := [.int v]) F dL_law_1135 lo_129 rfl rfl rfl (Nat.le_of_ble_eq_true rfl) e2 rfl rfl rfl hl.1 hc1 hc2 Rp S (fun H locs Rp S => ?_)
  refine lv_icmp_eq F.1 F.2.1 dL_law_1138 (tgt := 1518) (by decide) (fun _ => ?_) (fun q => absurd rfl q)
  exact kk I2 J2 R1 H locs inv2 Rp S
theorem lc_due {I : Mem} {J : MemL} {R : MemR} {i : Nat} {H : Heap} {locs : List Loc} {cells slots : Nat} {LS : Array Slot} (F : LF p s m meth c bs L xs D cy) (hl : lv_has LS 7 (lvB s.heap.size bs i)) (inv : lInv I R) (Rp : Rep D cy s.heap.size (hp I J R) H) (S : va_S (fun q => s.heap.size ≤ q) s.heap H locs) (hi : i + 6 ≤ L) (hL : L < 2 ^ 31) (hc1 : cells ≤ 601024) (hc2 : slots ≤ 7293034)
    (kk : ∀ (I : Mem) (J : MemL) (R : MemR) (H : Heap) (locs : List Loc), lInv I R → Rep D cy s.heap.size (hp I J R) H → va_S (fun q => s.heap.size ≤ q) s.heap H locs → W p l e room_1 s m #[Value.ref bs] below meth c H locs cells slots Q (F0 m 1518 LS [])) :
    W p l e room_1 s m #[Value.ref bs] below meth c H locs cells slots Q (F0 m 1143 LS []) := by
  obtain ⟨v, I1, J1, R1, I2, J2, e1, e2, inv2⟩ := pr_due (J := J) inv (x := xs (i + 1)) (y := xs (i + 2))
  refine lv_aload_n F.1 F.2.1 dL_law_1143 rfl (lv_at hl 3 rfl) ?_
  refine l_arg (k := 1) (q0 := 4) (q4 := 0) F hl rfl rfl rfl (by omega) hL S dL_law_1144 dL_law_1145 dL_law_1147 dL_law_1148 dL_law_1149 ?_
  refine l_arg (k := 2) (q0 := 4) (q4 := 0) F hl rfl rfl rfl (by omega) hL S dL_law_1150 dL_law_1151 dL_law_1153 dL_law_1154 dL_law_1155 ?_
  refine l_call (As := [.int (xs (i + 1)), .int (xs (i + 2))]) (rest := []) F dL_law_1156 lo_130 rfl rfl rfl (by decide) e1 rfl rfl rfl hl.1 hc1 hc2 Rp S (fun H locs Rp S => ?_)
  refine lv_aload_n F.1 F.2.1 dL_law_1159 rfl (lv_at hl 2 rfl) ?_
  refine l_arg (k := 1) (q0 := 4) (q4 := 0) F hl rfl rfl rfl (by omega) hL S dL_law_1160 dL_law_1161 dL_law_1163 dL_law_1164 dL_law_1165 ?_
  refine l_arg (k := 2) (q0 := 4) (q4 := 0) F hl rfl rfl rfl (by omega) hL S dL_law_1166 dL_law_1167 dL_law_1169 dL_law_1170 dL_law_1171 ?_
  refine l_call (As := [.int (xs (i + 1)), .int (xs (i + 2))]) (rest := [.int v]) F dL_law_1172 lo_133 rfl rfl rfl (Nat.le_of_ble_eq_true rfl) e2 rfl rfl rfl hl.1 hc1 hc2 Rp S (fun H locs Rp S => ?_)
  refine lv_icmp_eq F.1 F.2.1 dL_law_1175 (tgt := 1518) (by decide) (fun _ => ?_) (fun q => absurd rfl q)
  exact kk I2 J2 R1 H locs inv2 Rp S
theorem lc_gain {I : Mem} {J : MemL} {R : MemR} {i : Nat} {H : Heap} {locs : List Loc} {cells slots : Nat} {LS : Array Slot} (F : LF p s m meth c bs L xs D cy) (hl : lv_has LS 7 (lvB s.heap.size bs i)) (inv : lInv I R) (Rp : Rep D cy s.heap.size (hp I J R) H) (S : va_S (fun q => s.heap.size ≤ q) s.heap H locs) (hi : i + 6 ≤ L) (hL : L < 2 ^ 31) (hc1 : cells ≤ 601024) (hc2 : slots ≤ 7293034)
    (kk : ∀ (I : Mem) (J : MemL) (R : MemR) (H : Heap) (locs : List Loc), lInv I R → Rep D cy s.heap.size (hp I J R) H → va_S (fun q => s.heap.size ≤ q) s.heap H locs → W p l e room_1 s m #[Value.ref bs] below meth c H locs cells slots Q (F0 m 1518 LS [])) :
    W p l e room_1 s m #[Value.ref bs] below meth c H locs cells slots Q (F0 m 1180 LS []) := by
  obtain ⟨v, I1, J1, R1, I2, J2, e1, e2, inv2⟩ := pr_gain (J := J) inv (x := xs (i + 1)) (y := xs (i + 2)) (z := xs (i + 3))
  refine lv_aload_n F.1 F.2.1 dL_law_1180 rfl (lv_at hl 3 rfl) ?_
  refine l_arg (k := 1) (q0 := 4) (q4 := 0) F hl rfl rfl rfl (by omega) hL S dL_law_1181 dL_law_1182 dL_law_1184 dL_law_1185 dL_law_1186 ?_
  refine l_arg (k := 2) (q0 := 4) (q4 := 0) F hl rfl rfl rfl (by omega) hL S dL_law_1187 dL_law_1188 dL_law_1190 dL_law_1191 dL_law_1192 ?_
  refine l_arg (k := 3) (q0 := 4) (q4 := 0) F hl rfl rfl rfl (by omega) hL S dL_law_1193 dL_law_1194 dL_law_1196 dL_law_1197 dL_law_1198 ?_
  refine l_call (As := [.int (xs (i + 1)), .int (xs (i + 2)), .int (xs (i + 3))]) (rest := []) F dL_law_1199 lo_134 rfl rfl rfl (by decide) e1 rfl rfl rfl hl.1 hc1 hc2 Rp S (fun H locs Rp S => ?_)
  refine lv_aload_n F.1 F.2.1 dL_law_1202 rfl (lv_at hl 2 rfl) ?_
  refine l_arg (k := 1) (q0 := 4) (q4 := 0) F hl rfl rfl rfl (by omega) hL S dL_law_1203 dL_law_1204 dL_law_1206 dL_law_1207 dL_law_1208 ?_
  refine l_arg (k := 2) (q0 := 4) (q4 := 0) F hl rfl rfl rfl (by omega) hL S dL_law_1209 dL_law_1210 dL_law_1212 dL_law_1213 dL_law_1214 ?_
  refine l_arg (k := 3) (q0 := 4) (q4 := 0) F hl rfl rfl rfl (by omega) hL S dL_law_1215 dL_law_1216 dL_law_1218 dL_law_1219 dL_law_1220 ?_
  refine l_call (As := [.int (xs (i + 1)), .int (xs (i + 2)), .int (xs (i + 3))]) (rest := [.int v]) F dL_law_1221 lo_137 rfl rfl rfl (Nat.le_of_ble_eq_true rfl) e2 rfl rfl rfl hl.1 hc1 hc2 Rp S (fun H locs Rp S => ?_)
  refine lv_icmp_eq F.1 F.2.1 dL_law_1224 (tgt := 1518) (by decide) (fun _ => ?_) (fun q => absurd rfl q)
  exact kk I2 J2 R1 H locs inv2 Rp S
theorem lc_heard {I : Mem} {J : MemL} {R : MemR} {i : Nat} {H : Heap} {locs : List Loc} {cells slots : Nat} {LS : Array Slot} (F : LF p s m meth c bs L xs D cy) (hl : lv_has LS 7 (lvB s.heap.size bs i)) (inv : lInv I R) (Rp : Rep D cy s.heap.size (hp I J R) H) (S : va_S (fun q => s.heap.size ≤ q) s.heap H locs) (hi : i + 6 ≤ L) (hL : L < 2 ^ 31) (hc1 : cells ≤ 601024) (hc2 : slots ≤ 7293034)
    (kk : ∀ (I : Mem) (J : MemL) (R : MemR) (H : Heap) (locs : List Loc), lInv I R → Rep D cy s.heap.size (hp I J R) H → va_S (fun q => s.heap.size ≤ q) s.heap H locs → W p l e room_1 s m #[Value.ref bs] below meth c H locs cells slots Q (F0 m 1518 LS [])) :
    W p l e room_1 s m #[Value.ref bs] below meth c H locs cells slots Q (F0 m 1229 LS []) := by
  obtain ⟨v, I1, J1, R1, I2, J2, e1, e2, inv2⟩ := pr_heard (J := J) inv (x := xs (i + 1)) (y := xs (i + 2)) (z := bxF (xs (i + 3)))
  refine lv_aload_n F.1 F.2.1 dL_law_1229 rfl (lv_at hl 3 rfl) ?_
  refine l_arg (k := 1) (q0 := 4) (q4 := 0) F hl rfl rfl rfl (by omega) hL S dL_law_1230 dL_law_1231 dL_law_1233 dL_law_1234 dL_law_1235 ?_
  refine l_arg (k := 2) (q0 := 4) (q4 := 0) F hl rfl rfl rfl (by omega) hL S dL_law_1236 dL_law_1237 dL_law_1239 dL_law_1240 dL_law_1241 ?_
  refine l_arg (k := 3) (q0 := 4) (q4 := 0) F hl rfl rfl rfl (by omega) hL S dL_law_1242 dL_law_1243 dL_law_1245 dL_law_1246 dL_law_1247 ?_
  refine l_bool F dL_law_1248 dL_law_1251 dL_law_1252 dL_law_1255 ?_
  refine l_call (As := [.int (xs (i + 1)), .int (xs (i + 2)), .int (bxF (xs (i + 3)))]) (rest := []) F dL_law_1256 lo_138 rfl rfl rfl (by decide) e1 rfl rfl rfl hl.1 hc1 hc2 Rp S (fun H locs Rp S => ?_)
  refine lv_aload_n F.1 F.2.1 dL_law_1259 rfl (lv_at hl 2 rfl) ?_
  refine l_arg (k := 1) (q0 := 4) (q4 := 0) F hl rfl rfl rfl (by omega) hL S dL_law_1260 dL_law_1261 dL_law_1263 dL_law_1264 dL_law_1265 ?_
  refine l_arg (k := 2) (q0 := 4) (q4 := 0) F hl rfl rfl rfl (by omega) hL S dL_law_1266 dL_law_1267 dL_law_1269 dL_law_1270 dL_law_1271 ?_
  refine l_arg (k := 3) (q0 := 4) (q4 := 0) F hl rfl rfl rfl (by omega) hL S dL_law_1272 dL_law_1273 dL_law_1275 dL_law_1276 dL_law_1277 ?_
  refine l_bool F dL_law_1278 dL_law_1281 dL_law_1282 dL_law_1285 ?_
  refine l_call (As := [.int (xs (i + 1)), .int (xs (i + 2)), .int (bxF (xs (i + 3)))]) (rest := [.int v]) F dL_law_1286 lo_142 rfl rfl rfl (Nat.le_of_ble_eq_true rfl) e2 rfl rfl rfl hl.1 hc1 hc2 Rp S (fun H locs Rp S => ?_)
  refine lv_icmp_eq F.1 F.2.1 dL_law_1289 (tgt := 1518) (by decide) (fun _ => ?_) (fun q => absurd rfl q)
  exact kk I2 J2 R1 H locs inv2 Rp S
theorem lc_strike {I : Mem} {J : MemL} {R : MemR} {i : Nat} {H : Heap} {locs : List Loc} {cells slots : Nat} {LS : Array Slot} (F : LF p s m meth c bs L xs D cy) (hl : lv_has LS 7 (lvB s.heap.size bs i)) (inv : lInv I R) (Rp : Rep D cy s.heap.size (hp I J R) H) (S : va_S (fun q => s.heap.size ≤ q) s.heap H locs) (hi : i + 6 ≤ L) (hL : L < 2 ^ 31) (hc1 : cells ≤ 601024) (hc2 : slots ≤ 7293034)
    (kk : ∀ (I : Mem) (J : MemL) (R : MemR) (H : Heap) (locs : List Loc), lInv I R → Rep D cy s.heap.size (hp I J R) H → va_S (fun q => s.heap.size ≤ q) s.heap H locs → W p l e room_1 s m #[Value.ref bs] below meth c H locs cells slots Q (F0 m 1518 LS [])) :
    W p l e room_1 s m #[Value.ref bs] below meth c H locs cells slots Q (F0 m 1294 LS []) := by
  obtain ⟨v, I1, J1, R1, I2, J2, e1, e2, inv2⟩ := pr_strike (J := J) inv (x := xs (i + 1))
  refine lv_aload_n F.1 F.2.1 dL_law_1294 rfl (lv_at hl 3 rfl) ?_
  refine l_arg (k := 1) (q0 := 4) (q4 := 0) F hl rfl rfl rfl (by omega) hL S dL_law_1295 dL_law_1296 dL_law_1298 dL_law_1299 dL_law_1300 ?_
  refine l_call (As := [.int (xs (i + 1))]) (rest := []) F dL_law_1301 lo_143 rfl rfl rfl (by decide) e1 rfl rfl rfl hl.1 hc1 hc2 Rp S (fun H locs Rp S => ?_)
  refine lv_aload_n F.1 F.2.1 dL_law_1304 rfl (lv_at hl 2 rfl) ?_
  refine l_arg (k := 1) (q0 := 4) (q4 := 0) F hl rfl rfl rfl (by omega) hL S dL_law_1305 dL_law_1306 dL_law_1308 dL_law_1309 dL_law_1310 ?_
  refine l_call (As := [.int (xs (i + 1))]) (rest := [.int v]) F dL_law_1311 lo_146 rfl rfl rfl (Nat.le_of_ble_eq_true rfl) e2 rfl rfl rfl hl.1 hc1 hc2 Rp S (fun H locs Rp S => ?_)
  refine lv_icmp_eq F.1 F.2.1 dL_law_1314 (tgt := 1518) (by decide) (fun _ => ?_) (fun q => absurd rfl q)
  exact kk I2 J2 R1 H locs inv2 Rp S
theorem lc_known {I : Mem} {J : MemL} {R : MemR} {i : Nat} {H : Heap} {locs : List Loc} {cells slots : Nat} {LS : Array Slot} (F : LF p s m meth c bs L xs D cy) (hl : lv_has LS 7 (lvB s.heap.size bs i)) (inv : lInv I R) (Rp : Rep D cy s.heap.size (hp I J R) H) (S : va_S (fun q => s.heap.size ≤ q) s.heap H locs) (hi : i + 6 ≤ L) (hL : L < 2 ^ 31) (hc1 : cells ≤ 601024) (hc2 : slots ≤ 7293034)
    (kk : ∀ (I : Mem) (J : MemL) (R : MemR) (H : Heap) (locs : List Loc), lInv I R → Rep D cy s.heap.size (hp I J R) H → va_S (fun q => s.heap.size ≤ q) s.heap H locs → W p l e room_1 s m #[Value.ref bs] below meth c H locs cells slots Q (F0 m 1518 LS [])) :
    W p l e room_1 s m #[Value.ref bs] below meth c H locs cells slots Q (F0 m 1319 LS []) := by
  obtain ⟨v, I1, J1, R1, I2, J2, e1, e2, inv2⟩ := pr_known (J := J) inv (x := xs (i + 1))
  refine lv_aload_n F.1 F.2.1 dL_law_1319 rfl (lv_at hl 3 rfl) ?_
  refine l_arg (k := 1) (q0 := 4) (q4 := 0) F hl rfl rfl rfl (by omega) hL S dL_law_1320 dL_law_1321 dL_law_1323 dL_law_1324 dL_law_1325 ?_
  refine l_call (As := [.int (xs (i + 1))]) (rest := []) F dL_law_1326 lo_147 rfl rfl rfl (by decide) e1 rfl rfl rfl hl.1 hc1 hc2 Rp S (fun H locs Rp S => ?_)
  refine lv_aload_n F.1 F.2.1 dL_law_1329 rfl (lv_at hl 2 rfl) ?_
  refine l_arg (k := 1) (q0 := 4) (q4 := 0) F hl rfl rfl rfl (by omega) hL S dL_law_1330 dL_law_1331 dL_law_1333 dL_law_1334 dL_law_1335 ?_
  refine l_call (As := [.int (xs (i + 1))]) (rest := [.int v]) F dL_law_1336 lo_150 rfl rfl rfl (Nat.le_of_ble_eq_true rfl) e2 rfl rfl rfl hl.1 hc1 hc2 Rp S (fun H locs Rp S => ?_)
  refine lv_icmp_eq F.1 F.2.1 dL_law_1339 (tgt := 1518) (by decide) (fun _ => ?_) (fun q => absurd rfl q)
  exact kk I2 J2 R1 H locs inv2 Rp S
theorem lc_fits {I : Mem} {J : MemL} {R : MemR} {i : Nat} {H : Heap} {locs : List Loc} {cells slots : Nat} {LS : Array Slot} (F : LF p s m meth c bs L xs D cy) (hl : lv_has LS 7 (lvB s.heap.size bs i)) (inv : lInv I R) (Rp : Rep D cy s.heap.size (hp I J R) H) (S : va_S (fun q => s.heap.size ≤ q) s.heap H locs) (hi : i + 6 ≤ L) (hL : L < 2 ^ 31) (hc1 : cells ≤ 601024) (hc2 : slots ≤ 7293034)
    (kk : ∀ (I : Mem) (J : MemL) (R : MemR) (H : Heap) (locs : List Loc), lInv I R → Rep D cy s.heap.size (hp I J R) H → va_S (fun q => s.heap.size ≤ q) s.heap H locs → W p l e room_1 s m #[Value.ref bs] below meth c H locs cells slots Q (F0 m 1518 LS [])) :
    W p l e room_1 s m #[Value.ref bs] below meth c H locs cells slots Q (F0 m 1344 LS []) := by
  obtain ⟨v, I1, J1, R1, I2, J2, e1, e2, inv2⟩ := pr_fits (J := J) inv
  refine lv_aload_n F.1 F.2.1 dL_law_1344 rfl (lv_at hl 3 rfl) ?_
  
  refine l_call (As := []) (rest := []) F dL_law_1345 lo_151 rfl rfl rfl (by decide) e1 rfl rfl rfl hl.1 hc1 hc2 Rp S (fun H locs Rp S => ?_)
  refine lv_aload_n F.1 F.2.1 dL_law_1348 rfl (lv_at hl 2 rfl) ?_
  
  refine l_call (As := []) (rest := [.int v]) F dL_law_1349 lo_154 rfl rfl rfl (Nat.le_of_ble_eq_true rfl) e2 rfl rfl rfl hl.1 hc1 hc2 Rp S (fun H locs Rp S => ?_)
  refine lv_icmp_eq F.1 F.2.1 dL_law_1352 (tgt := 1518) (by decide) (fun _ => ?_) (fun q => absurd rfl q)
  exact kk I2 J2 R1 H locs inv2 Rp S
theorem lc_tried {I : Mem} {J : MemL} {R : MemR} {i : Nat} {H : Heap} {locs : List Loc} {cells slots : Nat} {LS : Array Slot} (F : LF p s m meth c bs L xs D cy) (hl : lv_has LS 7 (lvB s.heap.size bs i)) (inv : lInv I R) (Rp : Rep D cy s.heap.size (hp I J R) H) (S : va_S (fun q => s.heap.size ≤ q) s.heap H locs) (hi : i + 6 ≤ L) (hL : L < 2 ^ 31) (hc1 : cells ≤ 601024) (hc2 : slots ≤ 7293034)
    (kk : ∀ (I : Mem) (J : MemL) (R : MemR) (H : Heap) (locs : List Loc), lInv I R → Rep D cy s.heap.size (hp I J R) H → va_S (fun q => s.heap.size ≤ q) s.heap H locs → W p l e room_1 s m #[Value.ref bs] below meth c H locs cells slots Q (F0 m 1518 LS [])) :
    W p l e room_1 s m #[Value.ref bs] below meth c H locs cells slots Q (F0 m 1357 LS []) := by
  obtain ⟨v, I1, J1, R1, I2, J2, e1, e2, inv2⟩ := pr_tried (J := J) inv (x := xs (i + 1)) (y := xs (i + 2)) (z := xs (i + 3)) (w := xs (i + 4))
  refine lv_aload_n F.1 F.2.1 dL_law_1357 rfl (lv_at hl 3 rfl) ?_
  refine l_arg (k := 1) (q0 := 4) (q4 := 0) F hl rfl rfl rfl (by omega) hL S dL_law_1358 dL_law_1359 dL_law_1361 dL_law_1362 dL_law_1363 ?_
  refine l_arg (k := 2) (q0 := 4) (q4 := 0) F hl rfl rfl rfl (by omega) hL S dL_law_1364 dL_law_1365 dL_law_1367 dL_law_1368 dL_law_1369 ?_
  refine l_arg (k := 3) (q0 := 4) (q4 := 0) F hl rfl rfl rfl (by omega) hL S dL_law_1370 dL_law_1371 dL_law_1373 dL_law_1374 dL_law_1375 ?_
  refine l_arg (k := 4) (q0 := 4) (q4 := 0) F hl rfl rfl rfl (by omega) hL S dL_law_1376 dL_law_1377 dL_law_1379 dL_law_1380 dL_law_1381 ?_
  refine l_call (As := [.int (xs (i + 1)), .int (xs (i + 2)), .int (xs (i + 3)), .int (xs (i + 4))]) (rest := []) F dL_law_1382 lo_155 rfl rfl rfl (by decide) e1 rfl rfl rfl hl.1 hc1 hc2 Rp S (fun H locs Rp S => ?_)
  refine lv_aload_n F.1 F.2.1 dL_law_1385 rfl (lv_at hl 2 rfl) ?_
  refine l_arg (k := 1) (q0 := 4) (q4 := 0) F hl rfl rfl rfl (by omega) hL S dL_law_1386 dL_law_1387 dL_law_1389 dL_law_1390 dL_law_1391 ?_
  refine l_arg (k := 2) (q0 := 4) (q4 := 0) F hl rfl rfl rfl (by omega) hL S dL_law_1392 dL_law_1393 dL_law_1395 dL_law_1396 dL_law_1397 ?_
  refine l_arg (k := 3) (q0 := 4) (q4 := 0) F hl rfl rfl rfl (by omega) hL S dL_law_1398 dL_law_1399 dL_law_1401 dL_law_1402 dL_law_1403 ?_
  refine l_arg (k := 4) (q0 := 4) (q4 := 0) F hl rfl rfl rfl (by omega) hL S dL_law_1404 dL_law_1405 dL_law_1407 dL_law_1408 dL_law_1409 ?_
  refine l_call (As := [.int (xs (i + 1)), .int (xs (i + 2)), .int (xs (i + 3)), .int (xs (i + 4))]) (rest := [.int v]) F dL_law_1410 lo_158 rfl rfl rfl (Nat.le_of_ble_eq_true rfl) e2 rfl rfl rfl hl.1 hc1 hc2 Rp S (fun H locs Rp S => ?_)
  refine lv_icmp_eq F.1 F.2.1 dL_law_1413 (tgt := 1518) (by decide) (fun _ => ?_) (fun q => absurd rfl q)
  exact kk I2 J2 R1 H locs inv2 Rp S
theorem lc_chance {I : Mem} {J : MemL} {R : MemR} {i : Nat} {H : Heap} {locs : List Loc} {cells slots : Nat} {LS : Array Slot} (F : LF p s m meth c bs L xs D cy) (hl : lv_has LS 7 (lvB s.heap.size bs i)) (inv : lInv I R) (Rp : Rep D cy s.heap.size (hp I J R) H) (S : va_S (fun q => s.heap.size ≤ q) s.heap H locs) (hi : i + 6 ≤ L) (hL : L < 2 ^ 31) (hc1 : cells ≤ 601024) (hc2 : slots ≤ 7293034)
    (kk : ∀ (I : Mem) (J : MemL) (R : MemR) (H : Heap) (locs : List Loc), lInv I R → Rep D cy s.heap.size (hp I J R) H → va_S (fun q => s.heap.size ≤ q) s.heap H locs → W p l e room_1 s m #[Value.ref bs] below meth c H locs cells slots Q (F0 m 1518 LS [])) :
    W p l e room_1 s m #[Value.ref bs] below meth c H locs cells slots Q (F0 m 1418 LS []) := by
  obtain ⟨v, I1, J1, R1, I2, J2, e1, e2, inv2⟩ := pr_chance (J := J) inv (x := xs (i + 1)) (y := xs (i + 2)) (z := xs (i + 3))
  refine lv_aload_n F.1 F.2.1 dL_law_1418 rfl (lv_at hl 3 rfl) ?_
  refine l_arg (k := 1) (q0 := 4) (q4 := 0) F hl rfl rfl rfl (by omega) hL S dL_law_1419 dL_law_1420 dL_law_1422 dL_law_1423 dL_law_1424 ?_
  refine l_arg (k := 2) (q0 := 4) (q4 := 0) F hl rfl rfl rfl (by omega) hL S dL_law_1425 dL_law_1426 dL_law_1428 dL_law_1429 dL_law_1430 ?_
  refine l_arg (k := 3) (q0 := 4) (q4 := 0) F hl rfl rfl rfl (by omega) hL S dL_law_1431 dL_law_1432 dL_law_1434 dL_law_1435 dL_law_1436 ?_
  refine l_call (As := [.int (xs (i + 1)), .int (xs (i + 2)), .int (xs (i + 3))]) (rest := []) F dL_law_1437 lo_159 rfl rfl rfl (by decide) e1 rfl rfl rfl hl.1 hc1 hc2 Rp S (fun H locs Rp S => ?_)
  refine lv_aload_n F.1 F.2.1 dL_law_1440 rfl (lv_at hl 2 rfl) ?_
  refine l_arg (k := 1) (q0 := 4) (q4 := 0) F hl rfl rfl rfl (by omega) hL S dL_law_1441 dL_law_1442 dL_law_1444 dL_law_1445 dL_law_1446 ?_
  refine l_arg (k := 2) (q0 := 4) (q4 := 0) F hl rfl rfl rfl (by omega) hL S dL_law_1447 dL_law_1448 dL_law_1450 dL_law_1451 dL_law_1452 ?_
  refine l_arg (k := 3) (q0 := 4) (q4 := 0) F hl rfl rfl rfl (by omega) hL S dL_law_1453 dL_law_1454 dL_law_1456 dL_law_1457 dL_law_1458 ?_
  refine l_call (As := [.int (xs (i + 1)), .int (xs (i + 2)), .int (xs (i + 3))]) (rest := [.int v]) F dL_law_1459 lo_162 rfl rfl rfl (Nat.le_of_ble_eq_true rfl) e2 rfl rfl rfl hl.1 hc1 hc2 Rp S (fun H locs Rp S => ?_)
  refine lv_icmp_eq F.1 F.2.1 dL_law_1462 (tgt := 1518) (by decide) (fun _ => ?_) (fun q => absurd rfl q)
  exact kk I2 J2 R1 H locs inv2 Rp S
theorem lc_keep {I : Mem} {J : MemL} {R : MemR} {i : Nat} {H : Heap} {locs : List Loc} {cells slots : Nat} {LS : Array Slot} (F : LF p s m meth c bs L xs D cy) (hl : lv_has LS 7 (lvB s.heap.size bs i)) (inv : lInv I R) (Rp : Rep D cy s.heap.size (hp I J R) H) (S : va_S (fun q => s.heap.size ≤ q) s.heap H locs) (hi : i + 6 ≤ L) (hL : L < 2 ^ 31) (hc1 : cells ≤ 601024) (hc2 : slots ≤ 7293034)
    (kk : ∀ (I : Mem) (J : MemL) (R : MemR) (H : Heap) (locs : List Loc), lInv I R → Rep D cy s.heap.size (hp I J R) H → va_S (fun q => s.heap.size ≤ q) s.heap H locs → W p l e room_1 s m #[Value.ref bs] below meth c H locs cells slots Q (F0 m 1518 LS [])) :
    W p l e room_1 s m #[Value.ref bs] below meth c H locs cells slots Q (F0 m 1467 LS []) := by
  obtain ⟨v, I1, J1, R1, I2, J2, e1, e2, inv2⟩ := pr_keep (J := J) inv
  refine lv_aload_n F.1 F.2.1 dL_law_1467 rfl (lv_at hl 3 rfl) ?_
  
  refine l_call (As := []) (rest := []) F dL_law_1468 lo_163 rfl rfl rfl (by decide) e1 rfl rfl rfl hl.1 hc1 hc2 Rp S (fun H locs Rp S => ?_)
  refine lv_aload_n F.1 F.2.1 dL_law_1471 rfl (lv_at hl 2 rfl) ?_
  
  refine l_call (As := []) (rest := [.int v]) F dL_law_1472 lo_166 rfl rfl rfl (Nat.le_of_ble_eq_true rfl) e2 rfl rfl rfl hl.1 hc1 hc2 Rp S (fun H locs Rp S => ?_)
  refine lv_icmp_eq F.1 F.2.1 dL_law_1475 (tgt := 1518) (by decide) (fun _ => ?_) (fun q => absurd rfl q)
  exact kk I2 J2 R1 H locs inv2 Rp S
theorem lc_back {I : Mem} {J : MemL} {R : MemR} {i : Nat} {H : Heap} {locs : List Loc} {cells slots : Nat} {LS : Array Slot} (F : LF p s m meth c bs L xs D cy) (hl : lv_has LS 7 (lvB s.heap.size bs i)) (inv : lInv I R) (Rp : Rep D cy s.heap.size (hp I J R) H) (S : va_S (fun q => s.heap.size ≤ q) s.heap H locs) (hi : i + 6 ≤ L) (hL : L < 2 ^ 31) (hc1 : cells ≤ 601024) (hc2 : slots ≤ 7293034)
    (kk : ∀ (I : Mem) (J : MemL) (R : MemR) (H : Heap) (locs : List Loc), lInv I R → Rep D cy s.heap.size (hp I J R) H → va_S (fun q => s.heap.size ≤ q) s.heap H locs → W p l e room_1 s m #[Value.ref bs] below meth c H locs cells slots Q (F0 m 1518 LS [])) :
    W p l e room_1 s m #[Value.ref bs] below meth c H locs cells slots Q (F0 m 1480 LS []) := by
  obtain ⟨v, I1, J1, R1, I2, J2, e1, e2, inv2⟩ := pr_back (J := J) inv
  refine lv_aload_n F.1 F.2.1 dL_law_1480 rfl (lv_at hl 3 rfl) ?_
  
  refine l_call (As := []) (rest := []) F dL_law_1481 lo_167 rfl rfl rfl (by decide) e1 rfl rfl rfl hl.1 hc1 hc2 Rp S (fun H locs Rp S => ?_)
  refine lv_aload_n F.1 F.2.1 dL_law_1484 rfl (lv_at hl 2 rfl) ?_
  
  refine l_call (As := []) (rest := [.int v]) F dL_law_1485 lo_170 rfl rfl rfl (Nat.le_of_ble_eq_true rfl) e2 rfl rfl rfl hl.1 hc1 hc2 Rp S (fun H locs Rp S => ?_)
  refine lv_icmp_eq F.1 F.2.1 dL_law_1488 (tgt := 1518) (by decide) (fun _ => ?_) (fun q => absurd rfl q)
  exact kk I2 J2 R1 H locs inv2 Rp S
theorem lc_count {I : Mem} {J : MemL} {R : MemR} {i : Nat} {H : Heap} {locs : List Loc} {cells slots : Nat} {LS : Array Slot} (F : LF p s m meth c bs L xs D cy) (hl : lv_has LS 7 (lvB s.heap.size bs i)) (inv : lInv I R) (Rp : Rep D cy s.heap.size (hp I J R) H) (S : va_S (fun q => s.heap.size ≤ q) s.heap H locs) (hi : i + 6 ≤ L) (hL : L < 2 ^ 31) (hc1 : cells ≤ 601024) (hc2 : slots ≤ 7293034)
    (kk : ∀ (I : Mem) (J : MemL) (R : MemR) (H : Heap) (locs : List Loc), lInv I R → Rep D cy s.heap.size (hp I J R) H → va_S (fun q => s.heap.size ≤ q) s.heap H locs → W p l e room_1 s m #[Value.ref bs] below meth c H locs cells slots Q (F0 m 1518 LS [])) :
    W p l e room_1 s m #[Value.ref bs] below meth c H locs cells slots Q (F0 m 1493 LS []) := by
  obtain ⟨v, I1, J1, R1, I2, J2, e1, e2, inv2⟩ := pr_count (J := J) inv (x := xs (i + 1))
  refine lv_aload_n F.1 F.2.1 dL_law_1493 rfl (lv_at hl 3 rfl) ?_
  refine l_arg (k := 1) (q0 := 4) (q4 := 0) F hl rfl rfl rfl (by omega) hL S dL_law_1494 dL_law_1495 dL_law_1497 dL_law_1498 dL_law_1499 ?_
  refine l_call (As := [.int (xs (i + 1))]) (rest := []) F dL_law_1500 lo_171 rfl rfl rfl (by decide) e1 rfl rfl rfl hl.1 hc1 hc2 Rp S (fun H locs Rp S => ?_)
  refine lv_aload_n F.1 F.2.1 dL_law_1503 rfl (lv_at hl 2 rfl) ?_
  refine l_arg (k := 1) (q0 := 4) (q4 := 0) F hl rfl rfl rfl (by omega) hL S dL_law_1504 dL_law_1505 dL_law_1507 dL_law_1508 dL_law_1509 ?_
  refine l_call (As := [.int (xs (i + 1))]) (rest := [.int v]) F dL_law_1510 lo_174 rfl rfl rfl (Nat.le_of_ble_eq_true rfl) e2 rfl rfl rfl hl.1 hc1 hc2 Rp S (fun H locs Rp S => ?_)
  refine lv_icmp_eq F.1 F.2.1 dL_law_1513 (tgt := 1518) (by decide) (fun _ => ?_) (fun q => absurd rfl q)
  exact kk I2 J2 R1 H locs inv2 Rp S
end LAWC

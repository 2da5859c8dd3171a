-- THE LAW: its beginning
theorem chT_st {n : Nat} {h1 h2 h3 h4 : Hp} (e : h1.1 = h3.1) (e' : h2.1 = h4.1) : chT n h1 h2 = chT n h3 h4 := by
  unfold chT hTop hSl hAl hK hN hF
  rw [e, e']
theorem chPq : chT 172 (hNew (hq (fun _ _ => 0) (fun _ _ => 0) (fun _ _ => none)) 15 1) (hp (fun _ _ => 0) (fun _ _ => 0) (fun _ _ => none)) = true := by decide +kernel
theorem eqP {Y : Mem} {J : MemL} {R : MemR} : eqv (hNew (hq Y J R) 15 1) (hp (va_up Y 171 (fun _ => 0)) (va_up J 171 (fun _ => 0)) (va_up R 171 (fun _ => none))) := by
  refine chT_eqv (n := 172) (h := hNew (hq Y J R) 15 1) (s := G0) ((chT_st rfl rfl).trans chPq) (fun a ha => ?_)
  have ha : kd0 a < 18 := ha
  by_cases w : a < 172
  · exact w
  · rw [kd0_hi (by omega)] at ha
    omega
theorem sz_of {h : Hp} {d : (Nat → Nat → Int32) × (Nat → Nat → Int64) × (Nat → Nat → Option Nat)} (v : eqv (hNew h 12 (NN 12)) (sB, d)) : hTop h = 123 ∧ hSl h = 32608 := by
  have h1 : hTop h + 1 = 124 := v.2.1
  have h2 : hSl h + 87 = 32695 := v.2.2.1
  omega
theorem A_sz : hTop hA1 = 123 ∧ hSl hA1 = 32608 := sz_of (h := hA1) (d := hA2.2) eqB
section LAWB
variable {p : Program} {l : Launch} {e : Env} {s : State} {m : MethodId} {below : List Frame} {meth : Method} {c : Code} {bs L : Nat} {xs : Nat → Int32} {D : va_G} {cy : Nat → ClassId} {LS : Array Slot}
theorem l_made {h1 h2 : Hp} (F : LF p s m meth c bs L xs D cy) (Q : State → Prop) (t1 : hTop h1 = 123) (s1 : hSl h1 = 32608) (v : eqv (hNew h1 12 (NN 12)) h2) {Y : Mem} {J : MemL} {R : MemR} (hA : MetP l 11 MX11_init [.ref 0] (hNew hE 11 (NN 11)) (none, h1)) (hB : MetP l 11 MX12_init [.ref 123] h2 (none, hq Y J R)) (hls : lv_has LS 7 [(0, .ref bs)])
    (kk : ∀ (H : Heap) (locs : List Loc) (LS : Array Slot) (cells slots : Nat), cells = 172 → slots = 64803 → lv_has LS 7 (lvB s.heap.size bs 0) → Rep D cy s.heap.size (hp (va_up Y 171 (fun _ => 0)) (va_up J 171 (fun _ => 0)) (va_up R 171 (fun _ => none))) H → va_S (fun q => s.heap.size ≤ q) s.heap H locs → W p l e room_1 s m #[Value.ref bs] below meth c H locs cells slots Q (F0 m 23 LS [])) :
    W p l e room_1 s m #[Value.ref bs] below meth c s.heap [] 0 0 Q (F0 m 0 LS []) := by
  have n11 : NN 11 = 17 := rfl
  have n12 : NN 12 = 87 := rfl
  have n1 : (1 : Int32).toNatClampNeg = 1 := by decide
  have tv : hTop h2 = 124 := by rw [← v.2.1]; show hTop h1 + 1 = 124; omega
  have sv : hSl h2 = 32695 := by rw [← v.2.2.1]; show hSl h1 + NN 12 = 32695; omega
  have tq : hTop ((none, hq Y J R) : Rs).2 = 171 := rfl
  have sq : hSl ((none, hq Y J R) : Rs).2 = 64802 := rfl
  have R0 : Rep D cy s.heap.size hE s.heap := ⟨fun k q hq => (by cases hq), fun a ha => absurd ha (by show ¬ 99 < 18; decide)⟩
  refine l_new F dL_law_0 ln_L8 (h := hE) rfl (by decide) (by decide) R0 va_S.rf (fun H1 R1 S1 => ?_)
  refine lv_dup F.1 F.2.1 dL_law_3 rfl ?_
  refine l_init (a := 0) (mc' := 122) (ms' := 32591) F dL_law_4 lo_17 (by show 1 ≤ 8; decide) hA (by show hTop h1 = 0 + 1 + 122; omega) (by show hSl h1 = 0 + NN 11 + 32591; rw [s1, n11]) rfl hls.1 (by omega) (by omega) R1 S1 (fun H2 locs2 R2 S2 => ?_)
  refine lv_astore_n F.1 F.2.1 dL_law_7 rfl hls (by decide) rfl (fun LS2 hl2 => ?_)
  refine l_new F dL_law_8 ln_L18 (h := h1) (by rw [t1]) (by omega) (by omega) R2 S2 (fun H3 R3 S3 => ?_)
  refine lv_dup F.1 F.2.1 dL_law_11 rfl ?_
  rw [t1]
  refine l_init (a := 123) (mc' := 47) (ms' := 32107) F dL_law_12 lo_20 (by show 1 ≤ 8; decide) hB (by rw [tv, tq]) (by rw [sv, sq]) (by rw [tv]) hl2.1 (by omega) (by omega) (v.rep R3) S3 (fun H4 locs4 R4 S4 => ?_)
  refine lv_astore_n F.1 F.2.1 dL_law_15 rfl hl2 (by decide) rfl (fun LS3 hl3 => ?_)
  refine lv_iconst F.1 F.2.1 dL_law_16 rfl ?_
  refine l_newl (n := 1) F dL_law_17 (by decide) (by decide) (h := hq Y J R) rfl (by omega) (by omega) R4 S4 (fun H5 R5 S5 => ?_)
  refine lv_astore_n F.1 F.2.1 dL_law_19 rfl hl3 (by decide) rfl (fun LS4 hl4 => ?_)
  refine lv_iconst F.1 F.2.1 dL_law_20 rfl ?_
  refine lv_istore F.1 F.2.1 dL_law_21 hl4 (by decide) rfl (fun LS5 hl5 => ?_)
  exact kk H5 _ LS5 _ _ (by omega) (by rw [n11, n12, n1]) hl5 (eqP.rep R5) S5
/-- the law, but for look's case and Tokens.<init> -/
theorem l_whole (F : LF p s m meth c bs L xs D cy) (hL : L ≤ 3072) (hT : ∀ (d : Nat) (M : Mth) (as : List Value) (h : Hp) (r : Rs), 6 ≤ d → mG M → tokT M as h = some r → Mon h r.2 ∧ MetP l (d + 1) M as h r) (lk : lkC p l e s m below meth c bs L D cy (lw_Z below #[Value.ref bs] s)) (hls : lv_has LS 7 [(0, .ref bs)]) : W p l e room_1 s m #[Value.ref bs] below meth c s.heap [] 0 0 (lw_Z below #[Value.ref bs] s) (F0 m 0 LS []) := by
  obtain ⟨I, Y, J, R, z, y, hB⟩ := con_B (l := l) hT
  refine l_made F _ A_sz.1 A_sz.2 eqB (con_A hT).2 hB hls (fun H locs LS2 cells slots hc hs h1 h2 h3 => ?_)
  exact l_loop F hL lk 600 0 _ _ _ H locs cells slots LS2 (by omega) (by omega) (by omega) (by omega) h1 (con_inv z y) h2 h3
end LAWB

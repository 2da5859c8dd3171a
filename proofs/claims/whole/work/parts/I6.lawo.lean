-- THE LAW: its loop
section LAWO
variable {p : Program} {l : Launch} {e : Env} {s : State} {m : MethodId} {below : List Frame} {meth : Method} {c : Code} {bs L : Nat} {xs : Nat → Int32} {D : va_G} {cy : Nat → ClassId}
/-- the case of look -/
def lkC (p : Program) (l : Launch) (e : Env) (s : State) (m : MethodId) (below : List Frame) (meth : Method) (c : Code) (bs L : Nat) (D : va_G) (cy : Nat → ClassId) (Q : State → Prop) : Prop := ∀ (I : Mem) (J : MemL) (R : MemR) (i : Nat) (H : Heap) (locs : List Loc) (cells slots : Nat) (LS : Array Slot), lv_has LS 7 (lvB s.heap.size bs i) → lInv I R → Rep D cy s.heap.size (hp I J R) H → va_S (fun q => s.heap.size ≤ q) s.heap H locs → i + 6 ≤ L → cells + 10 ≤ 601024 → slots + 1000 ≤ 7293034 →
    (∀ (I : Mem) (J : MemL) (R : MemR) (H : Heap) (locs : List Loc) (LS : Array Slot) (cells' slots' : Nat), cells' ≤ cells + 10 → slots' ≤ slots + 1000 → lv_has LS 7 (lvB s.heap.size bs i) → lInv I R → Rep D cy s.heap.size (hp I J R) H → va_S (fun q => s.heap.size ≤ q) s.heap H locs → W p l e room_1 s m #[Value.ref bs] below meth c H locs cells' slots' Q (F0 m 1518 LS [])) →
    W p l e room_1 s m #[Value.ref bs] below meth c H locs cells slots Q (F0 m 356 LS [])
theorem l_loop (F : LF p s m meth c bs L xs D cy) (hL : L ≤ 3072) (lk : lkC p l e s m below meth c bs L D cy (lw_Z below #[Value.ref bs] s)) : ∀ (r i : Nat) (I : Mem) (J : MemL) (R : MemR) (H : Heap) (locs : List Loc) (cells slots : Nat) (LS : Array Slot), L < i + 6 * r + 6 → i ≤ L → cells + 10 * r ≤ 601024 → slots + 1000 * r ≤ 7293034 → lv_has LS 7 (lvB s.heap.size bs i) → lInv I R → Rep D cy s.heap.size (hp I J R) H → va_S (fun q => s.heap.size ≤ q) s.heap H locs → W p l e room_1 s m #[Value.ref bs] below meth c H locs cells slots (lw_Z below #[Value.ref bs] s) (F0 m 23 LS []) := by
  intro r
  induction r with
  | zero =>
    intro i I J R H locs cells slots LS h1 h2 h3 h4 hl inv Rp S
    refine lv_iload F.1 F.2.1 dL_law_23 (lv_at hl 0 rfl) ?_
    refine lv_aload_n F.1 F.2.1 dL_law_25 rfl (lv_at hl 4 rfl) ?_
    refine va_slen F.1 F.2.1 F.2.2.2.2.2.2.2.2.1 F.2.2.2.2.2.2.2.2.2.1 (fun q => absurd q (Nat.not_le.mpr F.2.2.2.2.2.2.2.2.2.1)) S dL_law_26 ?_
    refine lv_bipush F.1 F.2.1 dL_law_27 rfl ?_
    refine lv_isub F.1 F.2.1 dL_law_29 ?_
    refine lv_icmp_gt F.1 F.2.1 dL_law_30 (tgt := 1524) (by decide) (fun _ => ?_) (fun q => absurd ?_ q)
    · refine lv_iconst F.1 F.2.1 dL_law_1524 rfl ?_
      refine va_forget S.2.2 ?_
      refine W.widen (k := 601024) (n := 7293034) (by omega) (by omega) ?_
      exact lw_ret F.1 F.2.1 F.2.2.2.2.2.2.2.2.2.2.2.1 F.2.2.2.2.2.2.2.2.2.2.1 dL_law_1525
    · show nI L - nI 6 < nI i
      rcases Nat.lt_or_ge L 6 with w | w
      · exact Int32.lt_of_lt_of_le (pk_sneg (by omega) w) (nI_pos' (by omega))
      · rw [pk_sub w]
        exact nI_lt (by omega) (by omega)
  | succ r ih =>
    intro i I J R H locs cells slots LS h1 h2 h3 h4 hl inv Rp S
    refine lv_iload F.1 F.2.1 dL_law_23 (lv_at hl 0 rfl) ?_
    refine lv_aload_n F.1 F.2.1 dL_law_25 rfl (lv_at hl 4 rfl) ?_
    refine va_slen F.1 F.2.1 F.2.2.2.2.2.2.2.2.1 F.2.2.2.2.2.2.2.2.2.1 (fun q => absurd q (Nat.not_le.mpr F.2.2.2.2.2.2.2.2.2.1)) S dL_law_26 ?_
    refine lv_bipush F.1 F.2.1 dL_law_27 rfl ?_
    refine lv_isub F.1 F.2.1 dL_law_29 ?_
    refine lv_icmp_gt F.1 F.2.1 dL_law_30 (tgt := 1524) (by decide) (fun _ => ?_) (fun q => ?_)
    · refine lv_iconst F.1 F.2.1 dL_law_1524 rfl ?_
      refine va_forget S.2.2 ?_
      refine W.widen (k := 601024) (n := 7293034) (by omega) (by omega) ?_
      exact lw_ret F.1 F.2.1 F.2.2.2.2.2.2.2.2.2.2.2.1 F.2.2.2.2.2.2.2.2.2.2.1 dL_law_1525
    · have hi : i + 6 ≤ L := by
        have q : ¬ nI L - nI 6 < nI i := q
        rcases Nat.lt_or_ge L 6 with w | w
        · exact absurd (Int32.lt_of_lt_of_le (pk_sneg (by omega) w) (nI_pos' (by omega))) q
        · rw [pk_sub w] at q
          rcases Nat.lt_or_ge (L - 6) i with z | z
          · exact absurd (nI_lt z (by omega)) q
          · omega
      refine lv_aload_n F.1 F.2.1 dL_law_33 rfl (lv_at hl 4 rfl) ?_
      refine lv_iload F.1 F.2.1 dL_law_34 (lv_at hl 0 rfl) ?_
      refine va_sld F.1 F.2.1 F.2.2.2.2.2.2.2.2.1 F.2.2.2.2.2.2.2.2.2.1 (fun q => absurd q (Nat.not_le.mpr F.2.2.2.2.2.2.2.2.2.1)) S (i := nI i) ?_ dL_law_36 ?_
      · rintro (q | q)
        · exact nI_pos (by omega) q
        · rw [nI_clamp (by omega)] at q
          omega
      refine lv_bipush F.1 F.2.1 dL_law_37 rfl ?_
      refine lv_iand F.1 F.2.1 dL_law_39 ?_
      -- behind a case: one turn more
      have kk : ∀ (I : Mem) (J : MemL) (R : MemR) (H : Heap) (locs : List Loc) (LS : Array Slot) (cells' slots' : Nat), cells' ≤ cells + 10 → slots' ≤ slots + 1000 → lv_has LS 7 (lvB s.heap.size bs i) → lInv I R → Rep D cy s.heap.size (hp I J R) H → va_S (fun q => s.heap.size ≤ q) s.heap H locs → W p l e room_1 s m #[Value.ref bs] below meth c H locs cells' slots' (lw_Z below #[Value.ref bs] s) (F0 m 1518 LS []) := by
        intro I J R H locs LS cells' slots' g1 g2 hl inv Rp S
        refine lv_iinc F.1 F.2.1 dL_law_1518 hl (k := 0) rfl (v := nI (i + 6)) (by rw [← nI_add]; rfl) (by omega) (lv' := lvB s.heap.size bs (i + 6)) rfl (fun LS hl => ?_)
        refine lv_goto F.1 F.2.1 dL_law_1521 (tgt := 23) (by decide) ?_
        exact ih (i + 6) I J R H locs cells' slots' LS (by omega) hi (by omega) (by omega) hl inv Rp S
      have kq : ∀ (I : Mem) (J : MemL) (R : MemR) (H : Heap) (locs : List Loc), lInv I R → Rep D cy s.heap.size (hp I J R) H → va_S (fun q => s.heap.size ≤ q) s.heap H locs → W p l e room_1 s m #[Value.ref bs] below meth c H locs cells slots (lw_Z below #[Value.ref bs] s) (F0 m 1518 LS []) := fun I J R H locs => kk I J R H locs LS cells slots (by omega) (by omega) hl
      have hA : cells + 10 ≤ 601024 := by omega
      have hB : slots + 1000 ≤ 7293034 := Nat.le_trans (Nat.add_le_add_left (Nat.le_mul_of_pos_right 1000 (Nat.succ_pos r)) slots) h4
      have hC : cells ≤ 601024 := by omega
      have hD : slots ≤ 7293034 := Nat.le_trans (Nat.le_add_right slots 1000) hB
      have hE : L < 2 ^ 31 := by omega
      generalize hx : xs (nI i).toNatClampNeg &&& (Int8.ofInt 63).toInt32 = x
      by_cases z0 : x.toInt = 0
      · refine lv_tableIn F.1 F.2.1 dL_law_40 (tgt := 196) (off := 156) (by omega) (by omega) (by rw [z0]; rfl) (by decide) ?_
        exact lc_feed F hl inv Rp S hi hE hC hD kq
      by_cases z1 : x.toInt = 1
      · refine lv_tableIn F.1 F.2.1 dL_law_40 (tgt := 269) (off := 229) (by omega) (by omega) (by rw [z1]; rfl) (by decide) ?_
        exact lc_text F hl inv Rp S hi hE hC hD kq
      by_cases z2 : x.toInt = 2
      · refine lv_tableIn F.1 F.2.1 dL_law_40 (tgt := 294) (off := 254) (by omega) (by omega) (by rw [z2]; rfl) (by decide) ?_
        exact lc_fault F hl inv Rp S hi hE hC hD kq
      by_cases z3 : x.toInt = 3
      · refine lv_tableIn F.1 F.2.1 dL_law_40 (tgt := 319) (off := 279) (by omega) (by omega) (by rw [z3]; rfl) (by decide) ?_
        exact lc_named F hl inv Rp S hi hE hC hD kq
      by_cases z4 : x.toInt = 4
      · refine lv_tableIn F.1 F.2.1 dL_law_40 (tgt := 356) (off := 316) (by omega) (by omega) (by rw [z4]; rfl) (by decide) ?_
        exact lk I J R i H locs cells slots LS hl inv Rp S hi hA hB kk
      by_cases z5 : x.toInt = 5
      · refine lv_tableIn F.1 F.2.1 dL_law_40 (tgt := 424) (off := 384) (by omega) (by omega) (by rw [z5]; rfl) (by decide) ?_
        exact lc_reach F hl inv Rp S hi hE hC hD kq
      by_cases z6 : x.toInt = 6
      · refine lv_tableIn F.1 F.2.1 dL_law_40 (tgt := 461) (off := 421) (by omega) (by omega) (by rw [z6]; rfl) (by decide) ?_
        exact lc_pull F hl inv Rp S hi hE hC hD kq
      by_cases z7 : x.toInt = 7
      · refine lv_tableIn F.1 F.2.1 dL_law_40 (tgt := 486) (off := 446) (by omega) (by omega) (by rw [z7]; rfl) (by decide) ?_
        exact lc_steps F hl inv Rp S hi hE hC hD kq
      by_cases z8 : x.toInt = 8
      · refine lv_tableIn F.1 F.2.1 dL_law_40 (tgt := 511) (off := 471) (by omega) (by omega) (by rw [z8]; rfl) (by decide) ?_
        exact lc_was F hl inv Rp S hi hE hC hD kq
      by_cases z9 : x.toInt = 9
      · refine lv_tableIn F.1 F.2.1 dL_law_40 (tgt := 548) (off := 508) (by omega) (by omega) (by rw [z9]; rfl) (by decide) ?_
        exact lc_stroke F hl inv Rp S hi hE hC hD kq
      by_cases z10 : x.toInt = 10
      · refine lv_tableIn F.1 F.2.1 dL_law_40 (tgt := 585) (off := 545) (by omega) (by omega) (by rw [z10]; rfl) (by decide) ?_
        exact lc_apart F hl inv Rp S hi hE hC hD kq
      by_cases z11 : x.toInt = 11
      · refine lv_tableIn F.1 F.2.1 dL_law_40 (tgt := 622) (off := 582) (by omega) (by omega) (by rw [z11]; rfl) (by decide) ?_
        exact lc_since F hl inv Rp S hi hE hC hD kq
      by_cases z12 : x.toInt = 12
      · refine lv_tableIn F.1 F.2.1 dL_law_40 (tgt := 699) (off := 659) (by omega) (by omega) (by rw [z12]; rfl) (by decide) ?_
        exact lc_groups F hl inv Rp S hi hE hC hD kq
      by_cases z13 : x.toInt = 13
      · refine lv_tableIn F.1 F.2.1 dL_law_40 (tgt := 724) (off := 684) (by omega) (by omega) (by rw [z13]; rfl) (by decide) ?_
        exact lc_group F hl inv Rp S hi hE hC hD kq
      by_cases z14 : x.toInt = 14
      · refine lv_tableIn F.1 F.2.1 dL_law_40 (tgt := 761) (off := 721) (by omega) (by omega) (by rw [z14]; rfl) (by decide) ?_
        exact lc_falls F hl inv Rp S hi hE hC hD kq
      by_cases z15 : x.toInt = 15
      · refine lv_tableIn F.1 F.2.1 dL_law_40 (tgt := 774) (off := 734) (by omega) (by omega) (by rw [z15]; rfl) (by decide) ?_
        exact lc_fall F hl inv Rp S hi hE hC hD kq
      by_cases z16 : x.toInt = 16
      · refine lv_tableIn F.1 F.2.1 dL_law_40 (tgt := 799) (off := 759) (by omega) (by omega) (by rw [z16]; rfl) (by decide) ?_
        exact lc_hang F hl inv Rp S hi hE hC hD kq
      by_cases z17 : x.toInt = 17
      · refine lv_tableIn F.1 F.2.1 dL_law_40 (tgt := 848) (off := 808) (by omega) (by omega) (by rw [z17]; rfl) (by decide) ?_
        exact lc_stop F hl inv Rp S hi hE hC hD kq
      by_cases z18 : x.toInt = 18
      · refine lv_tableIn F.1 F.2.1 dL_law_40 (tgt := 873) (off := 833) (by omega) (by omega) (by rw [z18]; rfl) (by decide) ?_
        exact lc_undo F hl inv Rp S hi hE hC hD kq
      by_cases z19 : x.toInt = 19
      · refine lv_tableIn F.1 F.2.1 dL_law_40 (tgt := 886) (off := 846) (by omega) (by omega) (by rw [z19]; rfl) (by decide) ?_
        exact lc_run F hl inv Rp S hi hE hC hD kq
      by_cases z20 : x.toInt = 20
      · refine lv_tableIn F.1 F.2.1 dL_law_40 (tgt := 935) (off := 895) (by omega) (by omega) (by rw [z20]; rfl) (by decide) ?_
        exact lc_own F hl inv Rp S hi hE hC hD kq
      by_cases z21 : x.toInt = 21
      · refine lv_tableIn F.1 F.2.1 dL_law_40 (tgt := 972) (off := 932) (by omega) (by omega) (by rw [z21]; rfl) (by decide) ?_
        exact lc_least F hl inv Rp S hi hE hC hD kq
      by_cases z22 : x.toInt = 22
      · refine lv_tableIn F.1 F.2.1 dL_law_40 (tgt := 1033) (off := 993) (by omega) (by omega) (by rw [z22]; rfl) (by decide) ?_
        exact lc_mend F hl inv Rp S hi hE hC hD kq
      by_cases z23 : x.toInt = 23
      · refine lv_tableIn F.1 F.2.1 dL_law_40 (tgt := 1082) (off := 1042) (by omega) (by omega) (by rw [z23]; rfl) (by decide) ?_
        exact lc_order F hl inv Rp S hi hE hC hD kq
      by_cases z24 : x.toInt = 24
      · refine lv_tableIn F.1 F.2.1 dL_law_40 (tgt := 1143) (off := 1103) (by omega) (by omega) (by rw [z24]; rfl) (by decide) ?_
        exact lc_due F hl inv Rp S hi hE hC hD kq
      by_cases z25 : x.toInt = 25
      · refine lv_tableIn F.1 F.2.1 dL_law_40 (tgt := 1180) (off := 1140) (by omega) (by omega) (by rw [z25]; rfl) (by decide) ?_
        exact lc_gain F hl inv Rp S hi hE hC hD kq
      by_cases z26 : x.toInt = 26
      · refine lv_tableIn F.1 F.2.1 dL_law_40 (tgt := 1229) (off := 1189) (by omega) (by omega) (by rw [z26]; rfl) (by decide) ?_
        exact lc_heard F hl inv Rp S hi hE hC hD kq
      by_cases z27 : x.toInt = 27
      · refine lv_tableIn F.1 F.2.1 dL_law_40 (tgt := 1294) (off := 1254) (by omega) (by omega) (by rw [z27]; rfl) (by decide) ?_
        exact lc_strike F hl inv Rp S hi hE hC hD kq
      by_cases z28 : x.toInt = 28
      · refine lv_tableIn F.1 F.2.1 dL_law_40 (tgt := 1319) (off := 1279) (by omega) (by omega) (by rw [z28]; rfl) (by decide) ?_
        exact lc_known F hl inv Rp S hi hE hC hD kq
      by_cases z29 : x.toInt = 29
      · refine lv_tableIn F.1 F.2.1 dL_law_40 (tgt := 1344) (off := 1304) (by omega) (by omega) (by rw [z29]; rfl) (by decide) ?_
        exact lc_fits F hl inv Rp S hi hE hC hD kq
      by_cases z30 : x.toInt = 30
      · refine lv_tableIn F.1 F.2.1 dL_law_40 (tgt := 1357) (off := 1317) (by omega) (by omega) (by rw [z30]; rfl) (by decide) ?_
        exact lc_tried F hl inv Rp S hi hE hC hD kq
      by_cases z31 : x.toInt = 31
      · refine lv_tableIn F.1 F.2.1 dL_law_40 (tgt := 1418) (off := 1378) (by omega) (by omega) (by rw [z31]; rfl) (by decide) ?_
        exact lc_chance F hl inv Rp S hi hE hC hD kq
      by_cases z32 : x.toInt = 32
      · refine lv_tableIn F.1 F.2.1 dL_law_40 (tgt := 1467) (off := 1427) (by omega) (by omega) (by rw [z32]; rfl) (by decide) ?_
        exact lc_keep F hl inv Rp S hi hE hC hD kq
      by_cases z33 : x.toInt = 33
      · refine lv_tableIn F.1 F.2.1 dL_law_40 (tgt := 1480) (off := 1440) (by omega) (by omega) (by rw [z33]; rfl) (by decide) ?_
        exact lc_back F hl inv Rp S hi hE hC hD kq
      by_cases z34 : x.toInt = 34
      · refine lv_tableIn F.1 F.2.1 dL_law_40 (tgt := 1493) (off := 1453) (by omega) (by omega) (by rw [z34]; rfl) (by decide) ?_
        exact lc_count F hl inv Rp S hi hE hC hD kq
      refine lv_tableOut F.1 F.2.1 dL_law_40 (tgt := 1518) (by omega) (by decide) ?_
      exact kq I J R H locs inv Rp S
end LAWO

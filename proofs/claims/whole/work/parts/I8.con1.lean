-- THE CONSTRUCTORS: straight lines, run by the kernel
def runC (O : Orc) (M : Mth) : List (Nat × Instr × Nat) → Cf → Option Cf
  | [], c => some c
  | r :: rs, c => gd (c.1 == r.1) (match ex1 O M r.2.1 r.2.2 c.1 c.2.1 c.2.2.1 c.2.2.2 with
    | some (.inl c2) => runC O M rs c2
    | _ => none)
theorem runC_app {O : Orc} {M : Mth} : ∀ (L L' : List (Nat × Instr × Nat)) (c : Cf), runC O M (L ++ L') c = (runC O M L c).bind (runC O M L')
  | [], L', c => rfl
  | r :: rs, L', c => by
    show runC O M (r :: (rs ++ L')) c = _
    unfold runC
    unfold gd
    split
    · split
      · exact runC_app rs L' _
      · rfl
    · rfl
section RC
variable {O : Orc} {l : Launch} {d : Nat} {M : Mth}
theorem runC_ok (IH : ∀ (M : Mth) (as : List Value) (h : Hp) (r : Rs), mG M → O M as h = some r → Mon h r.2 ∧ MetP l d M as h r) : ∀ (L : List (Nat × Instr × Nat)) (c c2 : Cf), (∀ r ∈ L, decode M.2.1 r.1 = .ok r.2) → runC O M L c = some c2 → Mon c.2.2.2 c2.2.2.2 ∧ ∀ (t0 s0 mc ms b : Nat) (r : Rs), hTop c2.2.2.2 ≤ t0 + mc → hSl c2.2.2.2 ≤ s0 + ms → GW l (d + 1) t0 s0 mc ms b M r c2.1 c2.2.1 c2.2.2.1 c2.2.2.2 → GW l (d + 1) t0 s0 mc ms b M r c.1 c.2.1 c.2.2.1 c.2.2.2
  | [], c, c2, _, h => by
    cases h
    exact ⟨Mon.rf, fun _ _ _ _ _ _ _ _ k => k⟩
  | r :: rs, c, c2, hd, h => by
    unfold runC at h
    rw [gd_some, beq_iff_eq] at h
    obtain ⟨h1, h⟩ := h
    have hd1 := hd r List.mem_cons_self
    rw [← h1] at hd1
    split at h
    · next c3 e =>
      obtain ⟨m1, k1⟩ := (stepO_ok IH hd1 e : SO l d M c.1 c.2.1 c.2.2.1 c.2.2.2 (.inl c3))
      obtain ⟨m2, k2⟩ := runC_ok IH rs c3 c2 (fun r hr => hd r (List.mem_cons_of_mem _ hr)) h
      exact ⟨m1.tr m2, fun t0 s0 mc ms b z ht hs kk => k1 t0 s0 mc ms b z (Nat.le_trans m2.1 ht) (Nat.le_trans m2.2.1 hs) (k2 t0 s0 mc ms b z ht hs kk)⟩
    · cases h
theorem runs_GW (IH : ∀ (M : Mth) (as : List Value) (h : Hp) (r : Rs), mG M → O M as h = some r → Mon h r.2 ∧ MetP l d M as h r) {r : Rs} : ∀ (n pc : Nat) (ls : Lc) (st : List Value) (h : Hp), runs O M n (pc, ls, st, h) = some r → Mon h r.2 ∧ ∀ (t0 s0 mc ms b : Nat), hTop r.2 = t0 + mc → hSl r.2 = s0 + ms → GW l (d + 1) t0 s0 mc ms b M r pc ls st h := by
  intro n
  induction n with
  | zero => intro pc ls st h hr; cases hr
  | succ n ih =>
    intro pc ls st h hr
    unfold runs at hr
    have hstep : ∀ o, stp O M (pc, ls, st, h) = some o → SO l d M pc ls st h o := by
      intro o ho
      unfold stp at ho
      split at ho
      · next i k hdc => exact stepO_ok IH hdc ho
      · cases ho
    split at hr
    · next c' hs =>
      obtain ⟨m1, k1⟩ := hstep _ hs
      obtain ⟨m2, k2⟩ := ih c'.1 c'.2.1 c'.2.2.1 c'.2.2.2 hr
      refine ⟨m1.tr m2, fun t0 s0 mc ms b ht hs => k1 t0 s0 mc ms b r (by rw [← ht]; exact m2.1) (by rw [← hs]; exact m2.2.1) (k2 t0 s0 mc ms b ht hs)⟩
    · next r' hs =>
      cases hr
      exact hstep _ hs
    · cases hr
/-- a method of which the walk from its start is known -/
theorem Met_GW {as : List Value} {h : Hp} {r : Rs} (hg : mG M) (hl : (entA as).length ≤ M.2.2.1) (k1 : ∀ (t0 s0 mc ms b : Nat), hTop r.2 = t0 + mc → hSl r.2 = s0 + ms → GW l (d + 1) t0 s0 mc ms b M r 0 (entL M.2.2.1 as) [] h) : MetP l (d + 1) M as h r := by
  intro D cy b mc ms ht hs
  refine Met.ofW (cc := M.2.1) (maxL := M.2.2.1) (ret := M.2.2.2.1) hg.2.2.2.1 rfl ?_
  intro p e s m args below meth c s₁ B hml hv
  obtain ⟨rfl, Rp, hK, hF, hMw, hb, hz, hkp⟩ := hv
  have hts := atoms_spec (ws := wsA M) B.pre
  have hown : s.vm.findClass (cnm M.2.2.2.2) = some m.cls := by rw [← hg.2.2.2.2.1]; exact findClass_of_methodNamed B.named
  rw [lg_entry_eq]
  exact k1 (hTop h) (hSl h) mc ms b ht hs p e s m _ below meth c D cy s.heap [] _ 0 0 ⟨B.exec, B.bytes, B.returns, hml, hown, fun w hw => hts w (List.mem_cons_of_mem _ hw), hK, B.notSynchronized, hF, hMw, (name_of_methodNamed B.named B.method).1⟩ (ent_LR hl) Rp va_S.rf ⟨hb, hkp⟩ hz (Nat.zero_add _) (Nat.zero_add _)
end RC
/-- two heaps that lie alike in the machine -/
def eqv (h h' : Hp) : Prop := (hAl h' = true → hAl h = true) ∧ hTop h = hTop h' ∧ hSl h = hSl h' ∧ (∀ cy b, wl cy b h = wl cy b h') ∧ ∀ a, hK h' a < 18 → a < hTop h'
theorem eqv.rep {h h' : Hp} (e : eqv h h') {D : va_G} {cy : Nat → ClassId} {b : Nat} {H : Heap} (R : Rep D cy b h H) : Rep D cy b h' H := ⟨by rw [← e.2.2.2.1 cy b]; exact R.1, e.2.2.2.2⟩
theorem eqv.gw {h h' : Hp} (e : eqv h h') {l : Launch} {d t0 s0 mc ms b : Nat} {M : Mth} {r : Rs} {pc : Nat} {ls : Lc} {st : List Value} (k : GW l d t0 s0 mc ms b M r pc ls st h') : GW l d t0 s0 mc ms b M r pc ls st h :=
  fun p e1 s m args below meth c D cy H locs LS cells slots F L Rp S hb hz g1 g2 => k p e1 s m args below meth c D cy H locs LS cells slots F L (e.rep Rp) S hb (fun q => hz (e.1 q)) (g1.trans e.2.1) (g2.trans e.2.2.1)
/-- the static parts, compared place by place -/
def chT (n : Nat) (h h' : Hp) : Bool := (hTop h == n && hTop h' == n && hSl h == hSl h' && (hAl h || !hAl h')) && (List.range n).all fun a => hK h a == hK h' a && (if hK h' a < 13 then (List.range (NN (hK h' a))).all (fun k => !(TT (hK h' a) k).2.2.2 || hF h a k == hF h' a k) else hN h a == hN h' a)
theorem chT_eqv {n : Nat} {h : Hp} {s : Hs} (hc : chT n h (s, h.2) = true) (hk : ∀ a, hK (s, h.2) a < 18 → a < n) : eqv h (s, h.2) := by
  unfold chT at hc
  simp only [Bool.and_eq_true, beq_iff_eq, List.all_eq_true, List.mem_range, Bool.or_eq_true] at hc
  obtain ⟨⟨⟨⟨h1, h2⟩, h3⟩, h4⟩, h5⟩ := hc
  refine ⟨fun q => ?_, by rw [h1, h2], h3, fun cy b => ?_, fun a ha => by rw [h2]; exact hk a ha⟩
  · rcases h4 with h4 | h4
    · exact h4
    · rw [q] at h4
      cases h4
  · unfold wl
    rw [h1, h2]
    refine List.map_congr_left fun a ha => ?_
    obtain ⟨g1, g2⟩ := h5 a (List.mem_range.mp ha)
    congr 1
    unfold cellE
    rw [g1]
    by_cases w : hK (s, h.2) a < 13
    · rw [if_pos w, if_pos w]
      rw [if_pos w] at g2
      congr 2
      refine List.map_congr_left fun k hk => ?_
      have g3 := List.all_eq_true.mp g2 k hk
      simp only [Bool.or_eq_true, Bool.not_eq_true', beq_iff_eq] at g3
      congr 1
      unfold fP
      split
      · congr 1
        split
        · next t =>
          rcases g3 with g3 | g3
          · rw [t] at g3
            cases g3
          · exact g3
        · rfl
      · rfl
    · rw [if_neg w, if_neg w]
      rw [if_neg w, beq_iff_eq] at g2
      rw [g2]
      rfl
def rwX12_0 : List (Nat × Instr × Nat) := [(0, .aload_n 0, 1), (1, .invokespecial 1, 3), (4, .aload_n 0, 1), (5, .sipush 700, 3), (8, .newarray .int, 2), (10, .putfield 7, 3), (13, .aload_n 0, 1), (14, .bipush 107, 2), (16, .newarray .int, 2), (18, .dup, 1), (19, .iconst 0, 1), (20, .bipush 98, 2), (22, .iastore, 1), (23, .dup, 1), (24, .iconst 1, 1), (25, .bipush 101, 2), (27, .iastore, 1), (28, .dup, 1), (29, .iconst 2, 1), (30, .bipush 97, 2), (32, .iastore, 1), (33, .dup, 1), (34, .iconst 3, 1), (35, .bipush 109, 2), (37, .iastore, 1), (38, .dup, 1), (39, .iconst 4, 1), (40, .bipush 32, 2), (42, .iastore, 1), (43, .dup, 1), (44, .iconst 5, 1), (45, .bipush 99, 2), (47, .iastore, 1), (48, .dup, 1), (49, .bipush 6, 2), (51, .bipush 108, 2), (53, .iastore, 1), (54, .dup, 1), (55, .bipush 7, 2), (57, .bipush 111, 2), (59, .iastore, 1), (60, .dup, 1), (61, .bipush 8, 2), (63, .bipush 99, 2), (65, .iastore, 1), (66, .dup, 1), (67, .bipush 9, 2), (69, .bipush 107, 2), (71, .iastore, 1), (72, .dup, 1), (73, .bipush 10, 2), (75, .bipush 32, 2), (77, .iastore, 1), (78, .dup, 1), (79, .bipush 11, 2), (81, .bipush 119, 2), (83, .iastore, 1), (84, .dup, 1), (85, .bipush 12, 2), (87, .bipush 97, 2), (89, .iastore, 1), (90, .dup, 1), (91, .bipush 13, 2), (93, .bipush 108, 2), (95, .iastore, 1), (96, .dup, 1), (97, .bipush 14, 2), (99, .bipush 108, 2), (101, .iastore, 1), (102, .dup, 1), (103, .bipush 15, 2), (105, .bipush 32, 2), (107, .iastore, 1), (108, .dup, 1), (109, .bipush 16, 2), (111, .bipush 108, 2), (113, .iastore, 1), (114, .dup, 1), (115, .bipush 17, 2), (117, .bipush 97, 2), (119, .iastore, 1), (120, .dup, 1), (121, .bipush 18, 2), (123, .bipush 119, 2), (125, .iastore, 1), (126, .dup, 1), (127, .bipush 19, 2), (129, .bipush 32, 2), (131, .iastore, 1), (132, .dup, 1), (133, .bipush 20, 2), (135, .bipush 109, 2), (137, .iastore, 1), (138, .dup, 1), (139, .bipush 21, 2), (141, .bipush 97, 2), (143, .iastore, 1), (144, .dup, 1), (145, .bipush 22, 2), (147, .bipush 121, 2)]
theorem rwX12_0_ok : ∀ r ∈ rwX12_0, decode MX12_init.2.1 r.1 = .ok r.2 := by decide +kernel
def rwX12_1 : List (Nat × Instr × Nat) := [(149, .iastore, 1), (150, .dup, 1), (151, .bipush 23, 2), (153, .bipush 32, 2), (155, .iastore, 1), (156, .dup, 1), (157, .bipush 24, 2), (159, .bipush 112, 2), (161, .iastore, 1), (162, .dup, 1), (163, .bipush 25, 2), (165, .bipush 104, 2), (167, .iastore, 1), (168, .dup, 1), (169, .bipush 26, 2), (171, .bipush 97, 2), (173, .iastore, 1), (174, .dup, 1), (175, .bipush 27, 2), (177, .bipush 115, 2), (179, .iastore, 1), (180, .dup, 1), (181, .bipush 28, 2), (183, .bipush 101, 2), (185, .iastore, 1), (186, .dup, 1), (187, .bipush 29, 2), (189, .bipush 32, 2), (191, .iastore, 1), (192, .dup, 1), (193, .bipush 30, 2), (195, .bipush 100, 2), (197, .iastore, 1), (198, .dup, 1), (199, .bipush 31, 2), (201, .bipush 114, 2), (203, .iastore, 1), (204, .dup, 1), (205, .bipush 32, 2), (207, .bipush 105, 2), (209, .iastore, 1), (210, .dup, 1), (211, .bipush 33, 2), (213, .bipush 118, 2), (215, .iastore, 1), (216, .dup, 1), (217, .bipush 34, 2), (219, .bipush 101, 2), (221, .iastore, 1), (222, .dup, 1), (223, .bipush 35, 2), (225, .bipush 32, 2), (227, .iastore, 1), (228, .dup, 1), (229, .bipush 36, 2), (231, .bipush 115, 2), (233, .iastore, 1), (234, .dup, 1), (235, .bipush 37, 2), (237, .bipush 116, 2), (239, .iastore, 1), (240, .dup, 1), (241, .bipush 38, 2), (243, .bipush 97, 2), (245, .iastore, 1), (246, .dup, 1), (247, .bipush 39, 2), (249, .bipush 114, 2), (251, .iastore, 1), (252, .dup, 1), (253, .bipush 40, 2), (255, .bipush 116, 2), (257, .iastore, 1), (258, .dup, 1), (259, .bipush 41, 2), (261, .bipush 32, 2), (263, .iastore, 1), (264, .dup, 1), (265, .bipush 42, 2), (267, .bipush 104, 2), (269, .iastore, 1), (270, .dup, 1), (271, .bipush 43, 2), (273, .bipush 97, 2), (275, .iastore, 1), (276, .dup, 1), (277, .bipush 44, 2), (279, .bipush 110, 2), (281, .iastore, 1), (282, .dup, 1), (283, .bipush 45, 2), (285, .bipush 103, 2), (287, .iastore, 1), (288, .dup, 1), (289, .bipush 46, 2), (291, .bipush 32, 2), (293, .iastore, 1), (294, .dup, 1), (295, .bipush 47, 2), (297, .bipush 108, 2)]
theorem rwX12_1_ok : ∀ r ∈ rwX12_1, decode MX12_init.2.1 r.1 = .ok r.2 := by decide +kernel
def rwX12_2 : List (Nat × Instr × Nat) := [(299, .iastore, 1), (300, .dup, 1), (301, .bipush 48, 2), (303, .bipush 111, 2), (305, .iastore, 1), (306, .dup, 1), (307, .bipush 49, 2), (309, .bipush 115, 2), (311, .iastore, 1), (312, .dup, 1), (313, .bipush 50, 2), (315, .bipush 101, 2), (317, .iastore, 1), (318, .dup, 1), (319, .bipush 51, 2), (321, .bipush 32, 2), (323, .iastore, 1), (324, .dup, 1), (325, .bipush 52, 2), (327, .bipush 103, 2), (329, .iastore, 1), (330, .dup, 1), (331, .bipush 53, 2), (333, .bipush 111, 2), (335, .iastore, 1), (336, .dup, 1), (337, .bipush 54, 2), (339, .bipush 32, 2), (341, .iastore, 1), (342, .dup, 1), (343, .bipush 55, 2), (345, .bipush 97, 2), (347, .iastore, 1), (348, .dup, 1), (349, .bipush 56, 2), (351, .bipush 110, 2), (353, .iastore, 1), (354, .dup, 1), (355, .bipush 57, 2), (357, .bipush 100, 2), (359, .iastore, 1), (360, .dup, 1), (361, .bipush 58, 2), (363, .bipush 32, 2), (365, .iastore, 1), (366, .dup, 1), (367, .bipush 59, 2), (369, .bipush 111, 2), (371, .iastore, 1), (372, .dup, 1), (373, .bipush 60, 2), (375, .bipush 114, 2), (377, .iastore, 1), (378, .dup, 1), (379, .bipush 61, 2), (381, .bipush 32, 2), (383, .iastore, 1), (384, .dup, 1), (385, .bipush 62, 2), (387, .bipush 110, 2), (389, .iastore, 1), (390, .dup, 1), (391, .bipush 63, 2), (393, .bipush 111, 2), (395, .iastore, 1), (396, .dup, 1), (397, .bipush 64, 2), (399, .bipush 116, 2), (401, .iastore, 1), (402, .dup, 1), (403, .bipush 65, 2), (405, .bipush 32, 2), (407, .iastore, 1), (408, .dup, 1), (409, .bipush 66, 2), (411, .bipush 115, 2), (413, .iastore, 1), (414, .dup, 1), (415, .bipush 67, 2), (417, .bipush 112, 2), (419, .iastore, 1), (420, .dup, 1), (421, .bipush 68, 2), (423, .bipush 101, 2), (425, .iastore, 1), (426, .dup, 1), (427, .bipush 69, 2), (429, .bipush 101, 2), (431, .iastore, 1), (432, .dup, 1), (433, .bipush 70, 2), (435, .bipush 100, 2), (437, .iastore, 1), (438, .dup, 1), (439, .bipush 71, 2), (441, .bipush 32, 2), (443, .iastore, 1), (444, .dup, 1), (445, .bipush 72, 2), (447, .bipush 115, 2)]
theorem rwX12_2_ok : ∀ r ∈ rwX12_2, decode MX12_init.2.1 r.1 = .ok r.2 := by decide +kernel
def rwX12_3 : List (Nat × Instr × Nat) := [(449, .iastore, 1), (450, .dup, 1), (451, .bipush 73, 2), (453, .bipush 119, 2), (455, .iastore, 1), (456, .dup, 1), (457, .bipush 74, 2), (459, .bipush 105, 2), (461, .iastore, 1), (462, .dup, 1), (463, .bipush 75, 2), (465, .bipush 110, 2), (467, .iastore, 1), (468, .dup, 1), (469, .bipush 76, 2), (471, .bipush 103, 2), (473, .iastore, 1), (474, .dup, 1), (475, .bipush 77, 2), (477, .bipush 32, 2), (479, .iastore, 1), (480, .dup, 1), (481, .bipush 78, 2), (483, .bipush 112, 2), (485, .iastore, 1), (486, .dup, 1), (487, .bipush 79, 2), (489, .bipush 117, 2), (491, .iastore, 1), (492, .dup, 1), (493, .bipush 80, 2), (495, .bipush 108, 2), (497, .iastore, 1), (498, .dup, 1), (499, .bipush 81, 2), (501, .bipush 108, 2), (503, .iastore, 1), (504, .dup, 1), (505, .bipush 82, 2), (507, .bipush 32, 2), (509, .iastore, 1), (510, .dup, 1), (511, .bipush 83, 2), (513, .bipush 119, 2), (515, .iastore, 1), (516, .dup, 1), (517, .bipush 84, 2), (519, .bipush 101, 2), (521, .iastore, 1), (522, .dup, 1), (523, .bipush 85, 2), (525, .bipush 105, 2), (527, .iastore, 1), (528, .dup, 1), (529, .bipush 86, 2), (531, .bipush 103, 2), (533, .iastore, 1), (534, .dup, 1), (535, .bipush 87, 2), (537, .bipush 104, 2), (539, .iastore, 1), (540, .dup, 1), (541, .bipush 88, 2), (543, .bipush 116, 2), (545, .iastore, 1), (546, .dup, 1), (547, .bipush 89, 2), (549, .bipush 32, 2), (551, .iastore, 1), (552, .dup, 1), (553, .bipush 90, 2), (555, .bipush 112, 2), (557, .iastore, 1), (558, .dup, 1), (559, .bipush 91, 2), (561, .bipush 108, 2), (563, .iastore, 1), (564, .dup, 1), (565, .bipush 92, 2), (567, .bipush 97, 2), (569, .iastore, 1), (570, .dup, 1), (571, .bipush 93, 2), (573, .bipush 99, 2), (575, .iastore, 1), (576, .dup, 1), (577, .bipush 94, 2), (579, .bipush 101, 2), (581, .iastore, 1), (582, .dup, 1), (583, .bipush 95, 2), (585, .bipush 32, 2), (587, .iastore, 1), (588, .dup, 1), (589, .bipush 96, 2), (591, .bipush 115, 2), (593, .iastore, 1), (594, .dup, 1), (595, .bipush 97, 2), (597, .bipush 116, 2)]
theorem rwX12_3_ok : ∀ r ∈ rwX12_3, decode MX12_init.2.1 r.1 = .ok r.2 := by decide +kernel
def rwX12_4 : List (Nat × Instr × Nat) := [(599, .iastore, 1), (600, .dup, 1), (601, .bipush 98, 2), (603, .bipush 101, 2), (605, .iastore, 1), (606, .dup, 1), (607, .bipush 99, 2), (609, .bipush 112, 2), (611, .iastore, 1), (612, .dup, 1), (613, .bipush 100, 2), (615, .bipush 32, 2), (617, .iastore, 1), (618, .dup, 1), (619, .bipush 101, 2), (621, .bipush 99, 2), (623, .iastore, 1), (624, .dup, 1), (625, .bipush 102, 2), (627, .bipush 111, 2), (629, .iastore, 1), (630, .dup, 1), (631, .bipush 103, 2), (633, .bipush 117, 2), (635, .iastore, 1), (636, .dup, 1), (637, .bipush 104, 2), (639, .bipush 110, 2), (641, .iastore, 1), (642, .dup, 1), (643, .bipush 105, 2), (645, .bipush 116, 2), (647, .iastore, 1), (648, .dup, 1), (649, .bipush 106, 2), (651, .bipush 32, 2), (653, .iastore, 1), (654, .putfield 13, 3), (657, .aload_n 0, 1), (658, .iconst (-1), 1), (659, .putfield 16, 3), (662, .aload_n 0, 1), (663, .bipush 6, 2), (665, .newarray .int, 2), (667, .putfield 20, 3), (670, .aload_n 0, 1), (671, .bipush 6, 2), (673, .newarray .int, 2), (675, .putfield 23, 3), (678, .aload_n 0, 1), (679, .bipush 6, 2), (681, .newarray .int, 2), (683, .putfield 26, 3), (686, .aload_n 0, 1), (687, .bipush 12, 2), (689, .newarray .int, 2), (691, .putfield 29, 3), (694, .aload_n 0, 1), (695, .bipush 12, 2), (697, .newarray .int, 2), (699, .putfield 32, 3), (702, .aload_n 0, 1), (703, .bipush 12, 2), (705, .newarray .int, 2), (707, .putfield 35, 3), (710, .aload_n 0, 1), (711, .bipush 12, 2), (713, .newarray .int, 2), (715, .putfield 38, 3), (718, .aload_n 0, 1), (719, .bipush 12, 2), (721, .newarray .int, 2), (723, .putfield 41, 3), (726, .aload_n 0, 1), (727, .bipush 12, 2), (729, .newarray .int, 2), (731, .putfield 44, 3), (734, .aload_n 0, 1), (735, .bipush 12, 2), (737, .newarray .int, 2), (739, .putfield 47, 3), (742, .aload_n 0, 1), (743, .bipush 12, 2), (745, .newarray .int, 2), (747, .putfield 50, 3), (750, .aload_n 0, 1), (751, .bipush 12, 2), (753, .newarray .int, 2), (755, .putfield 53, 3), (758, .aload_n 0, 1), (759, .bipush 8, 2), (761, .newarray .int, 2), (763, .putfield 56, 3), (766, .aload_n 0, 1), (767, .bipush 48, 2), (769, .newarray .int, 2), (771, .putfield 59, 3), (774, .aload_n 0, 1), (775, .bipush 48, 2), (777, .newarray .int, 2)]
theorem rwX12_4_ok : ∀ r ∈ rwX12_4, decode MX12_init.2.1 r.1 = .ok r.2 := by decide +kernel
def rwX12_5 : List (Nat × Instr × Nat) := [(779, .putfield 62, 3), (782, .aload_n 0, 1), (783, .iconst 4, 1), (784, .newarray .boolean, 2), (786, .putfield 65, 3), (789, .aload_n 0, 1), (790, .iconst 4, 1), (791, .newarray .int, 2), (793, .putfield 69, 3), (796, .aload_n 0, 1), (797, .iconst 4, 1), (798, .newarray .int, 2), (800, .putfield 72, 3), (803, .aload_n 0, 1), (804, .sipush 128, 3), (807, .newarray .int, 2), (809, .putfield 75, 3), (812, .aload_n 0, 1), (813, .sipush 128, 3), (816, .newarray .int, 2), (818, .putfield 78, 3), (821, .aload_n 0, 1), (822, .sipush 128, 3), (825, .newarray .int, 2), (827, .putfield 81, 3), (830, .aload_n 0, 1), (831, .bipush 96, 2), (833, .newarray .int, 2), (835, .putfield 84, 3), (838, .aload_n 0, 1), (839, .bipush 96, 2), (841, .newarray .int, 2), (843, .putfield 87, 3), (846, .aload_n 0, 1), (847, .bipush 7, 2), (849, .newarray .long, 2), (851, .putfield 90, 3), (854, .aload_n 0, 1), (855, .bipush 64, 2), (857, .newarray .long, 2), (859, .putfield 94, 3), (862, .aload_n 0, 1), (863, .bipush 12, 2), (865, .newarray .int, 2), (867, .putfield 97, 3), (870, .aload_n 0, 1), (871, .bipush 12, 2), (873, .newarray .int, 2), (875, .putfield 100, 3), (878, .aload_n 0, 1), (879, .bipush 12, 2), (881, .newarray .int, 2), (883, .putfield 103, 3), (886, .aload_n 0, 1), (887, .bipush 12, 2), (889, .newarray .int, 2), (891, .putfield 106, 3), (894, .aload_n 0, 1), (895, .bipush 12, 2), (897, .newarray .int, 2), (899, .putfield 109, 3), (902, .aload_n 0, 1), (903, .bipush 12, 2), (905, .newarray .int, 2), (907, .putfield 112, 3), (910, .aload_n 0, 1), (911, .bipush 6, 2), (913, .newarray .int, 2), (915, .putfield 115, 3), (918, .aload_n 0, 1), (919, .bipush 6, 2), (921, .newarray .int, 2), (923, .putfield 118, 3), (926, .aload_n 0, 1), (927, .bipush 6, 2), (929, .newarray .int, 2), (931, .putfield 121, 3), (934, .aload_n 0, 1), (935, .sipush 24000, 3), (938, .newarray .int, 2), (940, .putfield 124, 3), (943, .aload_n 0, 1), (944, .sipush 4000, 3), (947, .newarray .int, 2), (949, .putfield 127, 3), (952, .aload_n 0, 1), (953, .bipush 100, 2), (955, .newarray .int, 2), (957, .putfield 130, 3), (960, .aload_n 0, 1), (961, .bipush 6, 2), (963, .newarray .int, 2), (965, .putfield 133, 3), (968, .aload_n 0, 1), (969, .bipush 7, 2), (971, .newarray .int, 2), (973, .putfield 136, 3), (976, .aload_n 0, 1), (977, .bipush 6, 2), (979, .newarray .int, 2)]
theorem rwX12_5_ok : ∀ r ∈ rwX12_5, decode MX12_init.2.1 r.1 = .ok r.2 := by decide +kernel
def rwX12_6 : List (Nat × Instr × Nat) := [(981, .putfield 139, 3), (984, .aload_n 0, 1), (985, .bipush 6, 2), (987, .newarray .int, 2), (989, .putfield 142, 3), (992, .aload_n 0, 1), (993, .iconst (-1), 1), (994, .putfield 145, 3), (997, .aload_n 0, 1), (998, .bipush 120, 2), (1000, .newarray .int, 2), (1002, .putfield 148, 3), (1005, .aload_n 0, 1), (1006, .bipush 40, 2), (1008, .newarray .boolean, 2), (1010, .putfield 151, 3), (1013, .aload_n 0, 1), (1014, .sipush 2000, 3), (1017, .newarray .int, 2), (1019, .putfield 154, 3), (1022, .aload_n 0, 1), (1023, .bipush 36, 2), (1025, .newarray .int, 2), (1027, .putfield 157, 3)]
theorem rwX12_6_ok : ∀ r ∈ rwX12_6, decode MX12_init.2.1 r.1 = .ok r.2 := by decide +kernel
def rwX12 : List (Nat × Instr × Nat) := rwX12_0 ++ (rwX12_1 ++ (rwX12_2 ++ (rwX12_3 ++ (rwX12_4 ++ (rwX12_5 ++ (rwX12_6))))))
theorem rwX12_ok : ∀ r ∈ rwX12, decode MX12_init.2.1 r.1 = .ok r.2 := by
  intro r hr
  unfold rwX12 at hr
  simp only [List.mem_append] at hr
  rcases hr with h | h | h | h | h | h | h
  · exact rwX12_0_ok r h
  · exact rwX12_1_ok r h
  · exact rwX12_2_ok r h
  · exact rwX12_3_ok r h
  · exact rwX12_4_ok r h
  · exact rwX12_5_ok r h
  · exact rwX12_6_ok r h

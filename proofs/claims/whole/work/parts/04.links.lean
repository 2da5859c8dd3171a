-- tables of links: what an index of a class's pool names; each row with the word of the tables that says so
def gtbl : List Cond := lw_tbl.filter goodWord
theorem gt_of {w : Cond} (h : w ∈ lw_tbl) (hg : goodWord w = true) : w ∈ gtbl := List.mem_filter.mpr ⟨h, hg⟩
theorem tq1 {w : Cond} (i : Nat) (h : tables_1_1[i]? = some w) (hg : goodWord w = true) : w ∈ gtbl := gt_of (List.mem_append_right _ (show w ∈ tables_1 from List.mem_append_left _ (List.mem_of_getElem? h))) hg
theorem tq2 {w : Cond} (i : Nat) (h : tables_1_2[i]? = some w) (hg : goodWord w = true) : w ∈ gtbl := gt_of (List.mem_append_right _ (show w ∈ tables_1 from List.mem_append_right _ (List.mem_append_left _ (List.mem_of_getElem? h)))) hg
theorem tq3 {w : Cond} (i : Nat) (h : tables_1_3[i]? = some w) (hg : goodWord w = true) : w ∈ gtbl := gt_of (List.mem_append_right _ (show w ∈ tables_1 from List.mem_append_right _ (List.mem_append_right _ (List.mem_append_left _ (List.mem_of_getElem? h))))) hg
theorem tq4 {w : Cond} (i : Nat) (h : tables_1_4[i]? = some w) (hg : goodWord w = true) : w ∈ gtbl := gt_of (List.mem_append_right _ (show w ∈ tables_1 from List.mem_append_right _ (List.mem_append_right _ (List.mem_append_right _ (List.mem_append_left _ (List.mem_of_getElem? h)))))) hg
theorem tq5 {w : Cond} (i : Nat) (h : tables_1_5[i]? = some w) (hg : goodWord w = true) : w ∈ gtbl := gt_of (List.mem_append_right _ (show w ∈ tables_1 from List.mem_append_right _ (List.mem_append_right _ (List.mem_append_right _ (List.mem_append_right _ (List.mem_append_left _ (List.mem_of_getElem? h))))))) hg
theorem tq6 {w : Cond} (i : Nat) (h : tables_1_6[i]? = some w) (hg : goodWord w = true) : w ∈ gtbl := gt_of (List.mem_append_right _ (show w ∈ tables_1 from List.mem_append_right _ (List.mem_append_right _ (List.mem_append_right _ (List.mem_append_right _ (List.mem_append_right _ (List.mem_append_left _ (List.mem_of_getElem? h)))))))) hg
theorem tq7 {w : Cond} (i : Nat) (h : tables_1_7[i]? = some w) (hg : goodWord w = true) : w ∈ gtbl := gt_of (List.mem_append_right _ (show w ∈ tables_1 from List.mem_append_right _ (List.mem_append_right _ (List.mem_append_right _ (List.mem_append_right _ (List.mem_append_right _ (List.mem_append_right _ (List.mem_append_left _ (List.mem_of_getElem? h))))))))) hg
theorem tq8 {w : Cond} (i : Nat) (h : tables_1_8[i]? = some w) (hg : goodWord w = true) : w ∈ gtbl := gt_of (List.mem_append_right _ (show w ∈ tables_1 from List.mem_append_right _ (List.mem_append_right _ (List.mem_append_right _ (List.mem_append_right _ (List.mem_append_right _ (List.mem_append_right _ (List.mem_append_right _ (List.mem_append_left _ (List.mem_of_getElem? h)))))))))) hg
theorem tq9 {w : Cond} (i : Nat) (h : tables_1_9[i]? = some w) (hg : goodWord w = true) : w ∈ gtbl := gt_of (List.mem_append_right _ (show w ∈ tables_1 from List.mem_append_right _ (List.mem_append_right _ (List.mem_append_right _ (List.mem_append_right _ (List.mem_append_right _ (List.mem_append_right _ (List.mem_append_right _ (List.mem_append_right _ (List.mem_of_getElem? h)))))))))) hg
theorem tqp {w : Cond} (i : Nat) (h : (k2_sels lw_privs)[i]? = some w) (hg : goodWord w = true) : w ∈ gtbl := gt_of (List.mem_append_left _ (List.mem_of_getElem? h)) hg
theorem tw1 {w : Cond} (i : Nat) (h : tables_1_1[i]? = some w) : w ∈ tables_1 := List.mem_append_left _ (List.mem_of_getElem? h)
theorem tw2 {w : Cond} (i : Nat) (h : tables_1_2[i]? = some w) : w ∈ tables_1 := List.mem_append_right _ (List.mem_append_left _ (List.mem_of_getElem? h))
theorem tw3 {w : Cond} (i : Nat) (h : tables_1_3[i]? = some w) : w ∈ tables_1 := List.mem_append_right _ (List.mem_append_right _ (List.mem_append_left _ (List.mem_of_getElem? h)))
theorem tw4 {w : Cond} (i : Nat) (h : tables_1_4[i]? = some w) : w ∈ tables_1 := List.mem_append_right _ (List.mem_append_right _ (List.mem_append_right _ (List.mem_append_left _ (List.mem_of_getElem? h))))
theorem tw5 {w : Cond} (i : Nat) (h : tables_1_5[i]? = some w) : w ∈ tables_1 := List.mem_append_right _ (List.mem_append_right _ (List.mem_append_right _ (List.mem_append_right _ (List.mem_append_left _ (List.mem_of_getElem? h)))))
theorem tw6 {w : Cond} (i : Nat) (h : tables_1_6[i]? = some w) : w ∈ tables_1 := List.mem_append_right _ (List.mem_append_right _ (List.mem_append_right _ (List.mem_append_right _ (List.mem_append_right _ (List.mem_append_left _ (List.mem_of_getElem? h))))))
theorem tw7 {w : Cond} (i : Nat) (h : tables_1_7[i]? = some w) : w ∈ tables_1 := List.mem_append_right _ (List.mem_append_right _ (List.mem_append_right _ (List.mem_append_right _ (List.mem_append_right _ (List.mem_append_right _ (List.mem_append_left _ (List.mem_of_getElem? h)))))))
theorem tw8 {w : Cond} (i : Nat) (h : tables_1_8[i]? = some w) : w ∈ tables_1 := List.mem_append_right _ (List.mem_append_right _ (List.mem_append_right _ (List.mem_append_right _ (List.mem_append_right _ (List.mem_append_right _ (List.mem_append_right _ (List.mem_append_left _ (List.mem_of_getElem? h))))))))
theorem tw9 {w : Cond} (i : Nat) (h : tables_1_9[i]? = some w) : w ∈ tables_1 := List.mem_append_right _ (List.mem_append_right _ (List.mem_append_right _ (List.mem_append_right _ (List.mem_append_right _ (List.mem_append_right _ (List.mem_append_right _ (List.mem_append_right _ (List.mem_of_getElem? h))))))))
theorem lf0_0 : u_lay RX0 TX0 0 ∈ gtbl := (tq2 191 rfl rfl)
theorem lf0_1 : u_lay RX0 TX0 1 ∈ gtbl := (tq2 193 rfl rfl)
theorem iX0 : ∀ w ∈ u_ws RX0 TX0 2, w ∈ gtbl := by
  intro w hw
  obtain ⟨k, hk, rfl⟩ := List.mem_map.mp hw
  have hk := List.mem_range.mp hk
  match k, hk with
  | 0, _ => exact lf0_0
  | 1, _ => exact lf0_1
  | k + 2, hk => omega
theorem lf1_0 : u_lay RX1 TX1 0 ∈ gtbl := (tq2 210 rfl rfl)
theorem lf1_1 : u_lay RX1 TX1 1 ∈ gtbl := (tq2 212 rfl rfl)
theorem lf1_2 : u_lay RX1 TX1 2 ∈ gtbl := (tq2 214 rfl rfl)
theorem lf1_3 : u_lay RX1 TX1 3 ∈ gtbl := (tq2 216 rfl rfl)
theorem lf1_4 : u_lay RX1 TX1 4 ∈ gtbl := (tq2 218 rfl rfl)
theorem lf1_5 : u_lay RX1 TX1 5 ∈ gtbl := (tq2 220 rfl rfl)
theorem iX1 : ∀ w ∈ u_ws RX1 TX1 6, w ∈ gtbl := by
  intro w hw
  obtain ⟨k, hk, rfl⟩ := List.mem_map.mp hw
  have hk := List.mem_range.mp hk
  match k, hk with
  | 0, _ => exact lf1_0
  | 1, _ => exact lf1_1
  | 2, _ => exact lf1_2
  | 3, _ => exact lf1_3
  | 4, _ => exact lf1_4
  | 5, _ => exact lf1_5
  | k + 6, hk => omega
theorem lf2_0 : u_lay RX2 TX2 0 ∈ gtbl := (tq1 72 rfl rfl)
theorem lf2_1 : u_lay RX2 TX2 1 ∈ gtbl := (tq1 74 rfl rfl)
theorem lf2_2 : u_lay RX2 TX2 2 ∈ gtbl := (tq1 76 rfl rfl)
theorem lf2_3 : u_lay RX2 TX2 3 ∈ gtbl := (tq1 78 rfl rfl)
theorem lf2_4 : u_lay RX2 TX2 4 ∈ gtbl := (tq1 80 rfl rfl)
theorem iX2 : ∀ w ∈ u_ws RX2 TX2 5, w ∈ gtbl := by
  intro w hw
  obtain ⟨k, hk, rfl⟩ := List.mem_map.mp hw
  have hk := List.mem_range.mp hk
  match k, hk with
  | 0, _ => exact lf2_0
  | 1, _ => exact lf2_1
  | 2, _ => exact lf2_2
  | 3, _ => exact lf2_3
  | 4, _ => exact lf2_4
  | k + 5, hk => omega
theorem lf3_0 : u_lay RX3 TX3 0 ∈ gtbl := (tq3 3 rfl rfl)
theorem lf3_1 : u_lay RX3 TX3 1 ∈ gtbl := (tq3 5 rfl rfl)
theorem lf3_2 : u_lay RX3 TX3 2 ∈ gtbl := (tq3 7 rfl rfl)
theorem lf3_3 : u_lay RX3 TX3 3 ∈ gtbl := (tq3 9 rfl rfl)
theorem lf3_4 : u_lay RX3 TX3 4 ∈ gtbl := (tq3 11 rfl rfl)
theorem lf3_5 : u_lay RX3 TX3 5 ∈ gtbl := (tq3 13 rfl rfl)
theorem lf3_6 : u_lay RX3 TX3 6 ∈ gtbl := (tq3 15 rfl rfl)
theorem lf3_7 : u_lay RX3 TX3 7 ∈ gtbl := (tq3 17 rfl rfl)
theorem lf3_8 : u_lay RX3 TX3 8 ∈ gtbl := (tq3 19 rfl rfl)
theorem lf3_9 : u_lay RX3 TX3 9 ∈ gtbl := (tq3 21 rfl rfl)
theorem lf3_10 : u_lay RX3 TX3 10 ∈ gtbl := (tq3 23 rfl rfl)
theorem iX3 : ∀ w ∈ u_ws RX3 TX3 11, w ∈ gtbl := by
  intro w hw
  obtain ⟨k, hk, rfl⟩ := List.mem_map.mp hw
  have hk := List.mem_range.mp hk
  match k, hk with
  | 0, _ => exact lf3_0
  | 1, _ => exact lf3_1
  | 2, _ => exact lf3_2
  | 3, _ => exact lf3_3
  | 4, _ => exact lf3_4
  | 5, _ => exact lf3_5
  | 6, _ => exact lf3_6
  | 7, _ => exact lf3_7
  | 8, _ => exact lf3_8
  | 9, _ => exact lf3_9
  | 10, _ => exact lf3_10
  | k + 11, hk => omega
theorem lf4_0 : u_lay RX4 TX4 0 ∈ gtbl := (tq2 129 rfl rfl)
theorem lf4_1 : u_lay RX4 TX4 1 ∈ gtbl := (tq2 131 rfl rfl)
theorem lf4_2 : u_lay RX4 TX4 2 ∈ gtbl := (tq2 133 rfl rfl)
theorem lf4_3 : u_lay RX4 TX4 3 ∈ gtbl := (tq2 135 rfl rfl)
theorem lf4_4 : u_lay RX4 TX4 4 ∈ gtbl := (tq2 137 rfl rfl)
theorem lf4_5 : u_lay RX4 TX4 5 ∈ gtbl := (tq2 139 rfl rfl)
theorem lf4_6 : u_lay RX4 TX4 6 ∈ gtbl := (tq2 141 rfl rfl)
theorem lf4_7 : u_lay RX4 TX4 7 ∈ gtbl := (tq2 143 rfl rfl)
theorem lf4_8 : u_lay RX4 TX4 8 ∈ gtbl := (tq2 145 rfl rfl)
theorem lf4_9 : u_lay RX4 TX4 9 ∈ gtbl := (tq2 147 rfl rfl)
theorem lf4_10 : u_lay RX4 TX4 10 ∈ gtbl := (tq2 149 rfl rfl)
theorem lf4_11 : u_lay RX4 TX4 11 ∈ gtbl := (tq2 151 rfl rfl)
theorem lf4_12 : u_lay RX4 TX4 12 ∈ gtbl := (tq2 153 rfl rfl)
theorem lf4_13 : u_lay RX4 TX4 13 ∈ gtbl := (tq2 155 rfl rfl)
theorem lf4_14 : u_lay RX4 TX4 14 ∈ gtbl := (tq2 157 rfl rfl)
theorem lf4_15 : u_lay RX4 TX4 15 ∈ gtbl := (tq2 159 rfl rfl)
theorem lf4_16 : u_lay RX4 TX4 16 ∈ gtbl := (tq2 161 rfl rfl)
theorem lf4_17 : u_lay RX4 TX4 17 ∈ gtbl := (tq2 163 rfl rfl)
theorem lf4_18 : u_lay RX4 TX4 18 ∈ gtbl := (tq2 165 rfl rfl)
theorem iX4 : ∀ w ∈ u_ws RX4 TX4 19, w ∈ gtbl := by
  intro w hw
  obtain ⟨k, hk, rfl⟩ := List.mem_map.mp hw
  have hk := List.mem_range.mp hk
  match k, hk with
  | 0, _ => exact lf4_0
  | 1, _ => exact lf4_1
  | 2, _ => exact lf4_2
  | 3, _ => exact lf4_3
  | 4, _ => exact lf4_4
  | 5, _ => exact lf4_5
  | 6, _ => exact lf4_6
  | 7, _ => exact lf4_7
  | 8, _ => exact lf4_8
  | 9, _ => exact lf4_9
  | 10, _ => exact lf4_10
  | 11, _ => exact lf4_11
  | 12, _ => exact lf4_12
  | 13, _ => exact lf4_13
  | 14, _ => exact lf4_14
  | 15, _ => exact lf4_15
  | 16, _ => exact lf4_16
  | 17, _ => exact lf4_17
  | 18, _ => exact lf4_18
  | k + 19, hk => omega
theorem lf5_0 : u_lay RX5 TX5 0 ∈ gtbl := (tq1 52 rfl rfl)
theorem lf5_1 : u_lay RX5 TX5 1 ∈ gtbl := (tq1 54 rfl rfl)
theorem iX5 : ∀ w ∈ u_ws RX5 TX5 2, w ∈ gtbl := by
  intro w hw
  obtain ⟨k, hk, rfl⟩ := List.mem_map.mp hw
  have hk := List.mem_range.mp hk
  match k, hk with
  | 0, _ => exact lf5_0
  | 1, _ => exact lf5_1
  | k + 2, hk => omega
theorem lf6_0 : u_lay RX6 TX6 0 ∈ gtbl := (tq3 42 rfl rfl)
theorem lf6_1 : u_lay RX6 TX6 1 ∈ gtbl := (tq3 44 rfl rfl)
theorem lf6_2 : u_lay RX6 TX6 2 ∈ gtbl := (tq3 46 rfl rfl)
theorem lf6_3 : u_lay RX6 TX6 3 ∈ gtbl := (tq3 48 rfl rfl)
theorem lf6_4 : u_lay RX6 TX6 4 ∈ gtbl := (tq3 50 rfl rfl)
theorem lf6_5 : u_lay RX6 TX6 5 ∈ gtbl := (tq3 52 rfl rfl)
theorem lf6_6 : u_lay RX6 TX6 6 ∈ gtbl := (tq3 54 rfl rfl)
theorem lf6_7 : u_lay RX6 TX6 7 ∈ gtbl := (tq3 56 rfl rfl)
theorem iX6 : ∀ w ∈ u_ws RX6 TX6 8, w ∈ gtbl := by
  intro w hw
  obtain ⟨k, hk, rfl⟩ := List.mem_map.mp hw
  have hk := List.mem_range.mp hk
  match k, hk with
  | 0, _ => exact lf6_0
  | 1, _ => exact lf6_1
  | 2, _ => exact lf6_2
  | 3, _ => exact lf6_3
  | 4, _ => exact lf6_4
  | 5, _ => exact lf6_5
  | 6, _ => exact lf6_6
  | 7, _ => exact lf6_7
  | k + 8, hk => omega
theorem lf7_0 : u_lay RX7 TX7 0 ∈ gtbl := (tq2 47 rfl rfl)
theorem lf7_1 : u_lay RX7 TX7 1 ∈ gtbl := (tq2 49 rfl rfl)
theorem lf7_2 : u_lay RX7 TX7 2 ∈ gtbl := (tq2 51 rfl rfl)
theorem lf7_3 : u_lay RX7 TX7 3 ∈ gtbl := (tq2 53 rfl rfl)
theorem lf7_4 : u_lay RX7 TX7 4 ∈ gtbl := (tq2 55 rfl rfl)
theorem lf7_5 : u_lay RX7 TX7 5 ∈ gtbl := (tq2 57 rfl rfl)
theorem lf7_6 : u_lay RX7 TX7 6 ∈ gtbl := (tq2 59 rfl rfl)
theorem lf7_7 : u_lay RX7 TX7 7 ∈ gtbl := (tq2 61 rfl rfl)
theorem lf7_8 : u_lay RX7 TX7 8 ∈ gtbl := (tq2 63 rfl rfl)
theorem lf7_9 : u_lay RX7 TX7 9 ∈ gtbl := (tq2 65 rfl rfl)
theorem lf7_10 : u_lay RX7 TX7 10 ∈ gtbl := (tq2 67 rfl rfl)
theorem lf7_11 : u_lay RX7 TX7 11 ∈ gtbl := (tq2 69 rfl rfl)
theorem iX7 : ∀ w ∈ u_ws RX7 TX7 12, w ∈ gtbl := by
  intro w hw
  obtain ⟨k, hk, rfl⟩ := List.mem_map.mp hw
  have hk := List.mem_range.mp hk
  match k, hk with
  | 0, _ => exact lf7_0
  | 1, _ => exact lf7_1
  | 2, _ => exact lf7_2
  | 3, _ => exact lf7_3
  | 4, _ => exact lf7_4
  | 5, _ => exact lf7_5
  | 6, _ => exact lf7_6
  | 7, _ => exact lf7_7
  | 8, _ => exact lf7_8
  | 9, _ => exact lf7_9
  | 10, _ => exact lf7_10
  | 11, _ => exact lf7_11
  | k + 12, hk => omega
theorem lf8_0 : u_lay RX8 TX8 0 ∈ gtbl := (tq2 176 rfl rfl)
theorem lf8_1 : u_lay RX8 TX8 1 ∈ gtbl := (tq2 178 rfl rfl)
theorem iX8 : ∀ w ∈ u_ws RX8 TX8 2, w ∈ gtbl := by
  intro w hw
  obtain ⟨k, hk, rfl⟩ := List.mem_map.mp hw
  have hk := List.mem_range.mp hk
  match k, hk with
  | 0, _ => exact lf8_0
  | 1, _ => exact lf8_1
  | k + 2, hk => omega
theorem lf9_0 : u_lay RX9 TX9 0 ∈ gtbl := (tq1 145 rfl rfl)
theorem lf9_1 : u_lay RX9 TX9 1 ∈ gtbl := (tq1 147 rfl rfl)
theorem lf9_2 : u_lay RX9 TX9 2 ∈ gtbl := (tq1 149 rfl rfl)
theorem lf9_3 : u_lay RX9 TX9 3 ∈ gtbl := (tq1 151 rfl rfl)
theorem lf9_4 : u_lay RX9 TX9 4 ∈ gtbl := (tq1 153 rfl rfl)
theorem lf9_5 : u_lay RX9 TX9 5 ∈ gtbl := (tq1 155 rfl rfl)
theorem lf9_6 : u_lay RX9 TX9 6 ∈ gtbl := (tq1 157 rfl rfl)
theorem lf9_7 : u_lay RX9 TX9 7 ∈ gtbl := (tq1 159 rfl rfl)
theorem lf9_8 : u_lay RX9 TX9 8 ∈ gtbl := (tq1 161 rfl rfl)
theorem lf9_9 : u_lay RX9 TX9 9 ∈ gtbl := (tq1 163 rfl rfl)
theorem lf9_10 : u_lay RX9 TX9 10 ∈ gtbl := (tq1 165 rfl rfl)
theorem lf9_11 : u_lay RX9 TX9 11 ∈ gtbl := (tq1 167 rfl rfl)
theorem lf9_12 : u_lay RX9 TX9 12 ∈ gtbl := (tq1 169 rfl rfl)
theorem lf9_13 : u_lay RX9 TX9 13 ∈ gtbl := (tq1 171 rfl rfl)
theorem lf9_14 : u_lay RX9 TX9 14 ∈ gtbl := (tq1 173 rfl rfl)
theorem lf9_15 : u_lay RX9 TX9 15 ∈ gtbl := (tq1 175 rfl rfl)
theorem lf9_16 : u_lay RX9 TX9 16 ∈ gtbl := (tq1 177 rfl rfl)
theorem lf9_17 : u_lay RX9 TX9 17 ∈ gtbl := (tq1 179 rfl rfl)
theorem iX9 : ∀ w ∈ u_ws RX9 TX9 18, w ∈ gtbl := by
  intro w hw
  obtain ⟨k, hk, rfl⟩ := List.mem_map.mp hw
  have hk := List.mem_range.mp hk
  match k, hk with
  | 0, _ => exact lf9_0
  | 1, _ => exact lf9_1
  | 2, _ => exact lf9_2
  | 3, _ => exact lf9_3
  | 4, _ => exact lf9_4
  | 5, _ => exact lf9_5
  | 6, _ => exact lf9_6
  | 7, _ => exact lf9_7
  | 8, _ => exact lf9_8
  | 9, _ => exact lf9_9
  | 10, _ => exact lf9_10
  | 11, _ => exact lf9_11
  | 12, _ => exact lf9_12
  | 13, _ => exact lf9_13
  | 14, _ => exact lf9_14
  | 15, _ => exact lf9_15
  | 16, _ => exact lf9_16
  | 17, _ => exact lf9_17
  | k + 18, hk => omega
theorem lf10_0 : u_lay RX10 TX10 0 ∈ gtbl := (tq2 11 rfl rfl)
theorem lf10_1 : u_lay RX10 TX10 1 ∈ gtbl := (tq2 13 rfl rfl)
theorem lf10_2 : u_lay RX10 TX10 2 ∈ gtbl := (tq2 15 rfl rfl)
theorem lf10_3 : u_lay RX10 TX10 3 ∈ gtbl := (tq2 17 rfl rfl)
theorem lf10_4 : u_lay RX10 TX10 4 ∈ gtbl := (tq2 19 rfl rfl)
theorem lf10_5 : u_lay RX10 TX10 5 ∈ gtbl := (tq2 21 rfl rfl)
theorem lf10_6 : u_lay RX10 TX10 6 ∈ gtbl := (tq2 23 rfl rfl)
theorem lf10_7 : u_lay RX10 TX10 7 ∈ gtbl := (tq2 25 rfl rfl)
theorem iX10 : ∀ w ∈ u_ws RX10 TX10 8, w ∈ gtbl := by
  intro w hw
  obtain ⟨k, hk, rfl⟩ := List.mem_map.mp hw
  have hk := List.mem_range.mp hk
  match k, hk with
  | 0, _ => exact lf10_0
  | 1, _ => exact lf10_1
  | 2, _ => exact lf10_2
  | 3, _ => exact lf10_3
  | 4, _ => exact lf10_4
  | 5, _ => exact lf10_5
  | 6, _ => exact lf10_6
  | 7, _ => exact lf10_7
  | k + 8, hk => omega
theorem lf11_0 : u_lay RX11 TX11 0 ∈ gtbl := (tq3 76 rfl rfl)
theorem lf11_1 : u_lay RX11 TX11 1 ∈ gtbl := (tq3 78 rfl rfl)
theorem lf11_2 : u_lay RX11 TX11 2 ∈ gtbl := (tq3 80 rfl rfl)
theorem lf11_3 : u_lay RX11 TX11 3 ∈ gtbl := (tq3 82 rfl rfl)
theorem lf11_4 : u_lay RX11 TX11 4 ∈ gtbl := (tq3 84 rfl rfl)
theorem lf11_5 : u_lay RX11 TX11 5 ∈ gtbl := (tq3 86 rfl rfl)
theorem lf11_6 : u_lay RX11 TX11 6 ∈ gtbl := (tq3 88 rfl rfl)
theorem lf11_7 : u_lay RX11 TX11 7 ∈ gtbl := (tq3 90 rfl rfl)
theorem lf11_8 : u_lay RX11 TX11 8 ∈ gtbl := (tq3 92 rfl rfl)
theorem lf11_9 : u_lay RX11 TX11 9 ∈ gtbl := (tq3 94 rfl rfl)
theorem lf11_10 : u_lay RX11 TX11 10 ∈ gtbl := (tq3 96 rfl rfl)
theorem lf11_11 : u_lay RX11 TX11 11 ∈ gtbl := (tq3 98 rfl rfl)
theorem lf11_12 : u_lay RX11 TX11 12 ∈ gtbl := (tq3 100 rfl rfl)
theorem lf11_13 : u_lay RX11 TX11 13 ∈ gtbl := (tq3 102 rfl rfl)
theorem lf11_14 : u_lay RX11 TX11 14 ∈ gtbl := (tq3 104 rfl rfl)
theorem lf11_15 : u_lay RX11 TX11 15 ∈ gtbl := (tq3 106 rfl rfl)
theorem lf11_16 : u_lay RX11 TX11 16 ∈ gtbl := (tq3 108 rfl rfl)
theorem iX11 : ∀ w ∈ u_ws RX11 TX11 17, w ∈ gtbl := by
  intro w hw
  obtain ⟨k, hk, rfl⟩ := List.mem_map.mp hw
  have hk := List.mem_range.mp hk
  match k, hk with
  | 0, _ => exact lf11_0
  | 1, _ => exact lf11_1
  | 2, _ => exact lf11_2
  | 3, _ => exact lf11_3
  | 4, _ => exact lf11_4
  | 5, _ => exact lf11_5
  | 6, _ => exact lf11_6
  | 7, _ => exact lf11_7
  | 8, _ => exact lf11_8
  | 9, _ => exact lf11_9
  | 10, _ => exact lf11_10
  | 11, _ => exact lf11_11
  | 12, _ => exact lf11_12
  | 13, _ => exact lf11_13
  | 14, _ => exact lf11_14
  | 15, _ => exact lf11_15
  | 16, _ => exact lf11_16
  | k + 17, hk => omega
theorem lf12_0 : u_lay RX12 TX12 0 ∈ gtbl := (tq6 155 rfl rfl)
theorem lf12_1 : u_lay RX12 TX12 1 ∈ gtbl := (tq6 157 rfl rfl)
theorem lf12_2 : u_lay RX12 TX12 2 ∈ gtbl := (tq6 159 rfl rfl)
theorem lf12_3 : u_lay RX12 TX12 3 ∈ gtbl := (tq6 161 rfl rfl)
theorem lf12_4 : u_lay RX12 TX12 4 ∈ gtbl := (tq6 163 rfl rfl)
theorem lf12_5 : u_lay RX12 TX12 5 ∈ gtbl := (tq6 165 rfl rfl)
theorem lf12_6 : u_lay RX12 TX12 6 ∈ gtbl := (tq6 167 rfl rfl)
theorem lf12_7 : u_lay RX12 TX12 7 ∈ gtbl := (tq6 169 rfl rfl)
theorem lf12_8 : u_lay RX12 TX12 8 ∈ gtbl := (tq6 171 rfl rfl)
theorem lf12_9 : u_lay RX12 TX12 9 ∈ gtbl := (tq6 173 rfl rfl)
theorem lf12_10 : u_lay RX12 TX12 10 ∈ gtbl := (tq6 175 rfl rfl)
theorem lf12_11 : u_lay RX12 TX12 11 ∈ gtbl := (tq6 177 rfl rfl)
theorem lf12_12 : u_lay RX12 TX12 12 ∈ gtbl := (tq6 179 rfl rfl)
theorem lf12_13 : u_lay RX12 TX12 13 ∈ gtbl := (tq6 181 rfl rfl)
theorem lf12_14 : u_lay RX12 TX12 14 ∈ gtbl := (tq6 183 rfl rfl)
theorem lf12_15 : u_lay RX12 TX12 15 ∈ gtbl := (tq6 185 rfl rfl)
theorem lf12_16 : u_lay RX12 TX12 16 ∈ gtbl := (tq6 187 rfl rfl)
theorem lf12_17 : u_lay RX12 TX12 17 ∈ gtbl := (tq6 189 rfl rfl)
theorem lf12_18 : u_lay RX12 TX12 18 ∈ gtbl := (tq6 191 rfl rfl)
theorem lf12_19 : u_lay RX12 TX12 19 ∈ gtbl := (tq6 193 rfl rfl)
theorem lf12_20 : u_lay RX12 TX12 20 ∈ gtbl := (tq6 195 rfl rfl)
theorem lf12_21 : u_lay RX12 TX12 21 ∈ gtbl := (tq6 197 rfl rfl)
theorem lf12_22 : u_lay RX12 TX12 22 ∈ gtbl := (tq6 199 rfl rfl)
theorem lf12_23 : u_lay RX12 TX12 23 ∈ gtbl := (tq6 201 rfl rfl)
theorem lf12_24 : u_lay RX12 TX12 24 ∈ gtbl := (tq6 203 rfl rfl)
theorem lf12_25 : u_lay RX12 TX12 25 ∈ gtbl := (tq6 205 rfl rfl)
theorem lf12_26 : u_lay RX12 TX12 26 ∈ gtbl := (tq6 207 rfl rfl)
theorem lf12_27 : u_lay RX12 TX12 27 ∈ gtbl := (tq6 209 rfl rfl)
theorem lf12_28 : u_lay RX12 TX12 28 ∈ gtbl := (tq6 211 rfl rfl)
theorem lf12_29 : u_lay RX12 TX12 29 ∈ gtbl := (tq6 213 rfl rfl)
theorem lf12_30 : u_lay RX12 TX12 30 ∈ gtbl := (tq6 215 rfl rfl)
theorem lf12_31 : u_lay RX12 TX12 31 ∈ gtbl := (tq6 217 rfl rfl)
theorem lf12_32 : u_lay RX12 TX12 32 ∈ gtbl := (tq6 219 rfl rfl)
theorem lf12_33 : u_lay RX12 TX12 33 ∈ gtbl := (tq6 221 rfl rfl)
theorem lf12_34 : u_lay RX12 TX12 34 ∈ gtbl := (tq6 223 rfl rfl)
theorem lf12_35 : u_lay RX12 TX12 35 ∈ gtbl := (tq6 225 rfl rfl)
theorem lf12_36 : u_lay RX12 TX12 36 ∈ gtbl := (tq6 227 rfl rfl)
theorem lf12_37 : u_lay RX12 TX12 37 ∈ gtbl := (tq6 229 rfl rfl)
theorem lf12_38 : u_lay RX12 TX12 38 ∈ gtbl := (tq6 231 rfl rfl)
theorem lf12_39 : u_lay RX12 TX12 39 ∈ gtbl := (tq6 233 rfl rfl)
theorem lf12_40 : u_lay RX12 TX12 40 ∈ gtbl := (tq6 235 rfl rfl)
theorem lf12_41 : u_lay RX12 TX12 41 ∈ gtbl := (tq6 237 rfl rfl)
theorem lf12_42 : u_lay RX12 TX12 42 ∈ gtbl := (tq6 239 rfl rfl)
theorem lf12_43 : u_lay RX12 TX12 43 ∈ gtbl := (tq7 1 rfl rfl)
theorem lf12_44 : u_lay RX12 TX12 44 ∈ gtbl := (tq7 3 rfl rfl)
theorem lf12_45 : u_lay RX12 TX12 45 ∈ gtbl := (tq7 5 rfl rfl)
theorem lf12_46 : u_lay RX12 TX12 46 ∈ gtbl := (tq7 7 rfl rfl)
theorem lf12_47 : u_lay RX12 TX12 47 ∈ gtbl := (tq7 9 rfl rfl)
theorem lf12_48 : u_lay RX12 TX12 48 ∈ gtbl := (tq7 11 rfl rfl)
theorem lf12_49 : u_lay RX12 TX12 49 ∈ gtbl := (tq7 13 rfl rfl)
theorem lf12_50 : u_lay RX12 TX12 50 ∈ gtbl := (tq7 15 rfl rfl)
theorem lf12_51 : u_lay RX12 TX12 51 ∈ gtbl := (tq7 17 rfl rfl)
theorem lf12_52 : u_lay RX12 TX12 52 ∈ gtbl := (tq7 19 rfl rfl)
theorem lf12_53 : u_lay RX12 TX12 53 ∈ gtbl := (tq7 21 rfl rfl)
theorem lf12_54 : u_lay RX12 TX12 54 ∈ gtbl := (tq7 23 rfl rfl)
theorem lf12_55 : u_lay RX12 TX12 55 ∈ gtbl := (tq7 25 rfl rfl)
theorem lf12_56 : u_lay RX12 TX12 56 ∈ gtbl := (tq7 27 rfl rfl)
theorem lf12_57 : u_lay RX12 TX12 57 ∈ gtbl := (tq7 29 rfl rfl)
theorem lf12_58 : u_lay RX12 TX12 58 ∈ gtbl := (tq7 31 rfl rfl)
theorem lf12_59 : u_lay RX12 TX12 59 ∈ gtbl := (tq7 33 rfl rfl)
theorem lf12_60 : u_lay RX12 TX12 60 ∈ gtbl := (tq7 35 rfl rfl)
theorem lf12_61 : u_lay RX12 TX12 61 ∈ gtbl := (tq7 37 rfl rfl)
theorem lf12_62 : u_lay RX12 TX12 62 ∈ gtbl := (tq7 39 rfl rfl)
theorem lf12_63 : u_lay RX12 TX12 63 ∈ gtbl := (tq7 41 rfl rfl)
theorem lf12_64 : u_lay RX12 TX12 64 ∈ gtbl := (tq7 43 rfl rfl)
theorem lf12_65 : u_lay RX12 TX12 65 ∈ gtbl := (tq7 45 rfl rfl)
theorem lf12_66 : u_lay RX12 TX12 66 ∈ gtbl := (tq7 47 rfl rfl)
theorem lf12_67 : u_lay RX12 TX12 67 ∈ gtbl := (tq7 49 rfl rfl)
theorem lf12_68 : u_lay RX12 TX12 68 ∈ gtbl := (tq7 51 rfl rfl)
theorem lf12_69 : u_lay RX12 TX12 69 ∈ gtbl := (tq7 53 rfl rfl)
theorem lf12_70 : u_lay RX12 TX12 70 ∈ gtbl := (tq7 55 rfl rfl)
theorem lf12_71 : u_lay RX12 TX12 71 ∈ gtbl := (tq7 57 rfl rfl)
theorem lf12_72 : u_lay RX12 TX12 72 ∈ gtbl := (tq7 59 rfl rfl)
theorem lf12_73 : u_lay RX12 TX12 73 ∈ gtbl := (tq7 61 rfl rfl)
theorem lf12_74 : u_lay RX12 TX12 74 ∈ gtbl := (tq7 63 rfl rfl)
theorem lf12_75 : u_lay RX12 TX12 75 ∈ gtbl := (tq7 65 rfl rfl)
theorem lf12_76 : u_lay RX12 TX12 76 ∈ gtbl := (tq7 67 rfl rfl)
theorem lf12_77 : u_lay RX12 TX12 77 ∈ gtbl := (tq7 69 rfl rfl)
theorem lf12_78 : u_lay RX12 TX12 78 ∈ gtbl := (tq7 71 rfl rfl)
theorem lf12_79 : u_lay RX12 TX12 79 ∈ gtbl := (tq7 73 rfl rfl)
theorem lf12_80 : u_lay RX12 TX12 80 ∈ gtbl := (tq7 75 rfl rfl)
theorem lf12_81 : u_lay RX12 TX12 81 ∈ gtbl := (tq7 77 rfl rfl)
theorem lf12_82 : u_lay RX12 TX12 82 ∈ gtbl := (tq7 79 rfl rfl)
theorem lf12_83 : u_lay RX12 TX12 83 ∈ gtbl := (tq7 81 rfl rfl)
theorem lf12_84 : u_lay RX12 TX12 84 ∈ gtbl := (tq7 83 rfl rfl)
theorem lf12_85 : u_lay RX12 TX12 85 ∈ gtbl := (tq7 85 rfl rfl)
theorem lf12_86 : u_lay RX12 TX12 86 ∈ gtbl := (tq7 87 rfl rfl)
theorem iX12 : ∀ w ∈ u_ws RX12 TX12 87, w ∈ gtbl := by
  intro w hw
  obtain ⟨k, hk, rfl⟩ := List.mem_map.mp hw
  have hk := List.mem_range.mp hk
  match k, hk with
  | 0, _ => exact lf12_0
  | 1, _ => exact lf12_1
  | 2, _ => exact lf12_2
  | 3, _ => exact lf12_3
  | 4, _ => exact lf12_4
  | 5, _ => exact lf12_5
  | 6, _ => exact lf12_6
  | 7, _ => exact lf12_7
  | 8, _ => exact lf12_8
  | 9, _ => exact lf12_9
  | 10, _ => exact lf12_10
  | 11, _ => exact lf12_11
  | 12, _ => exact lf12_12
  | 13, _ => exact lf12_13
  | 14, _ => exact lf12_14
  | 15, _ => exact lf12_15
  | 16, _ => exact lf12_16
  | 17, _ => exact lf12_17
  | 18, _ => exact lf12_18
  | 19, _ => exact lf12_19
  | 20, _ => exact lf12_20
  | 21, _ => exact lf12_21
  | 22, _ => exact lf12_22
  | 23, _ => exact lf12_23
  | 24, _ => exact lf12_24
  | 25, _ => exact lf12_25
  | 26, _ => exact lf12_26
  | 27, _ => exact lf12_27
  | 28, _ => exact lf12_28
  | 29, _ => exact lf12_29
  | 30, _ => exact lf12_30
  | 31, _ => exact lf12_31
  | 32, _ => exact lf12_32
  | 33, _ => exact lf12_33
  | 34, _ => exact lf12_34
  | 35, _ => exact lf12_35
  | 36, _ => exact lf12_36
  | 37, _ => exact lf12_37
  | 38, _ => exact lf12_38
  | 39, _ => exact lf12_39
  | 40, _ => exact lf12_40
  | 41, _ => exact lf12_41
  | 42, _ => exact lf12_42
  | 43, _ => exact lf12_43
  | 44, _ => exact lf12_44
  | 45, _ => exact lf12_45
  | 46, _ => exact lf12_46
  | 47, _ => exact lf12_47
  | 48, _ => exact lf12_48
  | 49, _ => exact lf12_49
  | 50, _ => exact lf12_50
  | 51, _ => exact lf12_51
  | 52, _ => exact lf12_52
  | 53, _ => exact lf12_53
  | 54, _ => exact lf12_54
  | 55, _ => exact lf12_55
  | 56, _ => exact lf12_56
  | 57, _ => exact lf12_57
  | 58, _ => exact lf12_58
  | 59, _ => exact lf12_59
  | 60, _ => exact lf12_60
  | 61, _ => exact lf12_61
  | 62, _ => exact lf12_62
  | 63, _ => exact lf12_63
  | 64, _ => exact lf12_64
  | 65, _ => exact lf12_65
  | 66, _ => exact lf12_66
  | 67, _ => exact lf12_67
  | 68, _ => exact lf12_68
  | 69, _ => exact lf12_69
  | 70, _ => exact lf12_70
  | 71, _ => exact lf12_71
  | 72, _ => exact lf12_72
  | 73, _ => exact lf12_73
  | 74, _ => exact lf12_74
  | 75, _ => exact lf12_75
  | 76, _ => exact lf12_76
  | 77, _ => exact lf12_77
  | 78, _ => exact lf12_78
  | 79, _ => exact lf12_79
  | 80, _ => exact lf12_80
  | 81, _ => exact lf12_81
  | 82, _ => exact lf12_82
  | 83, _ => exact lf12_83
  | 84, _ => exact lf12_84
  | 85, _ => exact lf12_85
  | 86, _ => exact lf12_86
  | k + 87, hk => omega
-- the nest words: they are handed from method to method
def nwF : List (Nat × Nat × Nat × Nat) := [(9, 76, 5, 1), (4, 65, 5, 1), (7, 84, 5, 1), (3, 95, 5, 1), (11, 242, 5, 1), (7, 156, 2, 0), (11, 351, 2, 1), (7, 80, 9, 0), (11, 141, 9, 0), (3, 89, 9, 0), (7, 97, 9, 1), (4, 111, 9, 1), (4, 84, 9, 2), (7, 103, 9, 2), (4, 60, 9, 3), (7, 106, 9, 3), (11, 151, 9, 3), (11, 115, 9, 4), (7, 112, 9, 4), (11, 118, 9, 5), (7, 115, 9, 5), (4, 89, 9, 6), (7, 121, 9, 6), (4, 90, 9, 7), (7, 124, 9, 7), (11, 283, 9, 7), (4, 92, 9, 8), (7, 134, 9, 8), (7, 137, 9, 9), (4, 141, 9, 9), (4, 93, 9, 10), (7, 140, 9, 10), (4, 91, 9, 11), (7, 143, 9, 11), (4, 73, 9, 12), (7, 146, 9, 12), (11, 154, 9, 13), (7, 165, 9, 13), (7, 178, 9, 14), (7, 181, 9, 15), (7, 149, 9, 16), (4, 131, 9, 16), (11, 347, 9, 16), (7, 153, 9, 17), (4, 148, 9, 17), (11, 356, 9, 17), (7, 51, 10, 4), (7, 77, 10, 5), (7, 187, 10, 6), (7, 171, 10, 7), (11, 135, 7, 2), (11, 138, 7, 3), (11, 132, 7, 4), (6, 52, 4, 0), (3, 69, 4, 0), (8, 28, 4, 1), (6, 39, 4, 1), (3, 64, 4, 1), (8, 19, 4, 2), (11, 207, 4, 2), (11, 372, 4, 3), (11, 375, 4, 4), (11, 378, 4, 5), (0, 25, 4, 6), (6, 56, 4, 6), (3, 73, 4, 6), (11, 168, 4, 6), (0, 30, 4, 7), (6, 59, 4, 7), (3, 74, 4, 7), (11, 169, 4, 7), (11, 170, 4, 8), (11, 173, 4, 9), (6, 66, 4, 10), (11, 369, 4, 10), (8, 31, 4, 11), (11, 176, 4, 11), (0, 33, 4, 12), (11, 179, 4, 12), (3, 86, 4, 13), (11, 182, 4, 13), (0, 36, 4, 14), (11, 185, 4, 14), (8, 25, 4, 18), (11, 317, 4, 18), (11, 260, 0, 1), (11, 303, 1, 4), (11, 304, 1, 5), (11, 279, 3, 5), (11, 276, 3, 6), (11, 294, 6, 2), (11, 291, 6, 3)]
def nwM : List (Nat × Nat × MethodName) := [(9, 65, yX2_init), (11, 62, yX8_init), (11, 69, yX0_init), (11, 76, yX1_init), (7, 189, yX11_isTaken), (4, 114, yX11_distance), (4, 144, yX11_between), (4, 155, yX11_apartOf), (3, 114, yX11_distance)]
def nwFw (x : Nat × Nat × Nat × Nat) : Cond := .fieldLinkNest (cnm x.1) x.2.1 (TT x.2.2.1 x.2.2.2).1 (TT x.2.2.1 x.2.2.2).2.1 (TT x.2.2.1 x.2.2.2).2.2.1 "BeamClocks"
def nwMw (x : Nat × Nat × MethodName) : Cond := .methodLinkNest (cnm x.1) x.2.1 x.2.2 "BeamClocks"
theorem nf0 : nwFw (9, 76, 5, 1) ∈ tables_1 := tw1 47 rfl
theorem nf1 : nwFw (4, 65, 5, 1) ∈ tables_1 := tw1 48 rfl
theorem nf2 : nwFw (7, 84, 5, 1) ∈ tables_1 := tw1 49 rfl
theorem nf3 : nwFw (3, 95, 5, 1) ∈ tables_1 := tw1 50 rfl
theorem nf4 : nwFw (11, 242, 5, 1) ∈ tables_1 := tw1 51 rfl
theorem nf5 : nwFw (7, 156, 2, 0) ∈ tables_1 := tw1 66 rfl
theorem nf6 : nwFw (11, 351, 2, 1) ∈ tables_1 := tw1 68 rfl
theorem nf7 : nwFw (7, 80, 9, 0) ∈ tables_1 := tw1 89 rfl
theorem nf8 : nwFw (11, 141, 9, 0) ∈ tables_1 := tw1 90 rfl
theorem nf9 : nwFw (3, 89, 9, 0) ∈ tables_1 := tw1 91 rfl
theorem nf10 : nwFw (7, 97, 9, 1) ∈ tables_1 := tw1 93 rfl
theorem nf11 : nwFw (4, 111, 9, 1) ∈ tables_1 := tw1 94 rfl
theorem nf12 : nwFw (4, 84, 9, 2) ∈ tables_1 := tw1 96 rfl
theorem nf13 : nwFw (7, 103, 9, 2) ∈ tables_1 := tw1 97 rfl
theorem nf14 : nwFw (4, 60, 9, 3) ∈ tables_1 := tw1 99 rfl
theorem nf15 : nwFw (7, 106, 9, 3) ∈ tables_1 := tw1 100 rfl
theorem nf16 : nwFw (11, 151, 9, 3) ∈ tables_1 := tw1 101 rfl
theorem nf17 : nwFw (11, 115, 9, 4) ∈ tables_1 := tw1 103 rfl
theorem nf18 : nwFw (7, 112, 9, 4) ∈ tables_1 := tw1 104 rfl
theorem nf19 : nwFw (11, 118, 9, 5) ∈ tables_1 := tw1 106 rfl
theorem nf20 : nwFw (7, 115, 9, 5) ∈ tables_1 := tw1 107 rfl
theorem nf21 : nwFw (4, 89, 9, 6) ∈ tables_1 := tw1 109 rfl
theorem nf22 : nwFw (7, 121, 9, 6) ∈ tables_1 := tw1 110 rfl
theorem nf23 : nwFw (4, 90, 9, 7) ∈ tables_1 := tw1 112 rfl
theorem nf24 : nwFw (7, 124, 9, 7) ∈ tables_1 := tw1 113 rfl
theorem nf25 : nwFw (11, 283, 9, 7) ∈ tables_1 := tw1 114 rfl
theorem nf26 : nwFw (4, 92, 9, 8) ∈ tables_1 := tw1 116 rfl
theorem nf27 : nwFw (7, 134, 9, 8) ∈ tables_1 := tw1 117 rfl
theorem nf28 : nwFw (7, 137, 9, 9) ∈ tables_1 := tw1 119 rfl
theorem nf29 : nwFw (4, 141, 9, 9) ∈ tables_1 := tw1 120 rfl
theorem nf30 : nwFw (4, 93, 9, 10) ∈ tables_1 := tw1 122 rfl
theorem nf31 : nwFw (7, 140, 9, 10) ∈ tables_1 := tw1 123 rfl
theorem nf32 : nwFw (4, 91, 9, 11) ∈ tables_1 := tw1 125 rfl
theorem nf33 : nwFw (7, 143, 9, 11) ∈ tables_1 := tw1 126 rfl
theorem nf34 : nwFw (4, 73, 9, 12) ∈ tables_1 := tw1 127 rfl
theorem nf35 : nwFw (7, 146, 9, 12) ∈ tables_1 := tw1 129 rfl
theorem nf36 : nwFw (11, 154, 9, 13) ∈ tables_1 := tw1 131 rfl
theorem nf37 : nwFw (7, 165, 9, 13) ∈ tables_1 := tw1 132 rfl
theorem nf38 : nwFw (7, 178, 9, 14) ∈ tables_1 := tw1 134 rfl
theorem nf39 : nwFw (7, 181, 9, 15) ∈ tables_1 := tw1 136 rfl
theorem nf40 : nwFw (7, 149, 9, 16) ∈ tables_1 := tw1 138 rfl
theorem nf41 : nwFw (4, 131, 9, 16) ∈ tables_1 := tw1 139 rfl
theorem nf42 : nwFw (11, 347, 9, 16) ∈ tables_1 := tw1 140 rfl
theorem nf43 : nwFw (7, 153, 9, 17) ∈ tables_1 := tw1 142 rfl
theorem nf44 : nwFw (4, 148, 9, 17) ∈ tables_1 := tw1 143 rfl
theorem nf45 : nwFw (11, 356, 9, 17) ∈ tables_1 := tw1 144 rfl
theorem nf46 : nwFw (7, 51, 10, 4) ∈ tables_1 := tw2 3 rfl
theorem nf47 : nwFw (7, 77, 10, 5) ∈ tables_1 := tw2 5 rfl
theorem nf48 : nwFw (7, 187, 10, 6) ∈ tables_1 := tw2 8 rfl
theorem nf49 : nwFw (7, 171, 10, 7) ∈ tables_1 := tw2 10 rfl
theorem nf50 : nwFw (11, 135, 7, 2) ∈ tables_1 := tw2 35 rfl
theorem nf51 : nwFw (11, 138, 7, 3) ∈ tables_1 := tw2 37 rfl
theorem nf52 : nwFw (11, 132, 7, 4) ∈ tables_1 := tw2 39 rfl
theorem nf53 : nwFw (6, 52, 4, 0) ∈ tables_1 := tw2 79 rfl
theorem nf54 : nwFw (3, 69, 4, 0) ∈ tables_1 := tw2 80 rfl
theorem nf55 : nwFw (8, 28, 4, 1) ∈ tables_1 := tw2 82 rfl
theorem nf56 : nwFw (6, 39, 4, 1) ∈ tables_1 := tw2 83 rfl
theorem nf57 : nwFw (3, 64, 4, 1) ∈ tables_1 := tw2 84 rfl
theorem nf58 : nwFw (8, 19, 4, 2) ∈ tables_1 := tw2 85 rfl
theorem nf59 : nwFw (11, 207, 4, 2) ∈ tables_1 := tw2 87 rfl
theorem nf60 : nwFw (11, 372, 4, 3) ∈ tables_1 := tw2 89 rfl
theorem nf61 : nwFw (11, 375, 4, 4) ∈ tables_1 := tw2 91 rfl
theorem nf62 : nwFw (11, 378, 4, 5) ∈ tables_1 := tw2 93 rfl
theorem nf63 : nwFw (0, 25, 4, 6) ∈ tables_1 := tw2 95 rfl
theorem nf64 : nwFw (6, 56, 4, 6) ∈ tables_1 := tw2 96 rfl
theorem nf65 : nwFw (3, 73, 4, 6) ∈ tables_1 := tw2 97 rfl
theorem nf66 : nwFw (11, 168, 4, 6) ∈ tables_1 := tw2 98 rfl
theorem nf67 : nwFw (0, 30, 4, 7) ∈ tables_1 := tw2 100 rfl
theorem nf68 : nwFw (6, 59, 4, 7) ∈ tables_1 := tw2 101 rfl
theorem nf69 : nwFw (3, 74, 4, 7) ∈ tables_1 := tw2 102 rfl
theorem nf70 : nwFw (11, 169, 4, 7) ∈ tables_1 := tw2 103 rfl
theorem nf71 : nwFw (11, 170, 4, 8) ∈ tables_1 := tw2 105 rfl
theorem nf72 : nwFw (11, 173, 4, 9) ∈ tables_1 := tw2 107 rfl
theorem nf73 : nwFw (6, 66, 4, 10) ∈ tables_1 := tw2 109 rfl
theorem nf74 : nwFw (11, 369, 4, 10) ∈ tables_1 := tw2 110 rfl
theorem nf75 : nwFw (8, 31, 4, 11) ∈ tables_1 := tw2 112 rfl
theorem nf76 : nwFw (11, 176, 4, 11) ∈ tables_1 := tw2 113 rfl
theorem nf77 : nwFw (0, 33, 4, 12) ∈ tables_1 := tw2 115 rfl
theorem nf78 : nwFw (11, 179, 4, 12) ∈ tables_1 := tw2 116 rfl
theorem nf79 : nwFw (3, 86, 4, 13) ∈ tables_1 := tw2 118 rfl
theorem nf80 : nwFw (11, 182, 4, 13) ∈ tables_1 := tw2 119 rfl
theorem nf81 : nwFw (0, 36, 4, 14) ∈ tables_1 := tw2 121 rfl
theorem nf82 : nwFw (11, 185, 4, 14) ∈ tables_1 := tw2 122 rfl
theorem nf83 : nwFw (8, 25, 4, 18) ∈ tables_1 := tw2 126 rfl
theorem nf84 : nwFw (11, 317, 4, 18) ∈ tables_1 := tw2 128 rfl
theorem nf85 : nwFw (11, 260, 0, 1) ∈ tables_1 := tw2 190 rfl
theorem nf86 : nwFw (11, 303, 1, 4) ∈ tables_1 := tw2 207 rfl
theorem nf87 : nwFw (11, 304, 1, 5) ∈ tables_1 := tw2 209 rfl
theorem nf88 : nwFw (11, 279, 3, 5) ∈ tables_1 := tw2 236 rfl
theorem nf89 : nwFw (11, 276, 3, 6) ∈ tables_1 := tw2 238 rfl
theorem nf90 : nwFw (11, 294, 6, 2) ∈ tables_1 := tw3 35 rfl
theorem nf91 : nwFw (11, 291, 6, 3) ∈ tables_1 := tw3 37 rfl
theorem nm0 : nwMw (9, 65, yX2_init) ∈ tables_1 := tw1 61 rfl
theorem nm1 : nwMw (11, 62, yX8_init) ∈ tables_1 := tw2 170 rfl
theorem nm2 : nwMw (11, 69, yX0_init) ∈ tables_1 := tw2 184 rfl
theorem nm3 : nwMw (11, 76, yX1_init) ∈ tables_1 := tw2 198 rfl
theorem nm4 : nwMw (7, 189, yX11_isTaken) ∈ tables_1 := tw3 193 rfl
theorem nm5 : nwMw (4, 114, yX11_distance) ∈ tables_1 := tw4 41 rfl
theorem nm6 : nwMw (4, 144, yX11_between) ∈ tables_1 := tw4 124 rfl
theorem nm7 : nwMw (4, 155, yX11_apartOf) ∈ tables_1 := tw4 175 rfl
theorem nm8 : nwMw (3, 114, yX11_distance) ∈ tables_1 := tw5 37 rfl
set_option maxRecDepth 4000 in
theorem nwF_ok : ∀ x ∈ nwF, nwFw x ∈ tables_1 := List.forall_mem_cons.mpr ⟨nf0, List.forall_mem_cons.mpr ⟨nf1, List.forall_mem_cons.mpr ⟨nf2, List.forall_mem_cons.mpr ⟨nf3, List.forall_mem_cons.mpr ⟨nf4, List.forall_mem_cons.mpr ⟨nf5, List.forall_mem_cons.mpr ⟨nf6, List.forall_mem_cons.mpr ⟨nf7, List.forall_mem_cons.mpr ⟨nf8, List.forall_mem_cons.mpr ⟨nf9, List.forall_mem_cons.mpr ⟨nf10, List.forall_mem_cons.mpr ⟨nf11, List.forall_mem_cons.mpr ⟨nf12, List.forall_mem_cons.mpr ⟨nf13, List.forall_mem_cons.mpr ⟨nf14, List.forall_mem_cons.mpr ⟨nf15, List.forall_mem_cons.mpr ⟨nf16, List.forall_mem_cons.mpr ⟨nf17, List.forall_mem_cons.mpr ⟨nf18, List.forall_mem_cons.mpr ⟨nf19, List.forall_mem_cons.mpr ⟨nf20, List.forall_mem_cons.mpr ⟨nf21, List.forall_mem_cons.mpr ⟨nf22, List.forall_mem_cons.mpr ⟨nf23, List.forall_mem_cons.mpr ⟨nf24, List.forall_mem_cons.mpr ⟨nf25, List.forall_mem_cons.mpr ⟨nf26, List.forall_mem_cons.mpr ⟨nf27, List.forall_mem_cons.mpr ⟨nf28, List.forall_mem_cons.mpr ⟨nf29, List.forall_mem_cons.mpr ⟨nf30, List.forall_mem_cons.mpr ⟨nf31, List.forall_mem_cons.mpr ⟨nf32, List.forall_mem_cons.mpr ⟨nf33, List.forall_mem_cons.mpr ⟨nf34, List.forall_mem_cons.mpr ⟨nf35, List.forall_mem_cons.mpr ⟨nf36, List.forall_mem_cons.mpr ⟨nf37, List.forall_mem_cons.mpr ⟨nf38, List.forall_mem_cons.mpr ⟨nf39, List.forall_mem_cons.mpr ⟨nf40, List.forall_mem_cons.mpr ⟨nf41, List.forall_mem_cons.mpr ⟨nf42, List.forall_mem_cons.mpr ⟨nf43, List.forall_mem_cons.mpr ⟨nf44, List.forall_mem_cons.mpr ⟨nf45, List.forall_mem_cons.mpr ⟨nf46, List.forall_mem_cons.mpr ⟨nf47, List.forall_mem_cons.mpr ⟨nf48, List.forall_mem_cons.mpr ⟨nf49, List.forall_mem_cons.mpr ⟨nf50, List.forall_mem_cons.mpr ⟨nf51, List.forall_mem_cons.mpr ⟨nf52, List.forall_mem_cons.mpr ⟨nf53, List.forall_mem_cons.mpr ⟨nf54, List.forall_mem_cons.mpr ⟨nf55, List.forall_mem_cons.mpr ⟨nf56, List.forall_mem_cons.mpr ⟨nf57, List.forall_mem_cons.mpr ⟨nf58, List.forall_mem_cons.mpr ⟨nf59, List.forall_mem_cons.mpr ⟨nf60, List.forall_mem_cons.mpr ⟨nf61, List.forall_mem_cons.mpr ⟨nf62, List.forall_mem_cons.mpr ⟨nf63, List.forall_mem_cons.mpr ⟨nf64, List.forall_mem_cons.mpr ⟨nf65, List.forall_mem_cons.mpr ⟨nf66, List.forall_mem_cons.mpr ⟨nf67, List.forall_mem_cons.mpr ⟨nf68, List.forall_mem_cons.mpr ⟨nf69, List.forall_mem_cons.mpr ⟨nf70, List.forall_mem_cons.mpr ⟨nf71, List.forall_mem_cons.mpr ⟨nf72, List.forall_mem_cons.mpr ⟨nf73, List.forall_mem_cons.mpr ⟨nf74, List.forall_mem_cons.mpr ⟨nf75, List.forall_mem_cons.mpr ⟨nf76, List.forall_mem_cons.mpr ⟨nf77, List.forall_mem_cons.mpr ⟨nf78, List.forall_mem_cons.mpr ⟨nf79, List.forall_mem_cons.mpr ⟨nf80, List.forall_mem_cons.mpr ⟨nf81, List.forall_mem_cons.mpr ⟨nf82, List.forall_mem_cons.mpr ⟨nf83, List.forall_mem_cons.mpr ⟨nf84, List.forall_mem_cons.mpr ⟨nf85, List.forall_mem_cons.mpr ⟨nf86, List.forall_mem_cons.mpr ⟨nf87, List.forall_mem_cons.mpr ⟨nf88, List.forall_mem_cons.mpr ⟨nf89, List.forall_mem_cons.mpr ⟨nf90, List.forall_mem_cons.mpr ⟨nf91, (fun _ h => absurd h List.not_mem_nil)⟩⟩⟩⟩⟩⟩⟩⟩⟩⟩⟩⟩⟩⟩⟩⟩⟩⟩⟩⟩⟩⟩⟩⟩⟩⟩⟩⟩⟩⟩⟩⟩⟩⟩⟩⟩⟩⟩⟩⟩⟩⟩⟩⟩⟩⟩⟩⟩⟩⟩⟩⟩⟩⟩⟩⟩⟩⟩⟩⟩⟩⟩⟩⟩⟩⟩⟩⟩⟩⟩⟩⟩⟩⟩⟩⟩⟩⟩⟩⟩⟩⟩⟩⟩⟩⟩⟩⟩⟩⟩⟩⟩
theorem nwM_ok : ∀ x ∈ nwM, nwMw x ∈ tables_1 := List.forall_mem_cons.mpr ⟨nm0, List.forall_mem_cons.mpr ⟨nm1, List.forall_mem_cons.mpr ⟨nm2, List.forall_mem_cons.mpr ⟨nm3, List.forall_mem_cons.mpr ⟨nm4, List.forall_mem_cons.mpr ⟨nm5, List.forall_mem_cons.mpr ⟨nm6, List.forall_mem_cons.mpr ⟨nm7, List.forall_mem_cons.mpr ⟨nm8, (fun _ h => absurd h List.not_mem_nil)⟩⟩⟩⟩⟩⟩⟩⟩⟩
def fOK (o : Nat) (x : Nat × Nat × Nat × Bool) : Prop := x.2.2.1 < NN x.2.1 ∧ x.2.1 < 13 ∧ (if x.2.2.2 = true then (o, x.1, x.2.1, x.2.2.1) ∈ nwF else Cond.fieldLink (cnm o) x.1 (TT x.2.1 x.2.2.1).1 (TT x.2.1 x.2.2.1).2.1 (TT x.2.1 x.2.2.1).2.2.1 ∈ gtbl)
def fT0 : List (Nat × Nat × Nat × Bool) := [(25, 4, 6, true), (30, 4, 7, true), (33, 4, 12, true), (36, 4, 14, true), (11, 0, 0, false), (15, 0, 1, false)]
theorem fo0_25 : fOK 0 (25, 4, 6, true) := ⟨Nat.le_of_ble_eq_true rfl, Nat.le_of_ble_eq_true rfl, List.mem_of_getElem? (i := 63) rfl⟩
theorem fo0_30 : fOK 0 (30, 4, 7, true) := ⟨Nat.le_of_ble_eq_true rfl, Nat.le_of_ble_eq_true rfl, List.mem_of_getElem? (i := 67) rfl⟩
theorem fo0_33 : fOK 0 (33, 4, 12, true) := ⟨Nat.le_of_ble_eq_true rfl, Nat.le_of_ble_eq_true rfl, List.mem_of_getElem? (i := 77) rfl⟩
theorem fo0_36 : fOK 0 (36, 4, 14, true) := ⟨Nat.le_of_ble_eq_true rfl, Nat.le_of_ble_eq_true rfl, List.mem_of_getElem? (i := 81) rfl⟩
theorem fo0_11 : fOK 0 (11, 0, 0, false) := ⟨Nat.le_of_ble_eq_true rfl, Nat.le_of_ble_eq_true rfl, (tq2 188 rfl rfl)⟩
theorem fo0_15 : fOK 0 (15, 0, 1, false) := ⟨Nat.le_of_ble_eq_true rfl, Nat.le_of_ble_eq_true rfl, (tq2 189 rfl rfl)⟩
theorem fT0_ok : ∀ x ∈ fT0, fOK 0 x := List.forall_mem_cons.mpr ⟨fo0_25, List.forall_mem_cons.mpr ⟨fo0_30, List.forall_mem_cons.mpr ⟨fo0_33, List.forall_mem_cons.mpr ⟨fo0_36, List.forall_mem_cons.mpr ⟨fo0_11, List.forall_mem_cons.mpr ⟨fo0_15, (fun _ h => absurd h List.not_mem_nil)⟩⟩⟩⟩⟩⟩
def fT1 : List (Nat × Nat × Nat × Bool) := [(9, 1, 0, false), (15, 1, 1, false), (18, 1, 2, false), (21, 1, 3, false), (29, 1, 4, false), (25, 1, 5, false)]
theorem fo1_9 : fOK 1 (9, 1, 0, false) := ⟨Nat.le_of_ble_eq_true rfl, Nat.le_of_ble_eq_true rfl, (tq2 202 rfl rfl)⟩
theorem fo1_15 : fOK 1 (15, 1, 1, false) := ⟨Nat.le_of_ble_eq_true rfl, Nat.le_of_ble_eq_true rfl, (tq2 203 rfl rfl)⟩
theorem fo1_18 : fOK 1 (18, 1, 2, false) := ⟨Nat.le_of_ble_eq_true rfl, Nat.le_of_ble_eq_true rfl, (tq2 204 rfl rfl)⟩
theorem fo1_21 : fOK 1 (21, 1, 3, false) := ⟨Nat.le_of_ble_eq_true rfl, Nat.le_of_ble_eq_true rfl, (tq2 205 rfl rfl)⟩
theorem fo1_29 : fOK 1 (29, 1, 4, false) := ⟨Nat.le_of_ble_eq_true rfl, Nat.le_of_ble_eq_true rfl, (tq2 206 rfl rfl)⟩
theorem fo1_25 : fOK 1 (25, 1, 5, false) := ⟨Nat.le_of_ble_eq_true rfl, Nat.le_of_ble_eq_true rfl, (tq2 208 rfl rfl)⟩
theorem fT1_ok : ∀ x ∈ fT1, fOK 1 x := List.forall_mem_cons.mpr ⟨fo1_9, List.forall_mem_cons.mpr ⟨fo1_15, List.forall_mem_cons.mpr ⟨fo1_18, List.forall_mem_cons.mpr ⟨fo1_21, List.forall_mem_cons.mpr ⟨fo1_29, List.forall_mem_cons.mpr ⟨fo1_25, (fun _ h => absurd h List.not_mem_nil)⟩⟩⟩⟩⟩⟩
def fT2 : List (Nat × Nat × Nat × Bool) := [(24, 2, 0, false), (28, 2, 1, false), (11, 2, 2, false), (17, 2, 3, false), (20, 2, 4, false)]
theorem fo2_24 : fOK 2 (24, 2, 0, false) := ⟨Nat.le_of_ble_eq_true rfl, Nat.le_of_ble_eq_true rfl, (tq1 65 rfl rfl)⟩
theorem fo2_28 : fOK 2 (28, 2, 1, false) := ⟨Nat.le_of_ble_eq_true rfl, Nat.le_of_ble_eq_true rfl, (tq1 67 rfl rfl)⟩
theorem fo2_11 : fOK 2 (11, 2, 2, false) := ⟨Nat.le_of_ble_eq_true rfl, Nat.le_of_ble_eq_true rfl, (tq1 69 rfl rfl)⟩
theorem fo2_17 : fOK 2 (17, 2, 3, false) := ⟨Nat.le_of_ble_eq_true rfl, Nat.le_of_ble_eq_true rfl, (tq1 70 rfl rfl)⟩
theorem fo2_20 : fOK 2 (20, 2, 4, false) := ⟨Nat.le_of_ble_eq_true rfl, Nat.le_of_ble_eq_true rfl, (tq1 71 rfl rfl)⟩
theorem fT2_ok : ∀ x ∈ fT2, fOK 2 x := List.forall_mem_cons.mpr ⟨fo2_24, List.forall_mem_cons.mpr ⟨fo2_28, List.forall_mem_cons.mpr ⟨fo2_11, List.forall_mem_cons.mpr ⟨fo2_17, List.forall_mem_cons.mpr ⟨fo2_20, (fun _ h => absurd h List.not_mem_nil)⟩⟩⟩⟩⟩
def fT3 : List (Nat × Nat × Nat × Bool) := [(95, 5, 1, true), (89, 9, 0, true), (69, 4, 0, true), (64, 4, 1, true), (73, 4, 6, true), (74, 4, 7, true), (86, 4, 13, true), (24, 3, 0, false), (28, 3, 1, false), (9, 3, 2, false), (15, 3, 3, false), (18, 3, 4, false), (21, 3, 5, false), (55, 3, 6, false), (31, 3, 7, false), (35, 3, 8, false), (39, 3, 9, false), (42, 3, 10, false)]
theorem fo3_95 : fOK 3 (95, 5, 1, true) := ⟨Nat.le_of_ble_eq_true rfl, Nat.le_of_ble_eq_true rfl, List.mem_of_getElem? (i := 3) rfl⟩
theorem fo3_89 : fOK 3 (89, 9, 0, true) := ⟨Nat.le_of_ble_eq_true rfl, Nat.le_of_ble_eq_true rfl, List.mem_of_getElem? (i := 9) rfl⟩
theorem fo3_69 : fOK 3 (69, 4, 0, true) := ⟨Nat.le_of_ble_eq_true rfl, Nat.le_of_ble_eq_true rfl, List.mem_of_getElem? (i := 54) rfl⟩
theorem fo3_64 : fOK 3 (64, 4, 1, true) := ⟨Nat.le_of_ble_eq_true rfl, Nat.le_of_ble_eq_true rfl, List.mem_of_getElem? (i := 57) rfl⟩
theorem fo3_73 : fOK 3 (73, 4, 6, true) := ⟨Nat.le_of_ble_eq_true rfl, Nat.le_of_ble_eq_true rfl, List.mem_of_getElem? (i := 65) rfl⟩
theorem fo3_74 : fOK 3 (74, 4, 7, true) := ⟨Nat.le_of_ble_eq_true rfl, Nat.le_of_ble_eq_true rfl, List.mem_of_getElem? (i := 69) rfl⟩
theorem fo3_86 : fOK 3 (86, 4, 13, true) := ⟨Nat.le_of_ble_eq_true rfl, Nat.le_of_ble_eq_true rfl, List.mem_of_getElem? (i := 79) rfl⟩
theorem fo3_24 : fOK 3 (24, 3, 0, false) := ⟨Nat.le_of_ble_eq_true rfl, Nat.le_of_ble_eq_true rfl, (tq2 230 rfl rfl)⟩
theorem fo3_28 : fOK 3 (28, 3, 1, false) := ⟨Nat.le_of_ble_eq_true rfl, Nat.le_of_ble_eq_true rfl, (tq2 231 rfl rfl)⟩
theorem fo3_9 : fOK 3 (9, 3, 2, false) := ⟨Nat.le_of_ble_eq_true rfl, Nat.le_of_ble_eq_true rfl, (tq2 232 rfl rfl)⟩
theorem fo3_15 : fOK 3 (15, 3, 3, false) := ⟨Nat.le_of_ble_eq_true rfl, Nat.le_of_ble_eq_true rfl, (tq2 233 rfl rfl)⟩
theorem fo3_18 : fOK 3 (18, 3, 4, false) := ⟨Nat.le_of_ble_eq_true rfl, Nat.le_of_ble_eq_true rfl, (tq2 234 rfl rfl)⟩
theorem fo3_21 : fOK 3 (21, 3, 5, false) := ⟨Nat.le_of_ble_eq_true rfl, Nat.le_of_ble_eq_true rfl, (tq2 235 rfl rfl)⟩
theorem fo3_55 : fOK 3 (55, 3, 6, false) := ⟨Nat.le_of_ble_eq_true rfl, Nat.le_of_ble_eq_true rfl, (tq2 237 rfl rfl)⟩
theorem fo3_31 : fOK 3 (31, 3, 7, false) := ⟨Nat.le_of_ble_eq_true rfl, Nat.le_of_ble_eq_true rfl, (tq2 239 rfl rfl)⟩
theorem fo3_35 : fOK 3 (35, 3, 8, false) := ⟨Nat.le_of_ble_eq_true rfl, Nat.le_of_ble_eq_true rfl, (tq3 0 rfl rfl)⟩
theorem fo3_39 : fOK 3 (39, 3, 9, false) := ⟨Nat.le_of_ble_eq_true rfl, Nat.le_of_ble_eq_true rfl, (tq3 1 rfl rfl)⟩
theorem fo3_42 : fOK 3 (42, 3, 10, false) := ⟨Nat.le_of_ble_eq_true rfl, Nat.le_of_ble_eq_true rfl, (tq3 2 rfl rfl)⟩
theorem fT3_ok : ∀ x ∈ fT3, fOK 3 x := List.forall_mem_cons.mpr ⟨fo3_95, List.forall_mem_cons.mpr ⟨fo3_89, List.forall_mem_cons.mpr ⟨fo3_69, List.forall_mem_cons.mpr ⟨fo3_64, List.forall_mem_cons.mpr ⟨fo3_73, List.forall_mem_cons.mpr ⟨fo3_74, List.forall_mem_cons.mpr ⟨fo3_86, List.forall_mem_cons.mpr ⟨fo3_24, List.forall_mem_cons.mpr ⟨fo3_28, List.forall_mem_cons.mpr ⟨fo3_9, List.forall_mem_cons.mpr ⟨fo3_15, List.forall_mem_cons.mpr ⟨fo3_18, List.forall_mem_cons.mpr ⟨fo3_21, List.forall_mem_cons.mpr ⟨fo3_55, List.forall_mem_cons.mpr ⟨fo3_31, List.forall_mem_cons.mpr ⟨fo3_35, List.forall_mem_cons.mpr ⟨fo3_39, List.forall_mem_cons.mpr ⟨fo3_42, (fun _ h => absurd h List.not_mem_nil)⟩⟩⟩⟩⟩⟩⟩⟩⟩⟩⟩⟩⟩⟩⟩⟩⟩⟩
def fT4 : List (Nat × Nat × Nat × Bool) := [(65, 5, 1, true), (111, 9, 1, true), (84, 9, 2, true), (60, 9, 3, true), (89, 9, 6, true), (90, 9, 7, true), (92, 9, 8, true), (141, 9, 9, true), (93, 9, 10, true), (91, 9, 11, true), (73, 9, 12, true), (131, 9, 16, true), (148, 9, 17, true), (52, 4, 0, false), (56, 4, 1, false), (70, 4, 2, false), (76, 4, 3, false), (77, 4, 4, false), (9, 4, 5, false), (15, 4, 6, false), (18, 4, 7, false), (21, 4, 8, false), (24, 4, 9, false), (27, 4, 10, false), (30, 4, 11, false), (33, 4, 12, false), (36, 4, 13, false), (39, 4, 14, false), (42, 4, 15, false), (45, 4, 16, false), (48, 4, 17, false), (81, 4, 18, false)]
theorem fo4_65 : fOK 4 (65, 5, 1, true) := ⟨Nat.le_of_ble_eq_true rfl, Nat.le_of_ble_eq_true rfl, List.mem_of_getElem? (i := 1) rfl⟩
theorem fo4_111 : fOK 4 (111, 9, 1, true) := ⟨Nat.le_of_ble_eq_true rfl, Nat.le_of_ble_eq_true rfl, List.mem_of_getElem? (i := 11) rfl⟩
theorem fo4_84 : fOK 4 (84, 9, 2, true) := ⟨Nat.le_of_ble_eq_true rfl, Nat.le_of_ble_eq_true rfl, List.mem_of_getElem? (i := 12) rfl⟩
theorem fo4_60 : fOK 4 (60, 9, 3, true) := ⟨Nat.le_of_ble_eq_true rfl, Nat.le_of_ble_eq_true rfl, List.mem_of_getElem? (i := 14) rfl⟩
theorem fo4_89 : fOK 4 (89, 9, 6, true) := ⟨Nat.le_of_ble_eq_true rfl, Nat.le_of_ble_eq_true rfl, List.mem_of_getElem? (i := 21) rfl⟩
theorem fo4_90 : fOK 4 (90, 9, 7, true) := ⟨Nat.le_of_ble_eq_true rfl, Nat.le_of_ble_eq_true rfl, List.mem_of_getElem? (i := 23) rfl⟩
theorem fo4_92 : fOK 4 (92, 9, 8, true) := ⟨Nat.le_of_ble_eq_true rfl, Nat.le_of_ble_eq_true rfl, List.mem_of_getElem? (i := 26) rfl⟩
theorem fo4_141 : fOK 4 (141, 9, 9, true) := ⟨Nat.le_of_ble_eq_true rfl, Nat.le_of_ble_eq_true rfl, List.mem_of_getElem? (i := 29) rfl⟩
theorem fo4_93 : fOK 4 (93, 9, 10, true) := ⟨Nat.le_of_ble_eq_true rfl, Nat.le_of_ble_eq_true rfl, List.mem_of_getElem? (i := 30) rfl⟩
theorem fo4_91 : fOK 4 (91, 9, 11, true) := ⟨Nat.le_of_ble_eq_true rfl, Nat.le_of_ble_eq_true rfl, List.mem_of_getElem? (i := 32) rfl⟩
theorem fo4_73 : fOK 4 (73, 9, 12, true) := ⟨Nat.le_of_ble_eq_true rfl, Nat.le_of_ble_eq_true rfl, List.mem_of_getElem? (i := 34) rfl⟩
theorem fo4_131 : fOK 4 (131, 9, 16, true) := ⟨Nat.le_of_ble_eq_true rfl, Nat.le_of_ble_eq_true rfl, List.mem_of_getElem? (i := 41) rfl⟩
theorem fo4_148 : fOK 4 (148, 9, 17, true) := ⟨Nat.le_of_ble_eq_true rfl, Nat.le_of_ble_eq_true rfl, List.mem_of_getElem? (i := 44) rfl⟩
theorem fo4_52 : fOK 4 (52, 4, 0, false) := ⟨Nat.le_of_ble_eq_true rfl, Nat.le_of_ble_eq_true rfl, (tq2 78 rfl rfl)⟩
theorem fo4_56 : fOK 4 (56, 4, 1, false) := ⟨Nat.le_of_ble_eq_true rfl, Nat.le_of_ble_eq_true rfl, (tq2 81 rfl rfl)⟩
theorem fo4_70 : fOK 4 (70, 4, 2, false) := ⟨Nat.le_of_ble_eq_true rfl, Nat.le_of_ble_eq_true rfl, (tq2 86 rfl rfl)⟩
theorem fo4_76 : fOK 4 (76, 4, 3, false) := ⟨Nat.le_of_ble_eq_true rfl, Nat.le_of_ble_eq_true rfl, (tq2 88 rfl rfl)⟩
theorem fo4_77 : fOK 4 (77, 4, 4, false) := ⟨Nat.le_of_ble_eq_true rfl, Nat.le_of_ble_eq_true rfl, (tq2 90 rfl rfl)⟩
theorem fo4_9 : fOK 4 (9, 4, 5, false) := ⟨Nat.le_of_ble_eq_true rfl, Nat.le_of_ble_eq_true rfl, (tq2 92 rfl rfl)⟩
theorem fo4_15 : fOK 4 (15, 4, 6, false) := ⟨Nat.le_of_ble_eq_true rfl, Nat.le_of_ble_eq_true rfl, (tq2 94 rfl rfl)⟩
theorem fo4_18 : fOK 4 (18, 4, 7, false) := ⟨Nat.le_of_ble_eq_true rfl, Nat.le_of_ble_eq_true rfl, (tq2 99 rfl rfl)⟩
theorem fo4_21 : fOK 4 (21, 4, 8, false) := ⟨Nat.le_of_ble_eq_true rfl, Nat.le_of_ble_eq_true rfl, (tq2 104 rfl rfl)⟩
theorem fo4_24 : fOK 4 (24, 4, 9, false) := ⟨Nat.le_of_ble_eq_true rfl, Nat.le_of_ble_eq_true rfl, (tq2 106 rfl rfl)⟩
theorem fo4_27 : fOK 4 (27, 4, 10, false) := ⟨Nat.le_of_ble_eq_true rfl, Nat.le_of_ble_eq_true rfl, (tq2 108 rfl rfl)⟩
theorem fo4_30 : fOK 4 (30, 4, 11, false) := ⟨Nat.le_of_ble_eq_true rfl, Nat.le_of_ble_eq_true rfl, (tq2 111 rfl rfl)⟩
theorem fo4_33 : fOK 4 (33, 4, 12, false) := ⟨Nat.le_of_ble_eq_true rfl, Nat.le_of_ble_eq_true rfl, (tq2 114 rfl rfl)⟩
theorem fo4_36 : fOK 4 (36, 4, 13, false) := ⟨Nat.le_of_ble_eq_true rfl, Nat.le_of_ble_eq_true rfl, (tq2 117 rfl rfl)⟩
theorem fo4_39 : fOK 4 (39, 4, 14, false) := ⟨Nat.le_of_ble_eq_true rfl, Nat.le_of_ble_eq_true rfl, (tq2 120 rfl rfl)⟩
theorem fo4_42 : fOK 4 (42, 4, 15, false) := ⟨Nat.le_of_ble_eq_true rfl, Nat.le_of_ble_eq_true rfl, (tq2 123 rfl rfl)⟩
theorem fo4_45 : fOK 4 (45, 4, 16, false) := ⟨Nat.le_of_ble_eq_true rfl, Nat.le_of_ble_eq_true rfl, (tq2 124 rfl rfl)⟩
theorem fo4_48 : fOK 4 (48, 4, 17, false) := ⟨Nat.le_of_ble_eq_true rfl, Nat.le_of_ble_eq_true rfl, (tq2 125 rfl rfl)⟩
theorem fo4_81 : fOK 4 (81, 4, 18, false) := ⟨Nat.le_of_ble_eq_true rfl, Nat.le_of_ble_eq_true rfl, (tq2 127 rfl rfl)⟩
theorem fT4_ok : ∀ x ∈ fT4, fOK 4 x := List.forall_mem_cons.mpr ⟨fo4_65, List.forall_mem_cons.mpr ⟨fo4_111, List.forall_mem_cons.mpr ⟨fo4_84, List.forall_mem_cons.mpr ⟨fo4_60, List.forall_mem_cons.mpr ⟨fo4_89, List.forall_mem_cons.mpr ⟨fo4_90, List.forall_mem_cons.mpr ⟨fo4_92, List.forall_mem_cons.mpr ⟨fo4_141, List.forall_mem_cons.mpr ⟨fo4_93, List.forall_mem_cons.mpr ⟨fo4_91, List.forall_mem_cons.mpr ⟨fo4_73, List.forall_mem_cons.mpr ⟨fo4_131, List.forall_mem_cons.mpr ⟨fo4_148, List.forall_mem_cons.mpr ⟨fo4_52, List.forall_mem_cons.mpr ⟨fo4_56, List.forall_mem_cons.mpr ⟨fo4_70, List.forall_mem_cons.mpr ⟨fo4_76, List.forall_mem_cons.mpr ⟨fo4_77, List.forall_mem_cons.mpr ⟨fo4_9, List.forall_mem_cons.mpr ⟨fo4_15, List.forall_mem_cons.mpr ⟨fo4_18, List.forall_mem_cons.mpr ⟨fo4_21, List.forall_mem_cons.mpr ⟨fo4_24, List.forall_mem_cons.mpr ⟨fo4_27, List.forall_mem_cons.mpr ⟨fo4_30, List.forall_mem_cons.mpr ⟨fo4_33, List.forall_mem_cons.mpr ⟨fo4_36, List.forall_mem_cons.mpr ⟨fo4_39, List.forall_mem_cons.mpr ⟨fo4_42, List.forall_mem_cons.mpr ⟨fo4_45, List.forall_mem_cons.mpr ⟨fo4_48, List.forall_mem_cons.mpr ⟨fo4_81, (fun _ h => absurd h List.not_mem_nil)⟩⟩⟩⟩⟩⟩⟩⟩⟩⟩⟩⟩⟩⟩⟩⟩⟩⟩⟩⟩⟩⟩⟩⟩⟩⟩⟩⟩⟩⟩⟩⟩
def fT5 : List (Nat × Nat × Nat × Bool) := [(9, 5, 0, false), (15, 5, 1, false)]
theorem fo5_9 : fOK 5 (9, 5, 0, false) := ⟨Nat.le_of_ble_eq_true rfl, Nat.le_of_ble_eq_true rfl, (tq1 45 rfl rfl)⟩
theorem fo5_15 : fOK 5 (15, 5, 1, false) := ⟨Nat.le_of_ble_eq_true rfl, Nat.le_of_ble_eq_true rfl, (tq1 46 rfl rfl)⟩
theorem fT5_ok : ∀ x ∈ fT5, fOK 5 x := List.forall_mem_cons.mpr ⟨fo5_9, List.forall_mem_cons.mpr ⟨fo5_15, (fun _ h => absurd h List.not_mem_nil)⟩⟩
def fT6 : List (Nat × Nat × Nat × Bool) := [(52, 4, 0, true), (39, 4, 1, true), (56, 4, 6, true), (59, 4, 7, true), (66, 4, 10, true), (18, 6, 0, false), (9, 6, 1, false), (15, 6, 2, false), (36, 6, 3, false), (22, 6, 4, false), (26, 6, 5, false), (30, 6, 6, false), (33, 6, 7, false)]
theorem fo6_52 : fOK 6 (52, 4, 0, true) := ⟨Nat.le_of_ble_eq_true rfl, Nat.le_of_ble_eq_true rfl, List.mem_of_getElem? (i := 53) rfl⟩
theorem fo6_39 : fOK 6 (39, 4, 1, true) := ⟨Nat.le_of_ble_eq_true rfl, Nat.le_of_ble_eq_true rfl, List.mem_of_getElem? (i := 56) rfl⟩
theorem fo6_56 : fOK 6 (56, 4, 6, true) := ⟨Nat.le_of_ble_eq_true rfl, Nat.le_of_ble_eq_true rfl, List.mem_of_getElem? (i := 64) rfl⟩
theorem fo6_59 : fOK 6 (59, 4, 7, true) := ⟨Nat.le_of_ble_eq_true rfl, Nat.le_of_ble_eq_true rfl, List.mem_of_getElem? (i := 68) rfl⟩
theorem fo6_66 : fOK 6 (66, 4, 10, true) := ⟨Nat.le_of_ble_eq_true rfl, Nat.le_of_ble_eq_true rfl, List.mem_of_getElem? (i := 73) rfl⟩
theorem fo6_18 : fOK 6 (18, 6, 0, false) := ⟨Nat.le_of_ble_eq_true rfl, Nat.le_of_ble_eq_true rfl, (tq3 32 rfl rfl)⟩
theorem fo6_9 : fOK 6 (9, 6, 1, false) := ⟨Nat.le_of_ble_eq_true rfl, Nat.le_of_ble_eq_true rfl, (tq3 33 rfl rfl)⟩
theorem fo6_15 : fOK 6 (15, 6, 2, false) := ⟨Nat.le_of_ble_eq_true rfl, Nat.le_of_ble_eq_true rfl, (tq3 34 rfl rfl)⟩
theorem fo6_36 : fOK 6 (36, 6, 3, false) := ⟨Nat.le_of_ble_eq_true rfl, Nat.le_of_ble_eq_true rfl, (tq3 36 rfl rfl)⟩
theorem fo6_22 : fOK 6 (22, 6, 4, false) := ⟨Nat.le_of_ble_eq_true rfl, Nat.le_of_ble_eq_true rfl, (tq3 38 rfl rfl)⟩
theorem fo6_26 : fOK 6 (26, 6, 5, false) := ⟨Nat.le_of_ble_eq_true rfl, Nat.le_of_ble_eq_true rfl, (tq3 39 rfl rfl)⟩
theorem fo6_30 : fOK 6 (30, 6, 6, false) := ⟨Nat.le_of_ble_eq_true rfl, Nat.le_of_ble_eq_true rfl, (tq3 40 rfl rfl)⟩
theorem fo6_33 : fOK 6 (33, 6, 7, false) := ⟨Nat.le_of_ble_eq_true rfl, Nat.le_of_ble_eq_true rfl, (tq3 41 rfl rfl)⟩
theorem fT6_ok : ∀ x ∈ fT6, fOK 6 x := List.forall_mem_cons.mpr ⟨fo6_52, List.forall_mem_cons.mpr ⟨fo6_39, List.forall_mem_cons.mpr ⟨fo6_56, List.forall_mem_cons.mpr ⟨fo6_59, List.forall_mem_cons.mpr ⟨fo6_66, List.forall_mem_cons.mpr ⟨fo6_18, List.forall_mem_cons.mpr ⟨fo6_9, List.forall_mem_cons.mpr ⟨fo6_15, List.forall_mem_cons.mpr ⟨fo6_36, List.forall_mem_cons.mpr ⟨fo6_22, List.forall_mem_cons.mpr ⟨fo6_26, List.forall_mem_cons.mpr ⟨fo6_30, List.forall_mem_cons.mpr ⟨fo6_33, (fun _ h => absurd h List.not_mem_nil)⟩⟩⟩⟩⟩⟩⟩⟩⟩⟩⟩⟩⟩
def fT7 : List (Nat × Nat × Nat × Bool) := [(84, 5, 1, true), (156, 2, 0, true), (80, 9, 0, true), (97, 9, 1, true), (103, 9, 2, true), (106, 9, 3, true), (112, 9, 4, true), (115, 9, 5, true), (121, 9, 6, true), (124, 9, 7, true), (134, 9, 8, true), (137, 9, 9, true), (140, 9, 10, true), (143, 9, 11, true), (146, 9, 12, true), (165, 9, 13, true), (178, 9, 14, true), (181, 9, 15, true), (149, 9, 16, true), (153, 9, 17, true), (51, 10, 4, true), (77, 10, 5, true), (187, 10, 6, true), (171, 10, 7, true), (15, 7, 0, false), (19, 7, 1, false), (23, 7, 2, false), (27, 7, 3, false), (35, 7, 4, false), (38, 7, 5, false), (100, 7, 6, false), (42, 7, 7, false), (196, 7, 8, false), (199, 7, 9, false), (9, 7, 10, false), (193, 7, 11, false)]
theorem fo7_84 : fOK 7 (84, 5, 1, true) := ⟨Nat.le_of_ble_eq_true rfl, Nat.le_of_ble_eq_true rfl, List.mem_of_getElem? (i := 2) rfl⟩
theorem fo7_156 : fOK 7 (156, 2, 0, true) := ⟨Nat.le_of_ble_eq_true rfl, Nat.le_of_ble_eq_true rfl, List.mem_of_getElem? (i := 5) rfl⟩
theorem fo7_80 : fOK 7 (80, 9, 0, true) := ⟨Nat.le_of_ble_eq_true rfl, Nat.le_of_ble_eq_true rfl, List.mem_of_getElem? (i := 7) rfl⟩
theorem fo7_97 : fOK 7 (97, 9, 1, true) := ⟨Nat.le_of_ble_eq_true rfl, Nat.le_of_ble_eq_true rfl, List.mem_of_getElem? (i := 10) rfl⟩
theorem fo7_103 : fOK 7 (103, 9, 2, true) := ⟨Nat.le_of_ble_eq_true rfl, Nat.le_of_ble_eq_true rfl, List.mem_of_getElem? (i := 13) rfl⟩
theorem fo7_106 : fOK 7 (106, 9, 3, true) := ⟨Nat.le_of_ble_eq_true rfl, Nat.le_of_ble_eq_true rfl, List.mem_of_getElem? (i := 15) rfl⟩
theorem fo7_112 : fOK 7 (112, 9, 4, true) := ⟨Nat.le_of_ble_eq_true rfl, Nat.le_of_ble_eq_true rfl, List.mem_of_getElem? (i := 18) rfl⟩
theorem fo7_115 : fOK 7 (115, 9, 5, true) := ⟨Nat.le_of_ble_eq_true rfl, Nat.le_of_ble_eq_true rfl, List.mem_of_getElem? (i := 20) rfl⟩
theorem fo7_121 : fOK 7 (121, 9, 6, true) := ⟨Nat.le_of_ble_eq_true rfl, Nat.le_of_ble_eq_true rfl, List.mem_of_getElem? (i := 22) rfl⟩
theorem fo7_124 : fOK 7 (124, 9, 7, true) := ⟨Nat.le_of_ble_eq_true rfl, Nat.le_of_ble_eq_true rfl, List.mem_of_getElem? (i := 24) rfl⟩
theorem fo7_134 : fOK 7 (134, 9, 8, true) := ⟨Nat.le_of_ble_eq_true rfl, Nat.le_of_ble_eq_true rfl, List.mem_of_getElem? (i := 27) rfl⟩
theorem fo7_137 : fOK 7 (137, 9, 9, true) := ⟨Nat.le_of_ble_eq_true rfl, Nat.le_of_ble_eq_true rfl, List.mem_of_getElem? (i := 28) rfl⟩
theorem fo7_140 : fOK 7 (140, 9, 10, true) := ⟨Nat.le_of_ble_eq_true rfl, Nat.le_of_ble_eq_true rfl, List.mem_of_getElem? (i := 31) rfl⟩
theorem fo7_143 : fOK 7 (143, 9, 11, true) := ⟨Nat.le_of_ble_eq_true rfl, Nat.le_of_ble_eq_true rfl, List.mem_of_getElem? (i := 33) rfl⟩
theorem fo7_146 : fOK 7 (146, 9, 12, true) := ⟨Nat.le_of_ble_eq_true rfl, Nat.le_of_ble_eq_true rfl, List.mem_of_getElem? (i := 35) rfl⟩
theorem fo7_165 : fOK 7 (165, 9, 13, true) := ⟨Nat.le_of_ble_eq_true rfl, Nat.le_of_ble_eq_true rfl, List.mem_of_getElem? (i := 37) rfl⟩
theorem fo7_178 : fOK 7 (178, 9, 14, true) := ⟨Nat.le_of_ble_eq_true rfl, Nat.le_of_ble_eq_true rfl, List.mem_of_getElem? (i := 38) rfl⟩
theorem fo7_181 : fOK 7 (181, 9, 15, true) := ⟨Nat.le_of_ble_eq_true rfl, Nat.le_of_ble_eq_true rfl, List.mem_of_getElem? (i := 39) rfl⟩
theorem fo7_149 : fOK 7 (149, 9, 16, true) := ⟨Nat.le_of_ble_eq_true rfl, Nat.le_of_ble_eq_true rfl, List.mem_of_getElem? (i := 40) rfl⟩
theorem fo7_153 : fOK 7 (153, 9, 17, true) := ⟨Nat.le_of_ble_eq_true rfl, Nat.le_of_ble_eq_true rfl, List.mem_of_getElem? (i := 43) rfl⟩
theorem fo7_51 : fOK 7 (51, 10, 4, true) := ⟨Nat.le_of_ble_eq_true rfl, Nat.le_of_ble_eq_true rfl, List.mem_of_getElem? (i := 46) rfl⟩
theorem fo7_77 : fOK 7 (77, 10, 5, true) := ⟨Nat.le_of_ble_eq_true rfl, Nat.le_of_ble_eq_true rfl, List.mem_of_getElem? (i := 47) rfl⟩
theorem fo7_187 : fOK 7 (187, 10, 6, true) := ⟨Nat.le_of_ble_eq_true rfl, Nat.le_of_ble_eq_true rfl, List.mem_of_getElem? (i := 48) rfl⟩
theorem fo7_171 : fOK 7 (171, 10, 7, true) := ⟨Nat.le_of_ble_eq_true rfl, Nat.le_of_ble_eq_true rfl, List.mem_of_getElem? (i := 49) rfl⟩
theorem fo7_15 : fOK 7 (15, 7, 0, false) := ⟨Nat.le_of_ble_eq_true rfl, Nat.le_of_ble_eq_true rfl, (tq2 32 rfl rfl)⟩
theorem fo7_19 : fOK 7 (19, 7, 1, false) := ⟨Nat.le_of_ble_eq_true rfl, Nat.le_of_ble_eq_true rfl, (tq2 33 rfl rfl)⟩
theorem fo7_23 : fOK 7 (23, 7, 2, false) := ⟨Nat.le_of_ble_eq_true rfl, Nat.le_of_ble_eq_true rfl, (tq2 34 rfl rfl)⟩
theorem fo7_27 : fOK 7 (27, 7, 3, false) := ⟨Nat.le_of_ble_eq_true rfl, Nat.le_of_ble_eq_true rfl, (tq2 36 rfl rfl)⟩
theorem fo7_35 : fOK 7 (35, 7, 4, false) := ⟨Nat.le_of_ble_eq_true rfl, Nat.le_of_ble_eq_true rfl, (tq2 38 rfl rfl)⟩
theorem fo7_38 : fOK 7 (38, 7, 5, false) := ⟨Nat.le_of_ble_eq_true rfl, Nat.le_of_ble_eq_true rfl, (tq2 40 rfl rfl)⟩
theorem fo7_100 : fOK 7 (100, 7, 6, false) := ⟨Nat.le_of_ble_eq_true rfl, Nat.le_of_ble_eq_true rfl, (tq2 41 rfl rfl)⟩
theorem fo7_42 : fOK 7 (42, 7, 7, false) := ⟨Nat.le_of_ble_eq_true rfl, Nat.le_of_ble_eq_true rfl, (tq2 42 rfl rfl)⟩
theorem fo7_196 : fOK 7 (196, 7, 8, false) := ⟨Nat.le_of_ble_eq_true rfl, Nat.le_of_ble_eq_true rfl, (tq2 43 rfl rfl)⟩
theorem fo7_199 : fOK 7 (199, 7, 9, false) := ⟨Nat.le_of_ble_eq_true rfl, Nat.le_of_ble_eq_true rfl, (tq2 44 rfl rfl)⟩
theorem fo7_9 : fOK 7 (9, 7, 10, false) := ⟨Nat.le_of_ble_eq_true rfl, Nat.le_of_ble_eq_true rfl, (tq2 45 rfl rfl)⟩
theorem fo7_193 : fOK 7 (193, 7, 11, false) := ⟨Nat.le_of_ble_eq_true rfl, Nat.le_of_ble_eq_true rfl, (tq2 46 rfl rfl)⟩
theorem fT7_ok : ∀ x ∈ fT7, fOK 7 x := List.forall_mem_cons.mpr ⟨fo7_84, List.forall_mem_cons.mpr ⟨fo7_156, List.forall_mem_cons.mpr ⟨fo7_80, List.forall_mem_cons.mpr ⟨fo7_97, List.forall_mem_cons.mpr ⟨fo7_103, List.forall_mem_cons.mpr ⟨fo7_106, List.forall_mem_cons.mpr ⟨fo7_112, List.forall_mem_cons.mpr ⟨fo7_115, List.forall_mem_cons.mpr ⟨fo7_121, List.forall_mem_cons.mpr ⟨fo7_124, List.forall_mem_cons.mpr ⟨fo7_134, List.forall_mem_cons.mpr ⟨fo7_137, List.forall_mem_cons.mpr ⟨fo7_140, List.forall_mem_cons.mpr ⟨fo7_143, List.forall_mem_cons.mpr ⟨fo7_146, List.forall_mem_cons.mpr ⟨fo7_165, List.forall_mem_cons.mpr ⟨fo7_178, List.forall_mem_cons.mpr ⟨fo7_181, List.forall_mem_cons.mpr ⟨fo7_149, List.forall_mem_cons.mpr ⟨fo7_153, List.forall_mem_cons.mpr ⟨fo7_51, List.forall_mem_cons.mpr ⟨fo7_77, List.forall_mem_cons.mpr ⟨fo7_187, List.forall_mem_cons.mpr ⟨fo7_171, List.forall_mem_cons.mpr ⟨fo7_15, List.forall_mem_cons.mpr ⟨fo7_19, List.forall_mem_cons.mpr ⟨fo7_23, List.forall_mem_cons.mpr ⟨fo7_27, List.forall_mem_cons.mpr ⟨fo7_35, List.forall_mem_cons.mpr ⟨fo7_38, List.forall_mem_cons.mpr ⟨fo7_100, List.forall_mem_cons.mpr ⟨fo7_42, List.forall_mem_cons.mpr ⟨fo7_196, List.forall_mem_cons.mpr ⟨fo7_199, List.forall_mem_cons.mpr ⟨fo7_9, List.forall_mem_cons.mpr ⟨fo7_193, (fun _ h => absurd h List.not_mem_nil)⟩⟩⟩⟩⟩⟩⟩⟩⟩⟩⟩⟩⟩⟩⟩⟩⟩⟩⟩⟩⟩⟩⟩⟩⟩⟩⟩⟩⟩⟩⟩⟩⟩⟩⟩⟩
def fT8 : List (Nat × Nat × Nat × Bool) := [(28, 4, 1, true), (19, 4, 2, true), (31, 4, 11, true), (25, 4, 18, true), (9, 8, 0, false), (15, 8, 1, false)]
theorem fo8_28 : fOK 8 (28, 4, 1, true) := ⟨Nat.le_of_ble_eq_true rfl, Nat.le_of_ble_eq_true rfl, List.mem_of_getElem? (i := 55) rfl⟩
theorem fo8_19 : fOK 8 (19, 4, 2, true) := ⟨Nat.le_of_ble_eq_true rfl, Nat.le_of_ble_eq_true rfl, List.mem_of_getElem? (i := 58) rfl⟩
theorem fo8_31 : fOK 8 (31, 4, 11, true) := ⟨Nat.le_of_ble_eq_true rfl, Nat.le_of_ble_eq_true rfl, List.mem_of_getElem? (i := 75) rfl⟩
theorem fo8_25 : fOK 8 (25, 4, 18, true) := ⟨Nat.le_of_ble_eq_true rfl, Nat.le_of_ble_eq_true rfl, List.mem_of_getElem? (i := 83) rfl⟩
theorem fo8_9 : fOK 8 (9, 8, 0, false) := ⟨Nat.le_of_ble_eq_true rfl, Nat.le_of_ble_eq_true rfl, (tq2 174 rfl rfl)⟩
theorem fo8_15 : fOK 8 (15, 8, 1, false) := ⟨Nat.le_of_ble_eq_true rfl, Nat.le_of_ble_eq_true rfl, (tq2 175 rfl rfl)⟩
theorem fT8_ok : ∀ x ∈ fT8, fOK 8 x := List.forall_mem_cons.mpr ⟨fo8_28, List.forall_mem_cons.mpr ⟨fo8_19, List.forall_mem_cons.mpr ⟨fo8_31, List.forall_mem_cons.mpr ⟨fo8_25, List.forall_mem_cons.mpr ⟨fo8_9, List.forall_mem_cons.mpr ⟨fo8_15, (fun _ h => absurd h List.not_mem_nil)⟩⟩⟩⟩⟩⟩
def fT9 : List (Nat × Nat × Nat × Bool) := [(76, 5, 1, true), (14, 9, 0, false), (20, 9, 1, false), (24, 9, 2, false), (27, 9, 3, false), (30, 9, 4, false), (33, 9, 5, false), (36, 9, 6, false), (39, 9, 7, false), (42, 9, 8, false), (45, 9, 9, false), (48, 9, 10, false), (51, 9, 11, false), (80, 9, 12, false), (54, 9, 13, false), (57, 9, 14, false), (60, 9, 15, false), (66, 9, 16, false), (70, 9, 17, false)]
theorem fo9_76 : fOK 9 (76, 5, 1, true) := ⟨Nat.le_of_ble_eq_true rfl, Nat.le_of_ble_eq_true rfl, List.mem_of_getElem? (i := 0) rfl⟩
theorem fo9_14 : fOK 9 (14, 9, 0, false) := ⟨Nat.le_of_ble_eq_true rfl, Nat.le_of_ble_eq_true rfl, (tq1 88 rfl rfl)⟩
theorem fo9_20 : fOK 9 (20, 9, 1, false) := ⟨Nat.le_of_ble_eq_true rfl, Nat.le_of_ble_eq_true rfl, (tq1 92 rfl rfl)⟩
theorem fo9_24 : fOK 9 (24, 9, 2, false) := ⟨Nat.le_of_ble_eq_true rfl, Nat.le_of_ble_eq_true rfl, (tq1 95 rfl rfl)⟩
theorem fo9_27 : fOK 9 (27, 9, 3, false) := ⟨Nat.le_of_ble_eq_true rfl, Nat.le_of_ble_eq_true rfl, (tq1 98 rfl rfl)⟩
theorem fo9_30 : fOK 9 (30, 9, 4, false) := ⟨Nat.le_of_ble_eq_true rfl, Nat.le_of_ble_eq_true rfl, (tq1 102 rfl rfl)⟩
theorem fo9_33 : fOK 9 (33, 9, 5, false) := ⟨Nat.le_of_ble_eq_true rfl, Nat.le_of_ble_eq_true rfl, (tq1 105 rfl rfl)⟩
theorem fo9_36 : fOK 9 (36, 9, 6, false) := ⟨Nat.le_of_ble_eq_true rfl, Nat.le_of_ble_eq_true rfl, (tq1 108 rfl rfl)⟩
theorem fo9_39 : fOK 9 (39, 9, 7, false) := ⟨Nat.le_of_ble_eq_true rfl, Nat.le_of_ble_eq_true rfl, (tq1 111 rfl rfl)⟩
theorem fo9_42 : fOK 9 (42, 9, 8, false) := ⟨Nat.le_of_ble_eq_true rfl, Nat.le_of_ble_eq_true rfl, (tq1 115 rfl rfl)⟩
theorem fo9_45 : fOK 9 (45, 9, 9, false) := ⟨Nat.le_of_ble_eq_true rfl, Nat.le_of_ble_eq_true rfl, (tq1 118 rfl rfl)⟩
theorem fo9_48 : fOK 9 (48, 9, 10, false) := ⟨Nat.le_of_ble_eq_true rfl, Nat.le_of_ble_eq_true rfl, (tq1 121 rfl rfl)⟩
theorem fo9_51 : fOK 9 (51, 9, 11, false) := ⟨Nat.le_of_ble_eq_true rfl, Nat.le_of_ble_eq_true rfl, (tq1 124 rfl rfl)⟩
theorem fo9_80 : fOK 9 (80, 9, 12, false) := ⟨Nat.le_of_ble_eq_true rfl, Nat.le_of_ble_eq_true rfl, (tq1 128 rfl rfl)⟩
theorem fo9_54 : fOK 9 (54, 9, 13, false) := ⟨Nat.le_of_ble_eq_true rfl, Nat.le_of_ble_eq_true rfl, (tq1 130 rfl rfl)⟩
theorem fo9_57 : fOK 9 (57, 9, 14, false) := ⟨Nat.le_of_ble_eq_true rfl, Nat.le_of_ble_eq_true rfl, (tq1 133 rfl rfl)⟩
theorem fo9_60 : fOK 9 (60, 9, 15, false) := ⟨Nat.le_of_ble_eq_true rfl, Nat.le_of_ble_eq_true rfl, (tq1 135 rfl rfl)⟩
theorem fo9_66 : fOK 9 (66, 9, 16, false) := ⟨Nat.le_of_ble_eq_true rfl, Nat.le_of_ble_eq_true rfl, (tq1 137 rfl rfl)⟩
theorem fo9_70 : fOK 9 (70, 9, 17, false) := ⟨Nat.le_of_ble_eq_true rfl, Nat.le_of_ble_eq_true rfl, (tq1 141 rfl rfl)⟩
theorem fT9_ok : ∀ x ∈ fT9, fOK 9 x := List.forall_mem_cons.mpr ⟨fo9_76, List.forall_mem_cons.mpr ⟨fo9_14, List.forall_mem_cons.mpr ⟨fo9_20, List.forall_mem_cons.mpr ⟨fo9_24, List.forall_mem_cons.mpr ⟨fo9_27, List.forall_mem_cons.mpr ⟨fo9_30, List.forall_mem_cons.mpr ⟨fo9_33, List.forall_mem_cons.mpr ⟨fo9_36, List.forall_mem_cons.mpr ⟨fo9_39, List.forall_mem_cons.mpr ⟨fo9_42, List.forall_mem_cons.mpr ⟨fo9_45, List.forall_mem_cons.mpr ⟨fo9_48, List.forall_mem_cons.mpr ⟨fo9_51, List.forall_mem_cons.mpr ⟨fo9_80, List.forall_mem_cons.mpr ⟨fo9_54, List.forall_mem_cons.mpr ⟨fo9_57, List.forall_mem_cons.mpr ⟨fo9_60, List.forall_mem_cons.mpr ⟨fo9_66, List.forall_mem_cons.mpr ⟨fo9_70, (fun _ h => absurd h List.not_mem_nil)⟩⟩⟩⟩⟩⟩⟩⟩⟩⟩⟩⟩⟩⟩⟩⟩⟩⟩⟩
def fT10 : List (Nat × Nat × Nat × Bool) := [(15, 10, 0, false), (9, 10, 1, false), (31, 10, 2, false), (34, 10, 3, false), (43, 10, 4, false), (40, 10, 5, false), (55, 10, 6, false), (59, 10, 7, false)]
theorem fo10_15 : fOK 10 (15, 10, 0, false) := ⟨Nat.le_of_ble_eq_true rfl, Nat.le_of_ble_eq_true rfl, (tq1 239 rfl rfl)⟩
theorem fo10_9 : fOK 10 (9, 10, 1, false) := ⟨Nat.le_of_ble_eq_true rfl, Nat.le_of_ble_eq_true rfl, (tq2 0 rfl rfl)⟩
theorem fo10_31 : fOK 10 (31, 10, 2, false) := ⟨Nat.le_of_ble_eq_true rfl, Nat.le_of_ble_eq_true rfl, (tq2 1 rfl rfl)⟩
theorem fo10_34 : fOK 10 (34, 10, 3, false) := ⟨Nat.le_of_ble_eq_true rfl, Nat.le_of_ble_eq_true rfl, (tq2 2 rfl rfl)⟩
theorem fo10_43 : fOK 10 (43, 10, 4, false) := ⟨Nat.le_of_ble_eq_true rfl, Nat.le_of_ble_eq_true rfl, (tq2 4 rfl rfl)⟩
theorem fo10_40 : fOK 10 (40, 10, 5, false) := ⟨Nat.le_of_ble_eq_true rfl, Nat.le_of_ble_eq_true rfl, (tq2 6 rfl rfl)⟩
theorem fo10_55 : fOK 10 (55, 10, 6, false) := ⟨Nat.le_of_ble_eq_true rfl, Nat.le_of_ble_eq_true rfl, (tq2 7 rfl rfl)⟩
theorem fo10_59 : fOK 10 (59, 10, 7, false) := ⟨Nat.le_of_ble_eq_true rfl, Nat.le_of_ble_eq_true rfl, (tq2 9 rfl rfl)⟩
theorem fT10_ok : ∀ x ∈ fT10, fOK 10 x := List.forall_mem_cons.mpr ⟨fo10_15, List.forall_mem_cons.mpr ⟨fo10_9, List.forall_mem_cons.mpr ⟨fo10_31, List.forall_mem_cons.mpr ⟨fo10_34, List.forall_mem_cons.mpr ⟨fo10_43, List.forall_mem_cons.mpr ⟨fo10_40, List.forall_mem_cons.mpr ⟨fo10_55, List.forall_mem_cons.mpr ⟨fo10_59, (fun _ h => absurd h List.not_mem_nil)⟩⟩⟩⟩⟩⟩⟩⟩
def fT11 : List (Nat × Nat × Nat × Bool) := [(242, 5, 1, true), (351, 2, 1, true), (141, 9, 0, true), (151, 9, 3, true), (115, 9, 4, true), (118, 9, 5, true), (283, 9, 7, true), (154, 9, 13, true), (347, 9, 16, true), (356, 9, 17, true), (135, 7, 2, true), (138, 7, 3, true), (132, 7, 4, true), (207, 4, 2, true), (372, 4, 3, true), (375, 4, 4, true), (378, 4, 5, true), (168, 4, 6, true), (169, 4, 7, true), (170, 4, 8, true), (173, 4, 9, true), (369, 4, 10, true), (176, 4, 11, true), (179, 4, 12, true), (182, 4, 13, true), (185, 4, 14, true), (317, 4, 18, true), (260, 0, 1, true), (303, 1, 4, true), (304, 1, 5, true), (279, 3, 5, true), (276, 3, 6, true), (294, 6, 2, true), (291, 6, 3, true), (9, 11, 0, false), (13, 11, 1, false), (37, 11, 2, false), (20, 11, 3, false), (24, 11, 4, false), (46, 11, 5, false), (50, 11, 6, false), (53, 11, 7, false), (57, 11, 8, false), (63, 11, 9, false), (70, 11, 10, false), (77, 11, 11, false), (86, 11, 12, false), (93, 11, 13, false), (97, 11, 14, false), (101, 11, 15, false), (104, 11, 16, false)]
theorem fo11_242 : fOK 11 (242, 5, 1, true) := ⟨Nat.le_of_ble_eq_true rfl, Nat.le_of_ble_eq_true rfl, List.mem_of_getElem? (i := 4) rfl⟩
theorem fo11_351 : fOK 11 (351, 2, 1, true) := ⟨Nat.le_of_ble_eq_true rfl, Nat.le_of_ble_eq_true rfl, List.mem_of_getElem? (i := 6) rfl⟩
theorem fo11_141 : fOK 11 (141, 9, 0, true) := ⟨Nat.le_of_ble_eq_true rfl, Nat.le_of_ble_eq_true rfl, List.mem_of_getElem? (i := 8) rfl⟩
theorem fo11_151 : fOK 11 (151, 9, 3, true) := ⟨Nat.le_of_ble_eq_true rfl, Nat.le_of_ble_eq_true rfl, List.mem_of_getElem? (i := 16) rfl⟩
theorem fo11_115 : fOK 11 (115, 9, 4, true) := ⟨Nat.le_of_ble_eq_true rfl, Nat.le_of_ble_eq_true rfl, List.mem_of_getElem? (i := 17) rfl⟩
theorem fo11_118 : fOK 11 (118, 9, 5, true) := ⟨Nat.le_of_ble_eq_true rfl, Nat.le_of_ble_eq_true rfl, List.mem_of_getElem? (i := 19) rfl⟩
theorem fo11_283 : fOK 11 (283, 9, 7, true) := ⟨Nat.le_of_ble_eq_true rfl, Nat.le_of_ble_eq_true rfl, List.mem_of_getElem? (i := 25) rfl⟩
theorem fo11_154 : fOK 11 (154, 9, 13, true) := ⟨Nat.le_of_ble_eq_true rfl, Nat.le_of_ble_eq_true rfl, List.mem_of_getElem? (i := 36) rfl⟩
theorem fo11_347 : fOK 11 (347, 9, 16, true) := ⟨Nat.le_of_ble_eq_true rfl, Nat.le_of_ble_eq_true rfl, List.mem_of_getElem? (i := 42) rfl⟩
theorem fo11_356 : fOK 11 (356, 9, 17, true) := ⟨Nat.le_of_ble_eq_true rfl, Nat.le_of_ble_eq_true rfl, List.mem_of_getElem? (i := 45) rfl⟩
theorem fo11_135 : fOK 11 (135, 7, 2, true) := ⟨Nat.le_of_ble_eq_true rfl, Nat.le_of_ble_eq_true rfl, List.mem_of_getElem? (i := 50) rfl⟩
theorem fo11_138 : fOK 11 (138, 7, 3, true) := ⟨Nat.le_of_ble_eq_true rfl, Nat.le_of_ble_eq_true rfl, List.mem_of_getElem? (i := 51) rfl⟩
theorem fo11_132 : fOK 11 (132, 7, 4, true) := ⟨Nat.le_of_ble_eq_true rfl, Nat.le_of_ble_eq_true rfl, List.mem_of_getElem? (i := 52) rfl⟩
theorem fo11_207 : fOK 11 (207, 4, 2, true) := ⟨Nat.le_of_ble_eq_true rfl, Nat.le_of_ble_eq_true rfl, List.mem_of_getElem? (i := 59) rfl⟩
theorem fo11_372 : fOK 11 (372, 4, 3, true) := ⟨Nat.le_of_ble_eq_true rfl, Nat.le_of_ble_eq_true rfl, List.mem_of_getElem? (i := 60) rfl⟩
theorem fo11_375 : fOK 11 (375, 4, 4, true) := ⟨Nat.le_of_ble_eq_true rfl, Nat.le_of_ble_eq_true rfl, List.mem_of_getElem? (i := 61) rfl⟩
theorem fo11_378 : fOK 11 (378, 4, 5, true) := ⟨Nat.le_of_ble_eq_true rfl, Nat.le_of_ble_eq_true rfl, List.mem_of_getElem? (i := 62) rfl⟩
theorem fo11_168 : fOK 11 (168, 4, 6, true) := ⟨Nat.le_of_ble_eq_true rfl, Nat.le_of_ble_eq_true rfl, List.mem_of_getElem? (i := 66) rfl⟩
theorem fo11_169 : fOK 11 (169, 4, 7, true) := ⟨Nat.le_of_ble_eq_true rfl, Nat.le_of_ble_eq_true rfl, List.mem_of_getElem? (i := 70) rfl⟩
theorem fo11_170 : fOK 11 (170, 4, 8, true) := ⟨Nat.le_of_ble_eq_true rfl, Nat.le_of_ble_eq_true rfl, List.mem_of_getElem? (i := 71) rfl⟩
theorem fo11_173 : fOK 11 (173, 4, 9, true) := ⟨Nat.le_of_ble_eq_true rfl, Nat.le_of_ble_eq_true rfl, List.mem_of_getElem? (i := 72) rfl⟩
theorem fo11_369 : fOK 11 (369, 4, 10, true) := ⟨Nat.le_of_ble_eq_true rfl, Nat.le_of_ble_eq_true rfl, List.mem_of_getElem? (i := 74) rfl⟩
theorem fo11_176 : fOK 11 (176, 4, 11, true) := ⟨Nat.le_of_ble_eq_true rfl, Nat.le_of_ble_eq_true rfl, List.mem_of_getElem? (i := 76) rfl⟩
theorem fo11_179 : fOK 11 (179, 4, 12, true) := ⟨Nat.le_of_ble_eq_true rfl, Nat.le_of_ble_eq_true rfl, List.mem_of_getElem? (i := 78) rfl⟩
theorem fo11_182 : fOK 11 (182, 4, 13, true) := ⟨Nat.le_of_ble_eq_true rfl, Nat.le_of_ble_eq_true rfl, List.mem_of_getElem? (i := 80) rfl⟩
theorem fo11_185 : fOK 11 (185, 4, 14, true) := ⟨Nat.le_of_ble_eq_true rfl, Nat.le_of_ble_eq_true rfl, List.mem_of_getElem? (i := 82) rfl⟩
theorem fo11_317 : fOK 11 (317, 4, 18, true) := ⟨Nat.le_of_ble_eq_true rfl, Nat.le_of_ble_eq_true rfl, List.mem_of_getElem? (i := 84) rfl⟩
theorem fo11_260 : fOK 11 (260, 0, 1, true) := ⟨Nat.le_of_ble_eq_true rfl, Nat.le_of_ble_eq_true rfl, List.mem_of_getElem? (i := 85) rfl⟩
theorem fo11_303 : fOK 11 (303, 1, 4, true) := ⟨Nat.le_of_ble_eq_true rfl, Nat.le_of_ble_eq_true rfl, List.mem_of_getElem? (i := 86) rfl⟩
theorem fo11_304 : fOK 11 (304, 1, 5, true) := ⟨Nat.le_of_ble_eq_true rfl, Nat.le_of_ble_eq_true rfl, List.mem_of_getElem? (i := 87) rfl⟩
theorem fo11_279 : fOK 11 (279, 3, 5, true) := ⟨Nat.le_of_ble_eq_true rfl, Nat.le_of_ble_eq_true rfl, List.mem_of_getElem? (i := 88) rfl⟩
theorem fo11_276 : fOK 11 (276, 3, 6, true) := ⟨Nat.le_of_ble_eq_true rfl, Nat.le_of_ble_eq_true rfl, List.mem_of_getElem? (i := 89) rfl⟩
theorem fo11_294 : fOK 11 (294, 6, 2, true) := ⟨Nat.le_of_ble_eq_true rfl, Nat.le_of_ble_eq_true rfl, List.mem_of_getElem? (i := 90) rfl⟩
theorem fo11_291 : fOK 11 (291, 6, 3, true) := ⟨Nat.le_of_ble_eq_true rfl, Nat.le_of_ble_eq_true rfl, List.mem_of_getElem? (i := 91) rfl⟩
theorem fo11_9 : fOK 11 (9, 11, 0, false) := ⟨Nat.le_of_ble_eq_true rfl, Nat.le_of_ble_eq_true rfl, (tq3 59 rfl rfl)⟩
theorem fo11_13 : fOK 11 (13, 11, 1, false) := ⟨Nat.le_of_ble_eq_true rfl, Nat.le_of_ble_eq_true rfl, (tq3 60 rfl rfl)⟩
theorem fo11_37 : fOK 11 (37, 11, 2, false) := ⟨Nat.le_of_ble_eq_true rfl, Nat.le_of_ble_eq_true rfl, (tq3 61 rfl rfl)⟩
theorem fo11_20 : fOK 11 (20, 11, 3, false) := ⟨Nat.le_of_ble_eq_true rfl, Nat.le_of_ble_eq_true rfl, (tq3 62 rfl rfl)⟩
theorem fo11_24 : fOK 11 (24, 11, 4, false) := ⟨Nat.le_of_ble_eq_true rfl, Nat.le_of_ble_eq_true rfl, (tq3 63 rfl rfl)⟩
theorem fo11_46 : fOK 11 (46, 11, 5, false) := ⟨Nat.le_of_ble_eq_true rfl, Nat.le_of_ble_eq_true rfl, (tq3 64 rfl rfl)⟩
theorem fo11_50 : fOK 11 (50, 11, 6, false) := ⟨Nat.le_of_ble_eq_true rfl, Nat.le_of_ble_eq_true rfl, (tq3 65 rfl rfl)⟩
theorem fo11_53 : fOK 11 (53, 11, 7, false) := ⟨Nat.le_of_ble_eq_true rfl, Nat.le_of_ble_eq_true rfl, (tq3 66 rfl rfl)⟩
theorem fo11_57 : fOK 11 (57, 11, 8, false) := ⟨Nat.le_of_ble_eq_true rfl, Nat.le_of_ble_eq_true rfl, (tq3 67 rfl rfl)⟩
theorem fo11_63 : fOK 11 (63, 11, 9, false) := ⟨Nat.le_of_ble_eq_true rfl, Nat.le_of_ble_eq_true rfl, (tq3 68 rfl rfl)⟩
theorem fo11_70 : fOK 11 (70, 11, 10, false) := ⟨Nat.le_of_ble_eq_true rfl, Nat.le_of_ble_eq_true rfl, (tq3 69 rfl rfl)⟩
theorem fo11_77 : fOK 11 (77, 11, 11, false) := ⟨Nat.le_of_ble_eq_true rfl, Nat.le_of_ble_eq_true rfl, (tq3 70 rfl rfl)⟩
theorem fo11_86 : fOK 11 (86, 11, 12, false) := ⟨Nat.le_of_ble_eq_true rfl, Nat.le_of_ble_eq_true rfl, (tq3 71 rfl rfl)⟩
theorem fo11_93 : fOK 11 (93, 11, 13, false) := ⟨Nat.le_of_ble_eq_true rfl, Nat.le_of_ble_eq_true rfl, (tq3 72 rfl rfl)⟩
theorem fo11_97 : fOK 11 (97, 11, 14, false) := ⟨Nat.le_of_ble_eq_true rfl, Nat.le_of_ble_eq_true rfl, (tq3 73 rfl rfl)⟩
theorem fo11_101 : fOK 11 (101, 11, 15, false) := ⟨Nat.le_of_ble_eq_true rfl, Nat.le_of_ble_eq_true rfl, (tq3 74 rfl rfl)⟩
theorem fo11_104 : fOK 11 (104, 11, 16, false) := ⟨Nat.le_of_ble_eq_true rfl, Nat.le_of_ble_eq_true rfl, (tq3 75 rfl rfl)⟩
theorem fT11_ok : ∀ x ∈ fT11, fOK 11 x := List.forall_mem_cons.mpr ⟨fo11_242, List.forall_mem_cons.mpr ⟨fo11_351, List.forall_mem_cons.mpr ⟨fo11_141, List.forall_mem_cons.mpr ⟨fo11_151, List.forall_mem_cons.mpr ⟨fo11_115, List.forall_mem_cons.mpr ⟨fo11_118, List.forall_mem_cons.mpr ⟨fo11_283, List.forall_mem_cons.mpr ⟨fo11_154, List.forall_mem_cons.mpr ⟨fo11_347, List.forall_mem_cons.mpr ⟨fo11_356, List.forall_mem_cons.mpr ⟨fo11_135, List.forall_mem_cons.mpr ⟨fo11_138, List.forall_mem_cons.mpr ⟨fo11_132, List.forall_mem_cons.mpr ⟨fo11_207, List.forall_mem_cons.mpr ⟨fo11_372, List.forall_mem_cons.mpr ⟨fo11_375, List.forall_mem_cons.mpr ⟨fo11_378, List.forall_mem_cons.mpr ⟨fo11_168, List.forall_mem_cons.mpr ⟨fo11_169, List.forall_mem_cons.mpr ⟨fo11_170, List.forall_mem_cons.mpr ⟨fo11_173, List.forall_mem_cons.mpr ⟨fo11_369, List.forall_mem_cons.mpr ⟨fo11_176, List.forall_mem_cons.mpr ⟨fo11_179, List.forall_mem_cons.mpr ⟨fo11_182, List.forall_mem_cons.mpr ⟨fo11_185, List.forall_mem_cons.mpr ⟨fo11_317, List.forall_mem_cons.mpr ⟨fo11_260, List.forall_mem_cons.mpr ⟨fo11_303, List.forall_mem_cons.mpr ⟨fo11_304, List.forall_mem_cons.mpr ⟨fo11_279, List.forall_mem_cons.mpr ⟨fo11_276, List.forall_mem_cons.mpr ⟨fo11_294, List.forall_mem_cons.mpr ⟨fo11_291, List.forall_mem_cons.mpr ⟨fo11_9, List.forall_mem_cons.mpr ⟨fo11_13, List.forall_mem_cons.mpr ⟨fo11_37, List.forall_mem_cons.mpr ⟨fo11_20, List.forall_mem_cons.mpr ⟨fo11_24, List.forall_mem_cons.mpr ⟨fo11_46, List.forall_mem_cons.mpr ⟨fo11_50, List.forall_mem_cons.mpr ⟨fo11_53, List.forall_mem_cons.mpr ⟨fo11_57, List.forall_mem_cons.mpr ⟨fo11_63, List.forall_mem_cons.mpr ⟨fo11_70, List.forall_mem_cons.mpr ⟨fo11_77, List.forall_mem_cons.mpr ⟨fo11_86, List.forall_mem_cons.mpr ⟨fo11_93, List.forall_mem_cons.mpr ⟨fo11_97, List.forall_mem_cons.mpr ⟨fo11_101, List.forall_mem_cons.mpr ⟨fo11_104, (fun _ h => absurd h List.not_mem_nil)⟩⟩⟩⟩⟩⟩⟩⟩⟩⟩⟩⟩⟩⟩⟩⟩⟩⟩⟩⟩⟩⟩⟩⟩⟩⟩⟩⟩⟩⟩⟩⟩⟩⟩⟩⟩⟩⟩⟩⟩⟩⟩⟩⟩⟩⟩⟩⟩⟩⟩⟩
def fT12 : List (Nat × Nat × Nat × Bool) := [(7, 12, 0, false), (169, 12, 1, false), (166, 12, 2, false), (13, 12, 3, false), (172, 12, 4, false), (16, 12, 5, false), (178, 12, 6, false), (181, 12, 7, false), (184, 12, 8, false), (195, 12, 9, false), (175, 12, 10, false), (214, 12, 11, false), (249, 12, 12, false), (252, 12, 13, false), (255, 12, 14, false), (258, 12, 15, false), (261, 12, 16, false), (227, 12, 17, false), (230, 12, 18, false), (233, 12, 19, false), (236, 12, 20, false), (242, 12, 21, false), (245, 12, 22, false), (20, 12, 23, false), (23, 12, 24, false), (26, 12, 25, false), (29, 12, 26, false), (32, 12, 27, false), (35, 12, 28, false), (38, 12, 29, false), (41, 12, 30, false), (44, 12, 31, false), (47, 12, 32, false), (50, 12, 33, false), (53, 12, 34, false), (56, 12, 35, false), (59, 12, 36, false), (62, 12, 37, false), (65, 12, 38, false), (69, 12, 39, false), (72, 12, 40, false), (75, 12, 41, false), (78, 12, 42, false), (81, 12, 43, false), (84, 12, 44, false), (87, 12, 45, false), (326, 12, 46, false), (323, 12, 47, false), (341, 12, 48, false), (239, 12, 49, false), (356, 12, 50, false), (347, 12, 51, false), (90, 12, 52, false), (94, 12, 53, false), (368, 12, 54, false), (97, 12, 55, false), (100, 12, 56, false), (103, 12, 57, false), (106, 12, 58, false), (109, 12, 59, false), (112, 12, 60, false), (387, 12, 61, false), (390, 12, 62, false), (393, 12, 63, false), (396, 12, 64, false), (399, 12, 65, false), (115, 12, 66, false), (118, 12, 67, false), (121, 12, 68, false), (422, 12, 69, false), (275, 12, 70, false), (124, 12, 71, false), (127, 12, 72, false), (278, 12, 73, false), (130, 12, 74, false), (133, 12, 75, false), (136, 12, 76, false), (139, 12, 77, false), (142, 12, 78, false), (281, 12, 79, false), (145, 12, 80, false), (148, 12, 81, false), (151, 12, 82, false), (154, 12, 83, false), (284, 12, 84, false), (547, 12, 85, false), (157, 12, 86, false)]
theorem fo12_7 : fOK 12 (7, 12, 0, false) := ⟨Nat.le_of_ble_eq_true rfl, Nat.le_of_ble_eq_true rfl, (tq6 68 rfl rfl)⟩
theorem fo12_169 : fOK 12 (169, 12, 1, false) := ⟨Nat.le_of_ble_eq_true rfl, Nat.le_of_ble_eq_true rfl, (tq6 69 rfl rfl)⟩
theorem fo12_166 : fOK 12 (166, 12, 2, false) := ⟨Nat.le_of_ble_eq_true rfl, Nat.le_of_ble_eq_true rfl, (tq6 70 rfl rfl)⟩
theorem fo12_13 : fOK 12 (13, 12, 3, false) := ⟨Nat.le_of_ble_eq_true rfl, Nat.le_of_ble_eq_true rfl, (tq6 71 rfl rfl)⟩
theorem fo12_172 : fOK 12 (172, 12, 4, false) := ⟨Nat.le_of_ble_eq_true rfl, Nat.le_of_ble_eq_true rfl, (tq6 72 rfl rfl)⟩
theorem fo12_16 : fOK 12 (16, 12, 5, false) := ⟨Nat.le_of_ble_eq_true rfl, Nat.le_of_ble_eq_true rfl, (tq6 73 rfl rfl)⟩
theorem fo12_178 : fOK 12 (178, 12, 6, false) := ⟨Nat.le_of_ble_eq_true rfl, Nat.le_of_ble_eq_true rfl, (tq6 74 rfl rfl)⟩
theorem fo12_181 : fOK 12 (181, 12, 7, false) := ⟨Nat.le_of_ble_eq_true rfl, Nat.le_of_ble_eq_true rfl, (tq6 75 rfl rfl)⟩
theorem fo12_184 : fOK 12 (184, 12, 8, false) := ⟨Nat.le_of_ble_eq_true rfl, Nat.le_of_ble_eq_true rfl, (tq6 76 rfl rfl)⟩
theorem fo12_195 : fOK 12 (195, 12, 9, false) := ⟨Nat.le_of_ble_eq_true rfl, Nat.le_of_ble_eq_true rfl, (tq6 77 rfl rfl)⟩
theorem fo12_175 : fOK 12 (175, 12, 10, false) := ⟨Nat.le_of_ble_eq_true rfl, Nat.le_of_ble_eq_true rfl, (tq6 78 rfl rfl)⟩
theorem fo12_214 : fOK 12 (214, 12, 11, false) := ⟨Nat.le_of_ble_eq_true rfl, Nat.le_of_ble_eq_true rfl, (tq6 79 rfl rfl)⟩
theorem fo12_249 : fOK 12 (249, 12, 12, false) := ⟨Nat.le_of_ble_eq_true rfl, Nat.le_of_ble_eq_true rfl, (tq6 80 rfl rfl)⟩
theorem fo12_252 : fOK 12 (252, 12, 13, false) := ⟨Nat.le_of_ble_eq_true rfl, Nat.le_of_ble_eq_true rfl, (tq6 81 rfl rfl)⟩
theorem fo12_255 : fOK 12 (255, 12, 14, false) := ⟨Nat.le_of_ble_eq_true rfl, Nat.le_of_ble_eq_true rfl, (tq6 82 rfl rfl)⟩
theorem fo12_258 : fOK 12 (258, 12, 15, false) := ⟨Nat.le_of_ble_eq_true rfl, Nat.le_of_ble_eq_true rfl, (tq6 83 rfl rfl)⟩
theorem fo12_261 : fOK 12 (261, 12, 16, false) := ⟨Nat.le_of_ble_eq_true rfl, Nat.le_of_ble_eq_true rfl, (tq6 84 rfl rfl)⟩
theorem fo12_227 : fOK 12 (227, 12, 17, false) := ⟨Nat.le_of_ble_eq_true rfl, Nat.le_of_ble_eq_true rfl, (tq6 85 rfl rfl)⟩
theorem fo12_230 : fOK 12 (230, 12, 18, false) := ⟨Nat.le_of_ble_eq_true rfl, Nat.le_of_ble_eq_true rfl, (tq6 86 rfl rfl)⟩
theorem fo12_233 : fOK 12 (233, 12, 19, false) := ⟨Nat.le_of_ble_eq_true rfl, Nat.le_of_ble_eq_true rfl, (tq6 87 rfl rfl)⟩
theorem fo12_236 : fOK 12 (236, 12, 20, false) := ⟨Nat.le_of_ble_eq_true rfl, Nat.le_of_ble_eq_true rfl, (tq6 88 rfl rfl)⟩
theorem fo12_242 : fOK 12 (242, 12, 21, false) := ⟨Nat.le_of_ble_eq_true rfl, Nat.le_of_ble_eq_true rfl, (tq6 89 rfl rfl)⟩
theorem fo12_245 : fOK 12 (245, 12, 22, false) := ⟨Nat.le_of_ble_eq_true rfl, Nat.le_of_ble_eq_true rfl, (tq6 90 rfl rfl)⟩
theorem fo12_20 : fOK 12 (20, 12, 23, false) := ⟨Nat.le_of_ble_eq_true rfl, Nat.le_of_ble_eq_true rfl, (tq6 91 rfl rfl)⟩
theorem fo12_23 : fOK 12 (23, 12, 24, false) := ⟨Nat.le_of_ble_eq_true rfl, Nat.le_of_ble_eq_true rfl, (tq6 92 rfl rfl)⟩
theorem fo12_26 : fOK 12 (26, 12, 25, false) := ⟨Nat.le_of_ble_eq_true rfl, Nat.le_of_ble_eq_true rfl, (tq6 93 rfl rfl)⟩
theorem fo12_29 : fOK 12 (29, 12, 26, false) := ⟨Nat.le_of_ble_eq_true rfl, Nat.le_of_ble_eq_true rfl, (tq6 94 rfl rfl)⟩
theorem fo12_32 : fOK 12 (32, 12, 27, false) := ⟨Nat.le_of_ble_eq_true rfl, Nat.le_of_ble_eq_true rfl, (tq6 95 rfl rfl)⟩
theorem fo12_35 : fOK 12 (35, 12, 28, false) := ⟨Nat.le_of_ble_eq_true rfl, Nat.le_of_ble_eq_true rfl, (tq6 96 rfl rfl)⟩
theorem fo12_38 : fOK 12 (38, 12, 29, false) := ⟨Nat.le_of_ble_eq_true rfl, Nat.le_of_ble_eq_true rfl, (tq6 97 rfl rfl)⟩
theorem fo12_41 : fOK 12 (41, 12, 30, false) := ⟨Nat.le_of_ble_eq_true rfl, Nat.le_of_ble_eq_true rfl, (tq6 98 rfl rfl)⟩
theorem fo12_44 : fOK 12 (44, 12, 31, false) := ⟨Nat.le_of_ble_eq_true rfl, Nat.le_of_ble_eq_true rfl, (tq6 99 rfl rfl)⟩
theorem fo12_47 : fOK 12 (47, 12, 32, false) := ⟨Nat.le_of_ble_eq_true rfl, Nat.le_of_ble_eq_true rfl, (tq6 100 rfl rfl)⟩
theorem fo12_50 : fOK 12 (50, 12, 33, false) := ⟨Nat.le_of_ble_eq_true rfl, Nat.le_of_ble_eq_true rfl, (tq6 101 rfl rfl)⟩
theorem fo12_53 : fOK 12 (53, 12, 34, false) := ⟨Nat.le_of_ble_eq_true rfl, Nat.le_of_ble_eq_true rfl, (tq6 102 rfl rfl)⟩
theorem fo12_56 : fOK 12 (56, 12, 35, false) := ⟨Nat.le_of_ble_eq_true rfl, Nat.le_of_ble_eq_true rfl, (tq6 103 rfl rfl)⟩
theorem fo12_59 : fOK 12 (59, 12, 36, false) := ⟨Nat.le_of_ble_eq_true rfl, Nat.le_of_ble_eq_true rfl, (tq6 104 rfl rfl)⟩
theorem fo12_62 : fOK 12 (62, 12, 37, false) := ⟨Nat.le_of_ble_eq_true rfl, Nat.le_of_ble_eq_true rfl, (tq6 105 rfl rfl)⟩
theorem fo12_65 : fOK 12 (65, 12, 38, false) := ⟨Nat.le_of_ble_eq_true rfl, Nat.le_of_ble_eq_true rfl, (tq6 106 rfl rfl)⟩
theorem fo12_69 : fOK 12 (69, 12, 39, false) := ⟨Nat.le_of_ble_eq_true rfl, Nat.le_of_ble_eq_true rfl, (tq6 107 rfl rfl)⟩
theorem fo12_72 : fOK 12 (72, 12, 40, false) := ⟨Nat.le_of_ble_eq_true rfl, Nat.le_of_ble_eq_true rfl, (tq6 108 rfl rfl)⟩
theorem fo12_75 : fOK 12 (75, 12, 41, false) := ⟨Nat.le_of_ble_eq_true rfl, Nat.le_of_ble_eq_true rfl, (tq6 109 rfl rfl)⟩
theorem fo12_78 : fOK 12 (78, 12, 42, false) := ⟨Nat.le_of_ble_eq_true rfl, Nat.le_of_ble_eq_true rfl, (tq6 110 rfl rfl)⟩
theorem fo12_81 : fOK 12 (81, 12, 43, false) := ⟨Nat.le_of_ble_eq_true rfl, Nat.le_of_ble_eq_true rfl, (tq6 111 rfl rfl)⟩
theorem fo12_84 : fOK 12 (84, 12, 44, false) := ⟨Nat.le_of_ble_eq_true rfl, Nat.le_of_ble_eq_true rfl, (tq6 112 rfl rfl)⟩
theorem fo12_87 : fOK 12 (87, 12, 45, false) := ⟨Nat.le_of_ble_eq_true rfl, Nat.le_of_ble_eq_true rfl, (tq6 113 rfl rfl)⟩
theorem fo12_326 : fOK 12 (326, 12, 46, false) := ⟨Nat.le_of_ble_eq_true rfl, Nat.le_of_ble_eq_true rfl, (tq6 114 rfl rfl)⟩
theorem fo12_323 : fOK 12 (323, 12, 47, false) := ⟨Nat.le_of_ble_eq_true rfl, Nat.le_of_ble_eq_true rfl, (tq6 115 rfl rfl)⟩
theorem fo12_341 : fOK 12 (341, 12, 48, false) := ⟨Nat.le_of_ble_eq_true rfl, Nat.le_of_ble_eq_true rfl, (tq6 116 rfl rfl)⟩
theorem fo12_239 : fOK 12 (239, 12, 49, false) := ⟨Nat.le_of_ble_eq_true rfl, Nat.le_of_ble_eq_true rfl, (tq6 117 rfl rfl)⟩
theorem fo12_356 : fOK 12 (356, 12, 50, false) := ⟨Nat.le_of_ble_eq_true rfl, Nat.le_of_ble_eq_true rfl, (tq6 118 rfl rfl)⟩
theorem fo12_347 : fOK 12 (347, 12, 51, false) := ⟨Nat.le_of_ble_eq_true rfl, Nat.le_of_ble_eq_true rfl, (tq6 119 rfl rfl)⟩
theorem fo12_90 : fOK 12 (90, 12, 52, false) := ⟨Nat.le_of_ble_eq_true rfl, Nat.le_of_ble_eq_true rfl, (tq6 120 rfl rfl)⟩
theorem fo12_94 : fOK 12 (94, 12, 53, false) := ⟨Nat.le_of_ble_eq_true rfl, Nat.le_of_ble_eq_true rfl, (tq6 121 rfl rfl)⟩
theorem fo12_368 : fOK 12 (368, 12, 54, false) := ⟨Nat.le_of_ble_eq_true rfl, Nat.le_of_ble_eq_true rfl, (tq6 122 rfl rfl)⟩
theorem fo12_97 : fOK 12 (97, 12, 55, false) := ⟨Nat.le_of_ble_eq_true rfl, Nat.le_of_ble_eq_true rfl, (tq6 123 rfl rfl)⟩
theorem fo12_100 : fOK 12 (100, 12, 56, false) := ⟨Nat.le_of_ble_eq_true rfl, Nat.le_of_ble_eq_true rfl, (tq6 124 rfl rfl)⟩
theorem fo12_103 : fOK 12 (103, 12, 57, false) := ⟨Nat.le_of_ble_eq_true rfl, Nat.le_of_ble_eq_true rfl, (tq6 125 rfl rfl)⟩
theorem fo12_106 : fOK 12 (106, 12, 58, false) := ⟨Nat.le_of_ble_eq_true rfl, Nat.le_of_ble_eq_true rfl, (tq6 126 rfl rfl)⟩
theorem fo12_109 : fOK 12 (109, 12, 59, false) := ⟨Nat.le_of_ble_eq_true rfl, Nat.le_of_ble_eq_true rfl, (tq6 127 rfl rfl)⟩
theorem fo12_112 : fOK 12 (112, 12, 60, false) := ⟨Nat.le_of_ble_eq_true rfl, Nat.le_of_ble_eq_true rfl, (tq6 128 rfl rfl)⟩
theorem fo12_387 : fOK 12 (387, 12, 61, false) := ⟨Nat.le_of_ble_eq_true rfl, Nat.le_of_ble_eq_true rfl, (tq6 129 rfl rfl)⟩
theorem fo12_390 : fOK 12 (390, 12, 62, false) := ⟨Nat.le_of_ble_eq_true rfl, Nat.le_of_ble_eq_true rfl, (tq6 130 rfl rfl)⟩
theorem fo12_393 : fOK 12 (393, 12, 63, false) := ⟨Nat.le_of_ble_eq_true rfl, Nat.le_of_ble_eq_true rfl, (tq6 131 rfl rfl)⟩
theorem fo12_396 : fOK 12 (396, 12, 64, false) := ⟨Nat.le_of_ble_eq_true rfl, Nat.le_of_ble_eq_true rfl, (tq6 132 rfl rfl)⟩
theorem fo12_399 : fOK 12 (399, 12, 65, false) := ⟨Nat.le_of_ble_eq_true rfl, Nat.le_of_ble_eq_true rfl, (tq6 133 rfl rfl)⟩
theorem fo12_115 : fOK 12 (115, 12, 66, false) := ⟨Nat.le_of_ble_eq_true rfl, Nat.le_of_ble_eq_true rfl, (tq6 134 rfl rfl)⟩
theorem fo12_118 : fOK 12 (118, 12, 67, false) := ⟨Nat.le_of_ble_eq_true rfl, Nat.le_of_ble_eq_true rfl, (tq6 135 rfl rfl)⟩
theorem fo12_121 : fOK 12 (121, 12, 68, false) := ⟨Nat.le_of_ble_eq_true rfl, Nat.le_of_ble_eq_true rfl, (tq6 136 rfl rfl)⟩
theorem fo12_422 : fOK 12 (422, 12, 69, false) := ⟨Nat.le_of_ble_eq_true rfl, Nat.le_of_ble_eq_true rfl, (tq6 137 rfl rfl)⟩
theorem fo12_275 : fOK 12 (275, 12, 70, false) := ⟨Nat.le_of_ble_eq_true rfl, Nat.le_of_ble_eq_true rfl, (tq6 138 rfl rfl)⟩
theorem fo12_124 : fOK 12 (124, 12, 71, false) := ⟨Nat.le_of_ble_eq_true rfl, Nat.le_of_ble_eq_true rfl, (tq6 139 rfl rfl)⟩
theorem fo12_127 : fOK 12 (127, 12, 72, false) := ⟨Nat.le_of_ble_eq_true rfl, Nat.le_of_ble_eq_true rfl, (tq6 140 rfl rfl)⟩
theorem fo12_278 : fOK 12 (278, 12, 73, false) := ⟨Nat.le_of_ble_eq_true rfl, Nat.le_of_ble_eq_true rfl, (tq6 141 rfl rfl)⟩
theorem fo12_130 : fOK 12 (130, 12, 74, false) := ⟨Nat.le_of_ble_eq_true rfl, Nat.le_of_ble_eq_true rfl, (tq6 142 rfl rfl)⟩
theorem fo12_133 : fOK 12 (133, 12, 75, false) := ⟨Nat.le_of_ble_eq_true rfl, Nat.le_of_ble_eq_true rfl, (tq6 143 rfl rfl)⟩
theorem fo12_136 : fOK 12 (136, 12, 76, false) := ⟨Nat.le_of_ble_eq_true rfl, Nat.le_of_ble_eq_true rfl, (tq6 144 rfl rfl)⟩
theorem fo12_139 : fOK 12 (139, 12, 77, false) := ⟨Nat.le_of_ble_eq_true rfl, Nat.le_of_ble_eq_true rfl, (tq6 145 rfl rfl)⟩
theorem fo12_142 : fOK 12 (142, 12, 78, false) := ⟨Nat.le_of_ble_eq_true rfl, Nat.le_of_ble_eq_true rfl, (tq6 146 rfl rfl)⟩
theorem fo12_281 : fOK 12 (281, 12, 79, false) := ⟨Nat.le_of_ble_eq_true rfl, Nat.le_of_ble_eq_true rfl, (tq6 147 rfl rfl)⟩
theorem fo12_145 : fOK 12 (145, 12, 80, false) := ⟨Nat.le_of_ble_eq_true rfl, Nat.le_of_ble_eq_true rfl, (tq6 148 rfl rfl)⟩
theorem fo12_148 : fOK 12 (148, 12, 81, false) := ⟨Nat.le_of_ble_eq_true rfl, Nat.le_of_ble_eq_true rfl, (tq6 149 rfl rfl)⟩
theorem fo12_151 : fOK 12 (151, 12, 82, false) := ⟨Nat.le_of_ble_eq_true rfl, Nat.le_of_ble_eq_true rfl, (tq6 150 rfl rfl)⟩
theorem fo12_154 : fOK 12 (154, 12, 83, false) := ⟨Nat.le_of_ble_eq_true rfl, Nat.le_of_ble_eq_true rfl, (tq6 151 rfl rfl)⟩
theorem fo12_284 : fOK 12 (284, 12, 84, false) := ⟨Nat.le_of_ble_eq_true rfl, Nat.le_of_ble_eq_true rfl, (tq6 152 rfl rfl)⟩
theorem fo12_547 : fOK 12 (547, 12, 85, false) := ⟨Nat.le_of_ble_eq_true rfl, Nat.le_of_ble_eq_true rfl, (tq6 153 rfl rfl)⟩
theorem fo12_157 : fOK 12 (157, 12, 86, false) := ⟨Nat.le_of_ble_eq_true rfl, Nat.le_of_ble_eq_true rfl, (tq6 154 rfl rfl)⟩
theorem fT12_ok : ∀ x ∈ fT12, fOK 12 x := List.forall_mem_cons.mpr ⟨fo12_7, List.forall_mem_cons.mpr ⟨fo12_169, List.forall_mem_cons.mpr ⟨fo12_166, List.forall_mem_cons.mpr ⟨fo12_13, List.forall_mem_cons.mpr ⟨fo12_172, List.forall_mem_cons.mpr ⟨fo12_16, List.forall_mem_cons.mpr ⟨fo12_178, List.forall_mem_cons.mpr ⟨fo12_181, List.forall_mem_cons.mpr ⟨fo12_184, List.forall_mem_cons.mpr ⟨fo12_195, List.forall_mem_cons.mpr ⟨fo12_175, List.forall_mem_cons.mpr ⟨fo12_214, List.forall_mem_cons.mpr ⟨fo12_249, List.forall_mem_cons.mpr ⟨fo12_252, List.forall_mem_cons.mpr ⟨fo12_255, List.forall_mem_cons.mpr ⟨fo12_258, List.forall_mem_cons.mpr ⟨fo12_261, List.forall_mem_cons.mpr ⟨fo12_227, List.forall_mem_cons.mpr ⟨fo12_230, List.forall_mem_cons.mpr ⟨fo12_233, List.forall_mem_cons.mpr ⟨fo12_236, List.forall_mem_cons.mpr ⟨fo12_242, List.forall_mem_cons.mpr ⟨fo12_245, List.forall_mem_cons.mpr ⟨fo12_20, List.forall_mem_cons.mpr ⟨fo12_23, List.forall_mem_cons.mpr ⟨fo12_26, List.forall_mem_cons.mpr ⟨fo12_29, List.forall_mem_cons.mpr ⟨fo12_32, List.forall_mem_cons.mpr ⟨fo12_35, List.forall_mem_cons.mpr ⟨fo12_38, List.forall_mem_cons.mpr ⟨fo12_41, List.forall_mem_cons.mpr ⟨fo12_44, List.forall_mem_cons.mpr ⟨fo12_47, List.forall_mem_cons.mpr ⟨fo12_50, List.forall_mem_cons.mpr ⟨fo12_53, List.forall_mem_cons.mpr ⟨fo12_56, List.forall_mem_cons.mpr ⟨fo12_59, List.forall_mem_cons.mpr ⟨fo12_62, List.forall_mem_cons.mpr ⟨fo12_65, List.forall_mem_cons.mpr ⟨fo12_69, List.forall_mem_cons.mpr ⟨fo12_72, List.forall_mem_cons.mpr ⟨fo12_75, List.forall_mem_cons.mpr ⟨fo12_78, List.forall_mem_cons.mpr ⟨fo12_81, List.forall_mem_cons.mpr ⟨fo12_84, List.forall_mem_cons.mpr ⟨fo12_87, List.forall_mem_cons.mpr ⟨fo12_326, List.forall_mem_cons.mpr ⟨fo12_323, List.forall_mem_cons.mpr ⟨fo12_341, List.forall_mem_cons.mpr ⟨fo12_239, List.forall_mem_cons.mpr ⟨fo12_356, List.forall_mem_cons.mpr ⟨fo12_347, List.forall_mem_cons.mpr ⟨fo12_90, List.forall_mem_cons.mpr ⟨fo12_94, List.forall_mem_cons.mpr ⟨fo12_368, List.forall_mem_cons.mpr ⟨fo12_97, List.forall_mem_cons.mpr ⟨fo12_100, List.forall_mem_cons.mpr ⟨fo12_103, List.forall_mem_cons.mpr ⟨fo12_106, List.forall_mem_cons.mpr ⟨fo12_109, List.forall_mem_cons.mpr ⟨fo12_112, List.forall_mem_cons.mpr ⟨fo12_387, List.forall_mem_cons.mpr ⟨fo12_390, List.forall_mem_cons.mpr ⟨fo12_393, List.forall_mem_cons.mpr ⟨fo12_396, List.forall_mem_cons.mpr ⟨fo12_399, List.forall_mem_cons.mpr ⟨fo12_115, List.forall_mem_cons.mpr ⟨fo12_118, List.forall_mem_cons.mpr ⟨fo12_121, List.forall_mem_cons.mpr ⟨fo12_422, List.forall_mem_cons.mpr ⟨fo12_275, List.forall_mem_cons.mpr ⟨fo12_124, List.forall_mem_cons.mpr ⟨fo12_127, List.forall_mem_cons.mpr ⟨fo12_278, List.forall_mem_cons.mpr ⟨fo12_130, List.forall_mem_cons.mpr ⟨fo12_133, List.forall_mem_cons.mpr ⟨fo12_136, List.forall_mem_cons.mpr ⟨fo12_139, List.forall_mem_cons.mpr ⟨fo12_142, List.forall_mem_cons.mpr ⟨fo12_281, List.forall_mem_cons.mpr ⟨fo12_145, List.forall_mem_cons.mpr ⟨fo12_148, List.forall_mem_cons.mpr ⟨fo12_151, List.forall_mem_cons.mpr ⟨fo12_154, List.forall_mem_cons.mpr ⟨fo12_284, List.forall_mem_cons.mpr ⟨fo12_547, List.forall_mem_cons.mpr ⟨fo12_157, (fun _ h => absurd h List.not_mem_nil)⟩⟩⟩⟩⟩⟩⟩⟩⟩⟩⟩⟩⟩⟩⟩⟩⟩⟩⟩⟩⟩⟩⟩⟩⟩⟩⟩⟩⟩⟩⟩⟩⟩⟩⟩⟩⟩⟩⟩⟩⟩⟩⟩⟩⟩⟩⟩⟩⟩⟩⟩⟩⟩⟩⟩⟩⟩⟩⟩⟩⟩⟩⟩⟩⟩⟩⟩⟩⟩⟩⟩⟩⟩⟩⟩⟩⟩⟩⟩⟩⟩⟩⟩⟩⟩⟩⟩
def fT14 : List (Nat × Nat × Nat × Bool) := []
theorem fT14_ok : ∀ x ∈ fT14, fOK 14 x := (fun _ h => absurd h List.not_mem_nil)
def fT110 : List (Nat × Nat × Nat × Bool) := []
theorem fT110_ok : ∀ x ∈ fT110, fOK 110 x := (fun _ h => absurd h List.not_mem_nil)
def fTab (o : Nat) : List (Nat × Nat × Nat × Bool) := match o with
  | 0 => fT0
  | 1 => fT1
  | 2 => fT2
  | 3 => fT3
  | 4 => fT4
  | 5 => fT5
  | 6 => fT6
  | 7 => fT7
  | 8 => fT8
  | 9 => fT9
  | 10 => fT10
  | 11 => fT11
  | 12 => fT12
  | 14 => fT14
  | 110 => fT110
  | _ => []
def fRes (o i : Nat) : Option (Nat × Nat × Bool) := (fTab o).lookup i
theorem fTab_ok (o : Nat) : ∀ x ∈ fTab o, fOK o x := by
  unfold fTab
  split
  · exact fT0_ok
  · exact fT1_ok
  · exact fT2_ok
  · exact fT3_ok
  · exact fT4_ok
  · exact fT5_ok
  · exact fT6_ok
  · exact fT7_ok
  · exact fT8_ok
  · exact fT9_ok
  · exact fT10_ok
  · exact fT11_ok
  · exact fT12_ok
  · exact fT14_ok
  · exact fT110_ok
  · exact fun _ h => absurd h List.not_mem_nil
-- (index, (callee, number of parameters, kind of call, number of its class)); kinds: 0 virtual, 1 virtual of a nest mate, 2 static, 3 static of a nest mate, 4 constructor, 5 constructor of a nest mate
def mG (M : Mth) : Prop := Cond.code M.1 M.2.1 M.2.2.1 M.2.2.2.1 ∈ gtbl ∧ Cond.initialized M.1.cls ∈ gtbl ∧ (M.1.cls ≠ "java/lang/invoke/MethodHandle" ∧ M.1.cls ≠ "java/lang/invoke/VarHandle") ∧ plainName M.1.cls = true ∧ M.1.cls = cnm M.2.2.2.2 ∧ M.2.2.1 ≤ 23
def mOK (o : Nat) (x : Nat × Mth × Nat × Nat × Nat) : Prop := mG x.2.1 ∧ (parseMethodDescriptor x.2.1.1.desc).map (fun d => d.parameters.length) = some x.2.2.1 ∧ (match x.2.2.2.1 with
  | 0 => Cond.methodLink (cnm o) x.1 x.2.1.1 ∈ gtbl ∧ Cond.instanceMethod x.2.1.1 ∈ gtbl ∧ Cond.selects (cnm x.2.2.2.2) x.2.1.1 x.2.1.1 ∈ gtbl ∧ x.2.2.2.2 < 13
  | 1 => (o, x.1, x.2.1.1) ∈ nwM ∧ Cond.instanceMethod x.2.1.1 ∈ gtbl ∧ Cond.selects (cnm x.2.2.2.2) x.2.1.1 x.2.1.1 ∈ gtbl ∧ x.2.2.2.2 < 13
  | 2 => Cond.methodLink (cnm o) x.1 x.2.1.1 ∈ gtbl ∧ Cond.static x.2.1.1 ∈ gtbl
  | 3 => (o, x.1, x.2.1.1) ∈ nwM ∧ Cond.static x.2.1.1 ∈ gtbl
  | 4 => Cond.methodLink (cnm o) x.1 x.2.1.1 ∈ gtbl ∧ Cond.instanceMethod x.2.1.1 ∈ gtbl ∧ x.2.1.1.name = "<init>" ∧ x.2.1.2.2.2.1 = none
  | 5 => (o, x.1, x.2.1.1) ∈ nwM ∧ Cond.instanceMethod x.2.1.1 ∈ gtbl ∧ x.2.1.1.name = "<init>" ∧ x.2.1.2.2.2.1 = none
  | _ => False)
theorem mgX0_init : mG MX0_init := ⟨(tq2 186 rfl rfl), (tq1 13 rfl rfl), by decide +kernel, by decide +kernel, rfl, Nat.le_of_ble_eq_true rfl⟩
theorem mgX0_forget : mG MX0_forget := ⟨(tq4 47 rfl rfl), (tq1 13 rfl rfl), by decide +kernel, by decide +kernel, rfl, Nat.le_of_ble_eq_true rfl⟩
theorem mgX0_note : mG MX0_note := ⟨(tq4 214 rfl rfl), (tq1 13 rfl rfl), by decide +kernel, by decide +kernel, rfl, Nat.le_of_ble_eq_true rfl⟩
theorem mgX0_takeBack : mG MX0_takeBack := ⟨(tq4 228 rfl rfl), (tq1 13 rfl rfl), by decide +kernel, by decide +kernel, rfl, Nat.le_of_ble_eq_true rfl⟩
theorem mgX1_init : mG MX1_init := ⟨(tq2 200 rfl rfl), (tq1 14 rfl rfl), by decide +kernel, by decide +kernel, rfl, Nat.le_of_ble_eq_true rfl⟩
theorem mgX1_forget : mG MX1_forget := ⟨(tq4 51 rfl rfl), (tq1 14 rfl rfl), by decide +kernel, by decide +kernel, rfl, Nat.le_of_ble_eq_true rfl⟩
theorem mgX1_add : mG MX1_add := ⟨(tq5 113 rfl rfl), (tq1 14 rfl rfl), by decide +kernel, by decide +kernel, rfl, Nat.le_of_ble_eq_true rfl⟩
theorem mgX1_asked : mG MX1_asked := ⟨(tq5 133 rfl rfl), (tq1 14 rfl rfl), by decide +kernel, by decide +kernel, rfl, Nat.le_of_ble_eq_true rfl⟩
theorem mgX1_settle : mG MX1_settle := ⟨(tq5 129 rfl rfl), (tq1 14 rfl rfl), by decide +kernel, by decide +kernel, rfl, Nat.le_of_ble_eq_true rfl⟩
theorem mgX1_lastStep : mG MX1_lastStep := ⟨(tq5 137 rfl rfl), (tq1 14 rfl rfl), by decide +kernel, by decide +kernel, rfl, Nat.le_of_ble_eq_true rfl⟩
theorem mgX1_agrees : mG MX1_agrees := ⟨(tq5 145 rfl rfl), (tq1 14 rfl rfl), by decide +kernel, by decide +kernel, rfl, Nat.le_of_ble_eq_true rfl⟩
theorem mgX2_init : mG MX2_init := ⟨(tq1 63 rfl rfl), (tq1 4 rfl rfl), by decide +kernel, by decide +kernel, rfl, Nat.le_of_ble_eq_true rfl⟩
theorem mgX2_clear : mG MX2_clear := ⟨(tq3 134 rfl rfl), (tq1 4 rfl rfl), by decide +kernel, by decide +kernel, rfl, Nat.le_of_ble_eq_true rfl⟩
theorem mgX2_add : mG MX2_add := ⟨(tq3 231 rfl rfl), (tq1 4 rfl rfl), by decide +kernel, by decide +kernel, rfl, Nat.le_of_ble_eq_true rfl⟩
theorem mgX2_worth : mG MX2_worth := ⟨(tq4 117 rfl rfl), (tq1 4 rfl rfl), by decide +kernel, by decide +kernel, rfl, Nat.le_of_ble_eq_true rfl⟩
theorem mgX2_joined : mG MX2_joined := ⟨(tq4 120 rfl rfl), (tq1 4 rfl rfl), by decide +kernel, by decide +kernel, rfl, Nat.le_of_ble_eq_true rfl⟩
theorem mgX3_init : mG MX3_init := ⟨(tq2 228 rfl rfl), (tq1 15 rfl rfl), by decide +kernel, by decide +kernel, rfl, Nat.le_of_ble_eq_true rfl⟩
theorem mgX3_forget : mG MX3_forget := ⟨(tq4 59 rfl rfl), (tq1 15 rfl rfl), by decide +kernel, by decide +kernel, rfl, Nat.le_of_ble_eq_true rfl⟩
theorem mgX3_find : mG MX3_find := ⟨(tq5 20 rfl rfl), (tq1 15 rfl rfl), by decide +kernel, by decide +kernel, rfl, Nat.le_of_ble_eq_true rfl⟩
theorem mgX3_hear : mG MX3_hear := ⟨(tq5 24 rfl rfl), (tq1 15 rfl rfl), by decide +kernel, by decide +kernel, rfl, Nat.le_of_ble_eq_true rfl⟩
theorem mgX3_putBack : mG MX3_putBack := ⟨(tq5 31 rfl rfl), (tq1 15 rfl rfl), by decide +kernel, by decide +kernel, rfl, Nat.le_of_ble_eq_true rfl⟩
theorem mgX3_spots : mG MX3_spots := ⟨(tq5 45 rfl rfl), (tq1 15 rfl rfl), by decide +kernel, by decide +kernel, rfl, Nat.le_of_ble_eq_true rfl⟩
theorem mgX3_moveOne : mG MX3_moveOne := ⟨(tq5 41 rfl rfl), (tq1 15 rfl rfl), by decide +kernel, by decide +kernel, rfl, Nat.le_of_ble_eq_true rfl⟩
theorem mgX3_moveTwo : mG MX3_moveTwo := ⟨(tq5 57 rfl rfl), (tq1 15 rfl rfl), by decide +kernel, by decide +kernel, rfl, Nat.le_of_ble_eq_true rfl⟩
theorem mgX3_put : mG MX3_put := ⟨(tq5 49 rfl rfl), (tq1 15 rfl rfl), by decide +kernel, by decide +kernel, rfl, Nat.le_of_ble_eq_true rfl⟩
theorem mgX3_allApart : mG MX3_allApart := ⟨(tq5 53 rfl rfl), (tq1 15 rfl rfl), by decide +kernel, by decide +kernel, rfl, Nat.le_of_ble_eq_true rfl⟩
theorem mgX3_keepsTime : mG MX3_keepsTime := ⟨(tq5 35 rfl rfl), (tq1 15 rfl rfl), by decide +kernel, by decide +kernel, rfl, Nat.le_of_ble_eq_true rfl⟩
theorem mgX4_init : mG MX4_init := ⟨(tq2 76 rfl rfl), (tq1 11 rfl rfl), by decide +kernel, by decide +kernel, rfl, Nat.le_of_ble_eq_true rfl⟩
theorem mgX4_begin : mG MX4_begin := ⟨(tq4 26 rfl rfl), (tq1 11 rfl rfl), by decide +kernel, by decide +kernel, rfl, Nat.le_of_ble_eq_true rfl⟩
theorem mgX4_take : mG MX4_take := ⟨(tq5 176 rfl rfl), (tq1 11 rfl rfl), by decide +kernel, by decide +kernel, rfl, Nat.le_of_ble_eq_true rfl⟩
theorem mgX4_copy : mG MX4_copy := ⟨(tq4 29 rfl rfl), (tq1 11 rfl rfl), by decide +kernel, by decide +kernel, rfl, Nat.le_of_ble_eq_true rfl⟩
theorem mgX4_measure : mG MX4_measure := ⟨(tq4 36 rfl rfl), (tq1 11 rfl rfl), by decide +kernel, by decide +kernel, rfl, Nat.le_of_ble_eq_true rfl⟩
theorem mgX4_reachOf : mG MX4_reachOf := ⟨(tq4 40 rfl rfl), (tq1 11 rfl rfl), by decide +kernel, by decide +kernel, rfl, Nat.le_of_ble_eq_true rfl⟩
theorem mgX4_leaveAlone : mG MX4_leaveAlone := ⟨(tq5 12 rfl rfl), (tq1 11 rfl rfl), by decide +kernel, by decide +kernel, rfl, Nat.le_of_ble_eq_true rfl⟩
theorem mgX4_go : mG MX4_go := ⟨(tq5 3 rfl rfl), (tq1 11 rfl rfl), by decide +kernel, by decide +kernel, rfl, Nat.le_of_ble_eq_true rfl⟩
theorem mgX4_advance : mG MX4_advance := ⟨(tq4 109 rfl rfl), (tq1 11 rfl rfl), by decide +kernel, by decide +kernel, rfl, Nat.le_of_ble_eq_true rfl⟩
theorem mgX4_pullOf : mG MX4_pullOf := ⟨(tq4 93 rfl rfl), (tq1 11 rfl rfl), by decide +kernel, by decide +kernel, rfl, Nat.le_of_ble_eq_true rfl⟩
theorem mgX4_weighPulls : mG MX4_weighPulls := ⟨(tq4 97 rfl rfl), (tq1 11 rfl rfl), by decide +kernel, by decide +kernel, rfl, Nat.le_of_ble_eq_true rfl⟩
theorem mgX4_leanOf : mG MX4_leanOf := ⟨(tq4 100 rfl rfl), (tq1 11 rfl rfl), by decide +kernel, by decide +kernel, rfl, Nat.le_of_ble_eq_true rfl⟩
theorem mgX4_move : mG MX4_move := ⟨(tq4 113 rfl rfl), (tq1 11 rfl rfl), by decide +kernel, by decide +kernel, rfl, Nat.le_of_ble_eq_true rfl⟩
theorem mgX4_runners : mG MX4_runners := ⟨(tq4 169 rfl rfl), (tq1 11 rfl rfl), by decide +kernel, by decide +kernel, rfl, Nat.le_of_ble_eq_true rfl⟩
theorem mgX4_groupOf : mG MX4_groupOf := ⟨(tq4 173 rfl rfl), (tq1 11 rfl rfl), by decide +kernel, by decide +kernel, rfl, Nat.le_of_ble_eq_true rfl⟩
theorem mgX4_isTogether : mG MX4_isTogether := ⟨(tq5 84 rfl rfl), (tq1 11 rfl rfl), by decide +kernel, by decide +kernel, rfl, Nat.le_of_ble_eq_true rfl⟩
theorem mgX4_allCounts : mG MX4_allCounts := ⟨(tq5 191 rfl rfl), (tq1 11 rfl rfl), by decide +kernel, by decide +kernel, rfl, Nat.le_of_ble_eq_true rfl⟩
theorem mgX5_init : mG MX5_init := ⟨(tq1 43 rfl rfl), (tq1 3 rfl rfl), by decide +kernel, by decide +kernel, rfl, Nat.le_of_ble_eq_true rfl⟩
theorem mgX5_add : mG MX5_add := ⟨(tq3 176 rfl rfl), (tq1 3 rfl rfl), by decide +kernel, by decide +kernel, rfl, Nat.le_of_ble_eq_true rfl⟩
theorem mgX5_find : mG MX5_find := ⟨(tq3 172 rfl rfl), (tq1 3 rfl rfl), by decide +kernel, by decide +kernel, rfl, Nat.le_of_ble_eq_true rfl⟩
theorem mgX6_init : mG MX6_init := ⟨(tq3 30 rfl rfl), (tq1 16 rfl rfl), by decide +kernel, by decide +kernel, rfl, Nat.le_of_ble_eq_true rfl⟩
theorem mgX6_forget : mG MX6_forget := ⟨(tq4 63 rfl rfl), (tq1 16 rfl rfl), by decide +kernel, by decide +kernel, rfl, Nat.le_of_ble_eq_true rfl⟩
theorem mgX6_find : mG MX6_find := ⟨(tq5 74 rfl rfl), (tq1 16 rfl rfl), by decide +kernel, by decide +kernel, rfl, Nat.le_of_ble_eq_true rfl⟩
theorem mgX6_tryLine : mG MX6_tryLine := ⟨(tq5 78 rfl rfl), (tq1 16 rfl rfl), by decide +kernel, by decide +kernel, rfl, Nat.le_of_ble_eq_true rfl⟩
theorem mgX6_nextLine : mG MX6_nextLine := ⟨(tq5 89 rfl rfl), (tq1 16 rfl rfl), by decide +kernel, by decide +kernel, rfl, Nat.le_of_ble_eq_true rfl⟩
theorem mgX6_swap : mG MX6_swap := ⟨(tq5 93 rfl rfl), (tq1 16 rfl rfl), by decide +kernel, by decide +kernel, rfl, Nat.le_of_ble_eq_true rfl⟩
theorem mgX7_init : mG MX7_init := ⟨(tq2 30 rfl rfl), (tq1 5 rfl rfl), by decide +kernel, by decide +kernel, rfl, Nat.le_of_ble_eq_true rfl⟩
theorem mgX7_reads : mG MX7_reads := ⟨(tq3 126 rfl rfl), (tq1 5 rfl rfl), by decide +kernel, by decide +kernel, rfl, Nat.le_of_ble_eq_true rfl⟩
theorem mgX7_refuse : mG MX7_refuse := ⟨(tq3 163 rfl rfl), (tq1 5 rfl rfl), by decide +kernel, by decide +kernel, rfl, Nat.le_of_ble_eq_true rfl⟩
theorem mgX7_beamLine : mG MX7_beamLine := ⟨(tq3 159 rfl rfl), (tq1 5 rfl rfl), by decide +kernel, by decide +kernel, rfl, Nat.le_of_ble_eq_true rfl⟩
theorem mgX7_clockLine : mG MX7_clockLine := ⟨(tq3 184 rfl rfl), (tq1 5 rfl rfl), by decide +kernel, by decide +kernel, rfl, Nat.le_of_ble_eq_true rfl⟩
theorem mgX7_extras : mG MX7_extras := ⟨(tq3 199 rfl rfl), (tq1 5 rfl rfl), by decide +kernel, by decide +kernel, rfl, Nat.le_of_ble_eq_true rfl⟩
theorem mgX7_extraRow : mG MX7_extraRow := ⟨(tq3 203 rfl rfl), (tq1 5 rfl rfl), by decide +kernel, by decide +kernel, rfl, Nat.le_of_ble_eq_true rfl⟩
theorem mgX7_wallLine : mG MX7_wallLine := ⟨(tq3 207 rfl rfl), (tq1 5 rfl rfl), by decide +kernel, by decide +kernel, rfl, Nat.le_of_ble_eq_true rfl⟩
theorem mgX7_lawLine : mG MX7_lawLine := ⟨(tq3 211 rfl rfl), (tq1 5 rfl rfl), by decide +kernel, by decide +kernel, rfl, Nat.le_of_ble_eq_true rfl⟩
theorem mgX7_mayLine : mG MX7_mayLine := ⟨(tq4 18 rfl rfl), (tq1 5 rfl rfl), by decide +kernel, by decide +kernel, rfl, Nat.le_of_ble_eq_true rfl⟩
theorem mgX7_hanging : mG MX7_hanging := ⟨(tq4 22 rfl rfl), (tq1 5 rfl rfl), by decide +kernel, by decide +kernel, rfl, Nat.le_of_ble_eq_true rfl⟩
theorem mgX7_newName : mG MX7_newName := ⟨(tq3 168 rfl rfl), (tq1 5 rfl rfl), by decide +kernel, by decide +kernel, rfl, Nat.le_of_ble_eq_true rfl⟩
theorem mgX7_toldName : mG MX7_toldName := ⟨(tq3 188 rfl rfl), (tq1 5 rfl rfl), by decide +kernel, by decide +kernel, rfl, Nat.le_of_ble_eq_true rfl⟩
theorem mgX7_number : mG MX7_number := ⟨(tq3 180 rfl rfl), (tq1 5 rfl rfl), by decide +kernel, by decide +kernel, rfl, Nat.le_of_ble_eq_true rfl⟩
theorem mgX7_freePlace : mG MX7_freePlace := ⟨(tq3 192 rfl rfl), (tq1 5 rfl rfl), by decide +kernel, by decide +kernel, rfl, Nat.le_of_ble_eq_true rfl⟩
theorem mgX7_expression : mG MX7_expression := ⟨(tq3 215 rfl rfl), (tq1 5 rfl rfl), by decide +kernel, by decide +kernel, rfl, Nat.le_of_ble_eq_true rfl⟩
theorem mgX7_isValue : mG MX7_isValue := ⟨(tq3 219 rfl rfl), (tq1 5 rfl rfl), by decide +kernel, by decide +kernel, rfl, Nat.le_of_ble_eq_true rfl⟩
theorem mgX7_value : mG MX7_value := ⟨(tq3 223 rfl rfl), (tq1 5 rfl rfl), by decide +kernel, by decide +kernel, rfl, Nat.le_of_ble_eq_true rfl⟩
theorem mgX7_opening : mG MX7_opening := ⟨(tq3 235 rfl rfl), (tq1 5 rfl rfl), by decide +kernel, by decide +kernel, rfl, Nat.le_of_ble_eq_true rfl⟩
theorem mgX7_joining : mG MX7_joining := ⟨(tq4 6 rfl rfl), (tq1 5 rfl rfl), by decide +kernel, by decide +kernel, rfl, Nat.le_of_ble_eq_true rfl⟩
theorem mgX7_closing : mG MX7_closing := ⟨(tq4 14 rfl rfl), (tq1 5 rfl rfl), by decide +kernel, by decide +kernel, rfl, Nat.le_of_ble_eq_true rfl⟩
theorem mgX7_oneKnotMore : mG MX7_oneKnotMore := ⟨(tq3 227 rfl rfl), (tq1 5 rfl rfl), by decide +kernel, by decide +kernel, rfl, Nat.le_of_ble_eq_true rfl⟩
theorem mgX7_await : mG MX7_await := ⟨(tq3 239 rfl rfl), (tq1 5 rfl rfl), by decide +kernel, by decide +kernel, rfl, Nat.le_of_ble_eq_true rfl⟩
theorem mgX7_release : mG MX7_release := ⟨(tq4 10 rfl rfl), (tq1 5 rfl rfl), by decide +kernel, by decide +kernel, rfl, Nat.le_of_ble_eq_true rfl⟩
theorem mgX7_rank : mG MX7_rank := ⟨(tq4 2 rfl rfl), (tq1 5 rfl rfl), by decide +kernel, by decide +kernel, rfl, Nat.le_of_ble_eq_true rfl⟩
theorem mgX8_init : mG MX8_init := ⟨(tq2 172 rfl rfl), (tq1 12 rfl rfl), by decide +kernel, by decide +kernel, rfl, Nat.le_of_ble_eq_true rfl⟩
theorem mgX8_tell : mG MX8_tell := ⟨(tq4 130 rfl rfl), (tq1 12 rfl rfl), by decide +kernel, by decide +kernel, rfl, Nat.le_of_ble_eq_true rfl⟩
theorem mgX8_phaseAt : mG MX8_phaseAt := ⟨(tq4 138 rfl rfl), (tq1 12 rfl rfl), by decide +kernel, by decide +kernel, rfl, Nat.le_of_ble_eq_true rfl⟩
theorem mgX8_strokeStep : mG MX8_strokeStep := ⟨(tq4 146 rfl rfl), (tq1 12 rfl rfl), by decide +kernel, by decide +kernel, rfl, Nat.le_of_ble_eq_true rfl⟩
theorem mgX8_fallsUpTo : mG MX8_fallsUpTo := ⟨(tq4 187 rfl rfl), (tq1 12 rfl rfl), by decide +kernel, by decide +kernel, rfl, Nat.le_of_ble_eq_true rfl⟩
theorem mgX8_fallStep : mG MX8_fallStep := ⟨(tq4 205 rfl rfl), (tq1 12 rfl rfl), by decide +kernel, by decide +kernel, rfl, Nat.le_of_ble_eq_true rfl⟩
theorem mgX8_isFall : mG MX8_isFall := ⟨(tq4 191 rfl rfl), (tq1 12 rfl rfl), by decide +kernel, by decide +kernel, rfl, Nat.le_of_ble_eq_true rfl⟩
theorem mgX9_init : mG MX9_init := ⟨(tq1 37 rfl rfl), (tq1 2 rfl rfl), by decide +kernel, by decide +kernel, rfl, Nat.le_of_ble_eq_true rfl⟩
theorem mgX9_clear : mG MX9_clear := ⟨(tq3 130 rfl rfl), (tq1 2 rfl rfl), by decide +kernel, by decide +kernel, rfl, Nat.le_of_ble_eq_true rfl⟩
theorem mgX9_forgetHangings : mG MX9_forgetHangings := ⟨(tq1 87 rfl rfl), (tq1 2 rfl rfl), by decide +kernel, by decide +kernel, rfl, Nat.le_of_ble_eq_true rfl⟩
theorem mgX9_hangings : mG MX9_hangings := ⟨(tq5 141 rfl rfl), (tq1 2 rfl rfl), by decide +kernel, by decide +kernel, rfl, Nat.le_of_ble_eq_true rfl⟩
theorem mgX10_init : mG MX10_init := ⟨(tq1 188 rfl rfl), (tq1 6 rfl rfl), by decide +kernel, by decide +kernel, rfl, Nat.le_of_ble_eq_true rfl⟩
theorem mgX10_begin : mG MX10_begin := ⟨(tq3 138 rfl rfl), (tq1 6 rfl rfl), by decide +kernel, by decide +kernel, rfl, Nat.le_of_ble_eq_true rfl⟩
theorem mgX10_next : mG MX10_next := ⟨(tq3 142 rfl rfl), (tq1 6 rfl rfl), by decide +kernel, by decide +kernel, rfl, Nat.le_of_ble_eq_true rfl⟩
theorem mgX10_readNumber : mG MX10_readNumber := ⟨(tq3 150 rfl rfl), (tq1 6 rfl rfl), by decide +kernel, by decide +kernel, rfl, Nat.le_of_ble_eq_true rfl⟩
theorem mgX10_readWord : mG MX10_readWord := ⟨(tq3 146 rfl rfl), (tq1 6 rfl rfl), by decide +kernel, by decide +kernel, rfl, Nat.le_of_ble_eq_true rfl⟩
theorem mgX10_readSign : mG MX10_readSign := ⟨(tq3 155 rfl rfl), (tq1 6 rfl rfl), by decide +kernel, by decide +kernel, rfl, Nat.le_of_ble_eq_true rfl⟩
theorem mgX11_init : mG MX11_init := ⟨(tq1 29 rfl rfl), (tq1 1 rfl rfl), by decide +kernel, by decide +kernel, rfl, Nat.le_of_ble_eq_true rfl⟩
theorem mgX11_feed : mG MX11_feed := ⟨(tq3 114 rfl rfl), (tq1 1 rfl rfl), by decide +kernel, by decide +kernel, rfl, Nat.le_of_ble_eq_true rfl⟩
theorem mgX11_text : mG MX11_text := ⟨(tq3 122 rfl rfl), (tq1 1 rfl rfl), by decide +kernel, by decide +kernel, rfl, Nat.le_of_ble_eq_true rfl⟩
theorem mgX11_fault : mG MX11_fault := ⟨(tq4 67 rfl rfl), (tq1 1 rfl rfl), by decide +kernel, by decide +kernel, rfl, Nat.le_of_ble_eq_true rfl⟩
theorem mgX11_named : mG MX11_named := ⟨(tq4 71 rfl rfl), (tq1 1 rfl rfl), by decide +kernel, by decide +kernel, rfl, Nat.le_of_ble_eq_true rfl⟩
theorem mgX11_look : mG MX11_look := ⟨(tq5 200 rfl rfl), (tq1 1 rfl rfl), by decide +kernel, by decide +kernel, rfl, Nat.le_of_ble_eq_true rfl⟩
theorem mgX11_reach : mG MX11_reach := ⟨(tq4 76 rfl rfl), (tq1 1 rfl rfl), by decide +kernel, by decide +kernel, rfl, Nat.le_of_ble_eq_true rfl⟩
theorem mgX11_pull : mG MX11_pull := ⟨(tq4 89 rfl rfl), (tq1 1 rfl rfl), by decide +kernel, by decide +kernel, rfl, Nat.le_of_ble_eq_true rfl⟩
theorem mgX11_steps : mG MX11_steps := ⟨(tq4 105 rfl rfl), (tq1 1 rfl rfl), by decide +kernel, by decide +kernel, rfl, Nat.le_of_ble_eq_true rfl⟩
theorem mgX11_was : mG MX11_was := ⟨(tq4 134 rfl rfl), (tq1 1 rfl rfl), by decide +kernel, by decide +kernel, rfl, Nat.le_of_ble_eq_true rfl⟩
theorem mgX11_stroke : mG MX11_stroke := ⟨(tq4 142 rfl rfl), (tq1 1 rfl rfl), by decide +kernel, by decide +kernel, rfl, Nat.le_of_ble_eq_true rfl⟩
theorem mgX11_apart : mG MX11_apart := ⟨(tq4 150 rfl rfl), (tq1 1 rfl rfl), by decide +kernel, by decide +kernel, rfl, Nat.le_of_ble_eq_true rfl⟩
theorem mgX11_since : mG MX11_since := ⟨(tq4 158 rfl rfl), (tq1 1 rfl rfl), by decide +kernel, by decide +kernel, rfl, Nat.le_of_ble_eq_true rfl⟩
theorem mgX11_groups : mG MX11_groups := ⟨(tq4 165 rfl rfl), (tq1 1 rfl rfl), by decide +kernel, by decide +kernel, rfl, Nat.le_of_ble_eq_true rfl⟩
theorem mgX11_group : mG MX11_group := ⟨(tq4 179 rfl rfl), (tq1 1 rfl rfl), by decide +kernel, by decide +kernel, rfl, Nat.le_of_ble_eq_true rfl⟩
theorem mgX11_falls : mG MX11_falls := ⟨(tq4 183 rfl rfl), (tq1 1 rfl rfl), by decide +kernel, by decide +kernel, rfl, Nat.le_of_ble_eq_true rfl⟩
theorem mgX11_fall : mG MX11_fall := ⟨(tq4 201 rfl rfl), (tq1 1 rfl rfl), by decide +kernel, by decide +kernel, rfl, Nat.le_of_ble_eq_true rfl⟩
theorem mgX11_hang : mG MX11_hang := ⟨(tq4 209 rfl rfl), (tq1 1 rfl rfl), by decide +kernel, by decide +kernel, rfl, Nat.le_of_ble_eq_true rfl⟩
theorem mgX11_stop : mG MX11_stop := ⟨(tq4 220 rfl rfl), (tq1 1 rfl rfl), by decide +kernel, by decide +kernel, rfl, Nat.le_of_ble_eq_true rfl⟩
theorem mgX11_undo : mG MX11_undo := ⟨(tq4 224 rfl rfl), (tq1 1 rfl rfl), by decide +kernel, by decide +kernel, rfl, Nat.le_of_ble_eq_true rfl⟩
theorem mgX11_run : mG MX11_run := ⟨(tq4 232 rfl rfl), (tq1 1 rfl rfl), by decide +kernel, by decide +kernel, rfl, Nat.le_of_ble_eq_true rfl⟩
theorem mgX11_own : mG MX11_own := ⟨(tq5 8 rfl rfl), (tq1 1 rfl rfl), by decide +kernel, by decide +kernel, rfl, Nat.le_of_ble_eq_true rfl⟩
theorem mgX11_least : mG MX11_least := ⟨(tq5 16 rfl rfl), (tq1 1 rfl rfl), by decide +kernel, by decide +kernel, rfl, Nat.le_of_ble_eq_true rfl⟩
theorem mgX11_mend : mG MX11_mend := ⟨(tq5 61 rfl rfl), (tq1 1 rfl rfl), by decide +kernel, by decide +kernel, rfl, Nat.le_of_ble_eq_true rfl⟩
theorem mgX11_order : mG MX11_order := ⟨(tq5 70 rfl rfl), (tq1 1 rfl rfl), by decide +kernel, by decide +kernel, rfl, Nat.le_of_ble_eq_true rfl⟩
theorem mgX11_due : mG MX11_due := ⟨(tq5 97 rfl rfl), (tq1 1 rfl rfl), by decide +kernel, by decide +kernel, rfl, Nat.le_of_ble_eq_true rfl⟩
theorem mgX11_gain : mG MX11_gain := ⟨(tq5 105 rfl rfl), (tq1 1 rfl rfl), by decide +kernel, by decide +kernel, rfl, Nat.le_of_ble_eq_true rfl⟩
theorem mgX11_heard : mG MX11_heard := ⟨(tq5 109 rfl rfl), (tq1 1 rfl rfl), by decide +kernel, by decide +kernel, rfl, Nat.le_of_ble_eq_true rfl⟩
theorem mgX11_strike : mG MX11_strike := ⟨(tq5 117 rfl rfl), (tq1 1 rfl rfl), by decide +kernel, by decide +kernel, rfl, Nat.le_of_ble_eq_true rfl⟩
theorem mgX11_known : mG MX11_known := ⟨(tq5 121 rfl rfl), (tq1 1 rfl rfl), by decide +kernel, by decide +kernel, rfl, Nat.le_of_ble_eq_true rfl⟩
theorem mgX11_fits : mG MX11_fits := ⟨(tq5 125 rfl rfl), (tq1 1 rfl rfl), by decide +kernel, by decide +kernel, rfl, Nat.le_of_ble_eq_true rfl⟩
theorem mgX11_tried : mG MX11_tried := ⟨(tq5 149 rfl rfl), (tq1 1 rfl rfl), by decide +kernel, by decide +kernel, rfl, Nat.le_of_ble_eq_true rfl⟩
theorem mgX11_chance : mG MX11_chance := ⟨(tq5 162 rfl rfl), (tq1 1 rfl rfl), by decide +kernel, by decide +kernel, rfl, Nat.le_of_ble_eq_true rfl⟩
theorem mgX11_keep : mG MX11_keep := ⟨(tq5 172 rfl rfl), (tq1 1 rfl rfl), by decide +kernel, by decide +kernel, rfl, Nat.le_of_ble_eq_true rfl⟩
theorem mgX11_back : mG MX11_back := ⟨(tq5 181 rfl rfl), (tq1 1 rfl rfl), by decide +kernel, by decide +kernel, rfl, Nat.le_of_ble_eq_true rfl⟩
theorem mgX11_count : mG MX11_count := ⟨(tq5 185 rfl rfl), (tq1 1 rfl rfl), by decide +kernel, by decide +kernel, rfl, Nat.le_of_ble_eq_true rfl⟩
theorem mgX11_tapeNumber : mG MX11_tapeNumber := ⟨(tq3 118 rfl rfl), (tq1 1 rfl rfl), by decide +kernel, by decide +kernel, rfl, Nat.le_of_ble_eq_true rfl⟩
theorem mgX11_isClock : mG MX11_isClock := ⟨(tq4 84 rfl rfl), (tq1 1 rfl rfl), by decide +kernel, by decide +kernel, rfl, Nat.le_of_ble_eq_true rfl⟩
theorem mgX11_areTwoClocks : mG MX11_areTwoClocks := ⟨(tq4 80 rfl rfl), (tq1 1 rfl rfl), by decide +kernel, by decide +kernel, rfl, Nat.le_of_ble_eq_true rfl⟩
theorem mgX11_isApart : mG MX11_isApart := ⟨(tq4 161 rfl rfl), (tq1 1 rfl rfl), by decide +kernel, by decide +kernel, rfl, Nat.le_of_ble_eq_true rfl⟩
theorem mgX11_isRun : mG MX11_isRun := ⟨(tq4 235 rfl rfl), (tq1 1 rfl rfl), by decide +kernel, by decide +kernel, rfl, Nat.le_of_ble_eq_true rfl⟩
theorem mgX11_forgetFound : mG MX11_forgetFound := ⟨(tq4 55 rfl rfl), (tq1 1 rfl rfl), by decide +kernel, by decide +kernel, rfl, Nat.le_of_ble_eq_true rfl⟩
theorem mgX11_beginTrial : mG MX11_beginTrial := ⟨(tq4 239 rfl rfl), (tq1 1 rfl rfl), by decide +kernel, by decide +kernel, rfl, Nat.le_of_ble_eq_true rfl⟩
theorem mgX11_countAtSpeed : mG MX11_countAtSpeed := ⟨(tq5 66 rfl rfl), (tq1 1 rfl rfl), by decide +kernel, by decide +kernel, rfl, Nat.le_of_ble_eq_true rfl⟩
theorem mgX11_dueStep : mG MX11_dueStep := ⟨(tq5 101 rfl rfl), (tq1 1 rfl rfl), by decide +kernel, by decide +kernel, rfl, Nat.le_of_ble_eq_true rfl⟩
theorem mgX11_canBeTried : mG MX11_canBeTried := ⟨(tq5 153 rfl rfl), (tq1 1 rfl rfl), by decide +kernel, by decide +kernel, rfl, Nat.le_of_ble_eq_true rfl⟩
theorem mgX11_changeTrial : mG MX11_changeTrial := ⟨(tq5 157 rfl rfl), (tq1 1 rfl rfl), by decide +kernel, by decide +kernel, rfl, Nat.le_of_ble_eq_true rfl⟩
theorem mgX11_between : mG MX11_between := ⟨(tq4 126 rfl rfl), (tq1 1 rfl rfl), by decide +kernel, by decide +kernel, rfl, Nat.le_of_ble_eq_true rfl⟩
theorem mgX11_distance : mG MX11_distance := ⟨(tq4 43 rfl rfl), (tq1 1 rfl rfl), by decide +kernel, by decide +kernel, rfl, Nat.le_of_ble_eq_true rfl⟩
theorem mgX11_apartOf : mG MX11_apartOf := ⟨(tq4 153 rfl rfl), (tq1 1 rfl rfl), by decide +kernel, by decide +kernel, rfl, Nat.le_of_ble_eq_true rfl⟩
theorem mgX11_isTaken : mG MX11_isTaken := ⟨(tq3 195 rfl rfl), (tq1 1 rfl rfl), by decide +kernel, by decide +kernel, rfl, Nat.le_of_ble_eq_true rfl⟩
theorem mgX12_init : mG MX12_init := ⟨(tq6 47 rfl rfl), (tq1 17 rfl rfl), by decide +kernel, by decide +kernel, rfl, Nat.le_of_ble_eq_true rfl⟩
theorem mgX12_thrown : mG MX12_thrown := ⟨(tq7 93 rfl rfl), (tq1 17 rfl rfl), by decide +kernel, by decide +kernel, rfl, Nat.le_of_ble_eq_true rfl⟩
theorem mgX12_feed : mG MX12_feed := ⟨(tq7 97 rfl rfl), (tq1 17 rfl rfl), by decide +kernel, by decide +kernel, rfl, Nat.le_of_ble_eq_true rfl⟩
theorem mgX12_isIn : mG MX12_isIn := ⟨(tq7 151 rfl rfl), (tq1 17 rfl rfl), by decide +kernel, by decide +kernel, rfl, Nat.le_of_ble_eq_true rfl⟩
theorem mgX12_isOf : mG MX12_isOf := ⟨(tq7 162 rfl rfl), (tq1 17 rfl rfl), by decide +kernel, by decide +kernel, rfl, Nat.le_of_ble_eq_true rfl⟩
theorem mgX12_wrong : mG MX12_wrong := ⟨(tq7 133 rfl rfl), (tq1 17 rfl rfl), by decide +kernel, by decide +kernel, rfl, Nat.le_of_ble_eq_true rfl⟩
theorem mgX12_wordAt : mG MX12_wordAt := ⟨(tq7 113 rfl rfl), (tq1 17 rfl rfl), by decide +kernel, by decide +kernel, rfl, Nat.le_of_ble_eq_true rfl⟩
theorem mgX12_isSmall : mG MX12_isSmall := ⟨(tq7 109 rfl rfl), (tq1 17 rfl rfl), by decide +kernel, by decide +kernel, rfl, Nat.le_of_ble_eq_true rfl⟩
theorem mgX12_isDigit : mG MX12_isDigit := ⟨(tq7 121 rfl rfl), (tq1 17 rfl rfl), by decide +kernel, by decide +kernel, rfl, Nat.le_of_ble_eq_true rfl⟩
theorem mgX12_token : mG MX12_token := ⟨(tq7 105 rfl rfl), (tq1 17 rfl rfl), by decide +kernel, by decide +kernel, rfl, Nat.le_of_ble_eq_true rfl⟩
theorem mgX12_signToken : mG MX12_signToken := ⟨(tq7 125 rfl rfl), (tq1 17 rfl rfl), by decide +kernel, by decide +kernel, rfl, Nat.le_of_ble_eq_true rfl⟩
theorem mgX12_packed : mG MX12_packed := ⟨(tq7 117 rfl rfl), (tq1 17 rfl rfl), by decide +kernel, by decide +kernel, rfl, Nat.le_of_ble_eq_true rfl⟩
theorem mgX12_isKey : mG MX12_isKey := ⟨(tq7 170 rfl rfl), (tq1 17 rfl rfl), by decide +kernel, by decide +kernel, rfl, Nat.le_of_ble_eq_true rfl⟩
theorem mgX12_isSign : mG MX12_isSign := ⟨(tq7 178 rfl rfl), (tq1 17 rfl rfl), by decide +kernel, by decide +kernel, rfl, Nat.le_of_ble_eq_true rfl⟩
theorem mgX12_number : mG MX12_number := ⟨(tq7 148 rfl rfl), (tq1 17 rfl rfl), by decide +kernel, by decide +kernel, rfl, Nat.le_of_ble_eq_true rfl⟩
theorem mgX12_plain : mG MX12_plain := ⟨(tq6 52 rfl rfl), (tq1 17 rfl rfl), by decide +kernel, by decide +kernel, rfl, Nat.le_of_ble_eq_true rfl⟩
theorem mgX12_copies : mG MX12_copies := ⟨(tq6 59 rfl rfl), (tq1 17 rfl rfl), by decide +kernel, by decide +kernel, rfl, Nat.le_of_ble_eq_true rfl⟩
theorem mgX12_keepText : mG MX12_keepText := ⟨(tq6 56 rfl rfl), (tq1 17 rfl rfl), by decide +kernel, by decide +kernel, rfl, Nat.le_of_ble_eq_true rfl⟩
theorem mgX12_find : mG MX12_find := ⟨(tq7 144 rfl rfl), (tq1 17 rfl rfl), by decide +kernel, by decide +kernel, rfl, Nat.le_of_ble_eq_true rfl⟩
theorem mgX12_newName : mG MX12_newName := ⟨(tq7 141 rfl rfl), (tq1 17 rfl rfl), by decide +kernel, by decide +kernel, rfl, Nat.le_of_ble_eq_true rfl⟩
theorem mgX12_oldName : mG MX12_oldName := ⟨(tq7 159 rfl rfl), (tq1 17 rfl rfl), by decide +kernel, by decide +kernel, rfl, Nat.le_of_ble_eq_true rfl⟩
theorem mgX12_beamLine : mG MX12_beamLine := ⟨(tq7 137 rfl rfl), (tq1 17 rfl rfl), by decide +kernel, by decide +kernel, rfl, Nat.le_of_ble_eq_true rfl⟩
theorem mgX12_clockLine : mG MX12_clockLine := ⟨(tq7 155 rfl rfl), (tq1 17 rfl rfl), by decide +kernel, by decide +kernel, rfl, Nat.le_of_ble_eq_true rfl⟩
theorem mgX12_lawLine : mG MX12_lawLine := ⟨(tq7 166 rfl rfl), (tq1 17 rfl rfl), by decide +kernel, by decide +kernel, rfl, Nat.le_of_ble_eq_true rfl⟩
theorem mgX12_mayLine : mG MX12_mayLine := ⟨(tq7 217 rfl rfl), (tq1 17 rfl rfl), by decide +kernel, by decide +kernel, rfl, Nat.le_of_ble_eq_true rfl⟩
theorem mgX12_lineRead : mG MX12_lineRead := ⟨(tq7 129 rfl rfl), (tq1 17 rfl rfl), by decide +kernel, by decide +kernel, rfl, Nat.le_of_ble_eq_true rfl⟩
theorem mgX12_text : mG MX12_text := ⟨(tq7 101 rfl rfl), (tq1 17 rfl rfl), by decide +kernel, by decide +kernel, rfl, Nat.le_of_ble_eq_true rfl⟩
theorem mgX12_fault : mG MX12_fault := ⟨(tq7 221 rfl rfl), (tq1 17 rfl rfl), by decide +kernel, by decide +kernel, rfl, Nat.le_of_ble_eq_true rfl⟩
theorem mgX12_named : mG MX12_named := ⟨(tq7 225 rfl rfl), (tq1 17 rfl rfl), by decide +kernel, by decide +kernel, rfl, Nat.le_of_ble_eq_true rfl⟩
theorem mgX12_rank : mG MX12_rank := ⟨(tq7 209 rfl rfl), (tq1 17 rfl rfl), by decide +kernel, by decide +kernel, rfl, Nat.le_of_ble_eq_true rfl⟩
theorem mgX12_grown : mG MX12_grown := ⟨(tq7 198 rfl rfl), (tq1 17 rfl rfl), by decide +kernel, by decide +kernel, rfl, Nat.le_of_ble_eq_true rfl⟩
theorem mgX12_dropHeld : mG MX12_dropHeld := ⟨(tq7 213 rfl rfl), (tq1 17 rfl rfl), by decide +kernel, by decide +kernel, rfl, Nat.le_of_ble_eq_true rfl⟩
theorem mgX12_bind : mG MX12_bind := ⟨(tq7 206 rfl rfl), (tq1 17 rfl rfl), by decide +kernel, by decide +kernel, rfl, Nat.le_of_ble_eq_true rfl⟩
theorem mgX12_isCounted : mG MX12_isCounted := ⟨(tq7 190 rfl rfl), (tq1 17 rfl rfl), by decide +kernel, by decide +kernel, rfl, Nat.le_of_ble_eq_true rfl⟩
theorem mgX12_waitsFor : mG MX12_waitsFor := ⟨(tq7 186 rfl rfl), (tq1 17 rfl rfl), by decide +kernel, by decide +kernel, rfl, Nat.le_of_ble_eq_true rfl⟩
theorem mgX12_nameMet : mG MX12_nameMet := ⟨(tq7 194 rfl rfl), (tq1 17 rfl rfl), by decide +kernel, by decide +kernel, rfl, Nat.le_of_ble_eq_true rfl⟩
theorem mgX12_leafRead : mG MX12_leafRead := ⟨(tq7 182 rfl rfl), (tq1 17 rfl rfl), by decide +kernel, by decide +kernel, rfl, Nat.le_of_ble_eq_true rfl⟩
theorem mgX12_signs : mG MX12_signs := ⟨(tq7 202 rfl rfl), (tq1 17 rfl rfl), by decide +kernel, by decide +kernel, rfl, Nat.le_of_ble_eq_true rfl⟩
theorem mgX12_sumRead : mG MX12_sumRead := ⟨(tq7 174 rfl rfl), (tq1 17 rfl rfl), by decide +kernel, by decide +kernel, rfl, Nat.le_of_ble_eq_true rfl⟩
theorem mgX12_bounded : mG MX12_bounded := ⟨(tq8 52 rfl rfl), (tq1 17 rfl rfl), by decide +kernel, by decide +kernel, rfl, Nat.le_of_ble_eq_true rfl⟩
theorem mgX12_compares : mG MX12_compares := ⟨(tq8 61 rfl rfl), (tq1 17 rfl rfl), by decide +kernel, by decide +kernel, rfl, Nat.le_of_ble_eq_true rfl⟩
theorem mgX12_times : mG MX12_times := ⟨(tq8 58 rfl rfl), (tq1 17 rfl rfl), by decide +kernel, by decide +kernel, rfl, Nat.le_of_ble_eq_true rfl⟩
theorem mgX12_valueOf : mG MX12_valueOf := ⟨(tq8 48 rfl rfl), (tq1 17 rfl rfl), by decide +kernel, by decide +kernel, rfl, Nat.le_of_ble_eq_true rfl⟩
theorem mgX12_plainRun : mG MX12_plainRun := ⟨(tq6 63 rfl rfl), (tq1 17 rfl rfl), by decide +kernel, by decide +kernel, rfl, Nat.le_of_ble_eq_true rfl⟩
theorem mgX12_begins : mG MX12_begins := ⟨(tq6 67 rfl rfl), (tq1 17 rfl rfl), by decide +kernel, by decide +kernel, rfl, Nat.le_of_ble_eq_true rfl⟩
theorem mgX12_beginsRun : mG MX12_beginsRun := ⟨(tq8 141 rfl rfl), (tq1 17 rfl rfl), by decide +kernel, by decide +kernel, rfl, Nat.le_of_ble_eq_true rfl⟩
theorem mgX12_sizeOf : mG MX12_sizeOf := ⟨(tq8 12 rfl rfl), (tq1 17 rfl rfl), by decide +kernel, by decide +kernel, rfl, Nat.le_of_ble_eq_true rfl⟩
theorem mgX12_reachOf : mG MX12_reachOf := ⟨(tq8 9 rfl rfl), (tq1 17 rfl rfl), by decide +kernel, by decide +kernel, rfl, Nat.le_of_ble_eq_true rfl⟩
theorem mgX12_lean : mG MX12_lean := ⟨(tq8 28 rfl rfl), (tq1 17 rfl rfl), by decide +kernel, by decide +kernel, rfl, Nat.le_of_ble_eq_true rfl⟩
theorem mgX12_weightOf : mG MX12_weightOf := ⟨(tq8 25 rfl rfl), (tq1 17 rfl rfl), by decide +kernel, by decide +kernel, rfl, Nat.le_of_ble_eq_true rfl⟩
theorem mgX12_pullOf : mG MX12_pullOf := ⟨(tq8 21 rfl rfl), (tq1 17 rfl rfl), by decide +kernel, by decide +kernel, rfl, Nat.le_of_ble_eq_true rfl⟩
theorem mgX12_lawOf : mG MX12_lawOf := ⟨(tq8 44 rfl rfl), (tq1 17 rfl rfl), by decide +kernel, by decide +kernel, rfl, Nat.le_of_ble_eq_true rfl⟩
theorem mgX12_goes : mG MX12_goes := ⟨(tq8 40 rfl rfl), (tq1 17 rfl rfl), by decide +kernel, by decide +kernel, rfl, Nat.le_of_ble_eq_true rfl⟩
theorem mgX12_step : mG MX12_step := ⟨(tq8 36 rfl rfl), (tq1 17 rfl rfl), by decide +kernel, by decide +kernel, rfl, Nat.le_of_ble_eq_true rfl⟩
theorem mgX12_runs : mG MX12_runs := ⟨(tq8 145 rfl rfl), (tq1 17 rfl rfl), by decide +kernel, by decide +kernel, rfl, Nat.le_of_ble_eq_true rfl⟩
theorem mgX12_fails : mG MX12_fails := ⟨(tq7 237 rfl rfl), (tq1 17 rfl rfl), by decide +kernel, by decide +kernel, rfl, Nat.le_of_ble_eq_true rfl⟩
theorem mgX12_isClock : mG MX12_isClock := ⟨(tq7 233 rfl rfl), (tq1 17 rfl rfl), by decide +kernel, by decide +kernel, rfl, Nat.le_of_ble_eq_true rfl⟩
theorem mgX12_areTwo : mG MX12_areTwo := ⟨(tq8 5 rfl rfl), (tq1 17 rfl rfl), by decide +kernel, by decide +kernel, rfl, Nat.le_of_ble_eq_true rfl⟩
theorem mgX12_look : mG MX12_look := ⟨(tq7 229 rfl rfl), (tq1 17 rfl rfl), by decide +kernel, by decide +kernel, rfl, Nat.le_of_ble_eq_true rfl⟩
theorem mgX12_reach : mG MX12_reach := ⟨(tq8 1 rfl rfl), (tq1 17 rfl rfl), by decide +kernel, by decide +kernel, rfl, Nat.le_of_ble_eq_true rfl⟩
theorem mgX12_pull : mG MX12_pull := ⟨(tq8 16 rfl rfl), (tq1 17 rfl rfl), by decide +kernel, by decide +kernel, rfl, Nat.le_of_ble_eq_true rfl⟩
theorem mgX12_steps : mG MX12_steps := ⟨(tq8 32 rfl rfl), (tq1 17 rfl rfl), by decide +kernel, by decide +kernel, rfl, Nat.le_of_ble_eq_true rfl⟩
theorem mgX12_was : mG MX12_was := ⟨(tq8 65 rfl rfl), (tq1 17 rfl rfl), by decide +kernel, by decide +kernel, rfl, Nat.le_of_ble_eq_true rfl⟩
theorem mgX12_stroke : mG MX12_stroke := ⟨(tq8 69 rfl rfl), (tq1 17 rfl rfl), by decide +kernel, by decide +kernel, rfl, Nat.le_of_ble_eq_true rfl⟩
theorem mgX12_apartOf : mG MX12_apartOf := ⟨(tq8 76 rfl rfl), (tq1 17 rfl rfl), by decide +kernel, by decide +kernel, rfl, Nat.le_of_ble_eq_true rfl⟩
theorem mgX12_apart : mG MX12_apart := ⟨(tq8 73 rfl rfl), (tq1 17 rfl rfl), by decide +kernel, by decide +kernel, rfl, Nat.le_of_ble_eq_true rfl⟩
theorem mgX12_isNear : mG MX12_isNear := ⟨(tq8 83 rfl rfl), (tq1 17 rfl rfl), by decide +kernel, by decide +kernel, rfl, Nat.le_of_ble_eq_true rfl⟩
theorem mgX12_since : mG MX12_since := ⟨(tq8 80 rfl rfl), (tq1 17 rfl rfl), by decide +kernel, by decide +kernel, rfl, Nat.le_of_ble_eq_true rfl⟩
theorem mgX12_groupOf : mG MX12_groupOf := ⟨(tq8 91 rfl rfl), (tq1 17 rfl rfl), by decide +kernel, by decide +kernel, rfl, Nat.le_of_ble_eq_true rfl⟩
theorem mgX12_groups : mG MX12_groups := ⟨(tq8 87 rfl rfl), (tq1 17 rfl rfl), by decide +kernel, by decide +kernel, rfl, Nat.le_of_ble_eq_true rfl⟩
theorem mgX12_group : mG MX12_group := ⟨(tq8 95 rfl rfl), (tq1 17 rfl rfl), by decide +kernel, by decide +kernel, rfl, Nat.le_of_ble_eq_true rfl⟩
theorem mgX12_isFall : mG MX12_isFall := ⟨(tq8 102 rfl rfl), (tq1 17 rfl rfl), by decide +kernel, by decide +kernel, rfl, Nat.le_of_ble_eq_true rfl⟩
theorem mgX12_falls : mG MX12_falls := ⟨(tq8 99 rfl rfl), (tq1 17 rfl rfl), by decide +kernel, by decide +kernel, rfl, Nat.le_of_ble_eq_true rfl⟩
theorem mgX12_fall : mG MX12_fall := ⟨(tq8 106 rfl rfl), (tq1 17 rfl rfl), by decide +kernel, by decide +kernel, rfl, Nat.le_of_ble_eq_true rfl⟩
theorem mgX12_remember : mG MX12_remember := ⟨(tq8 118 rfl rfl), (tq1 17 rfl rfl), by decide +kernel, by decide +kernel, rfl, Nat.le_of_ble_eq_true rfl⟩
theorem mgX12_hungAt : mG MX12_hungAt := ⟨(tq8 114 rfl rfl), (tq1 17 rfl rfl), by decide +kernel, by decide +kernel, rfl, Nat.le_of_ble_eq_true rfl⟩
theorem mgX12_hang : mG MX12_hang := ⟨(tq8 110 rfl rfl), (tq1 17 rfl rfl), by decide +kernel, by decide +kernel, rfl, Nat.le_of_ble_eq_true rfl⟩
theorem mgX12_stop : mG MX12_stop := ⟨(tq8 122 rfl rfl), (tq1 17 rfl rfl), by decide +kernel, by decide +kernel, rfl, Nat.le_of_ble_eq_true rfl⟩
theorem mgX12_undo : mG MX12_undo := ⟨(tq8 126 rfl rfl), (tq1 17 rfl rfl), by decide +kernel, by decide +kernel, rfl, Nat.le_of_ble_eq_true rfl⟩
theorem mgX12_isRun : mG MX12_isRun := ⟨(tq8 133 rfl rfl), (tq1 17 rfl rfl), by decide +kernel, by decide +kernel, rfl, Nat.le_of_ble_eq_true rfl⟩
theorem mgX12_layRun : mG MX12_layRun := ⟨(tq8 137 rfl rfl), (tq1 17 rfl rfl), by decide +kernel, by decide +kernel, rfl, Nat.le_of_ble_eq_true rfl⟩
theorem mgX12_run : mG MX12_run := ⟨(tq8 130 rfl rfl), (tq1 17 rfl rfl), by decide +kernel, by decide +kernel, rfl, Nat.le_of_ble_eq_true rfl⟩
theorem mgX12_ownOf : mG MX12_ownOf := ⟨(tq8 153 rfl rfl), (tq1 17 rfl rfl), by decide +kernel, by decide +kernel, rfl, Nat.le_of_ble_eq_true rfl⟩
theorem mgX12_own : mG MX12_own := ⟨(tq8 149 rfl rfl), (tq1 17 rfl rfl), by decide +kernel, by decide +kernel, rfl, Nat.le_of_ble_eq_true rfl⟩
theorem mgX12_keeps : mG MX12_keeps := ⟨(tq8 161 rfl rfl), (tq1 17 rfl rfl), by decide +kernel, by decide +kernel, rfl, Nat.le_of_ble_eq_true rfl⟩
theorem mgX12_isMoved : mG MX12_isMoved := ⟨(tq8 173 rfl rfl), (tq1 17 rfl rfl), by decide +kernel, by decide +kernel, rfl, Nat.le_of_ble_eq_true rfl⟩
theorem mgX12_lays : mG MX12_lays := ⟨(tq8 169 rfl rfl), (tq1 17 rfl rfl), by decide +kernel, by decide +kernel, rfl, Nat.le_of_ble_eq_true rfl⟩
theorem mgX12_finds : mG MX12_finds := ⟨(tq8 181 rfl rfl), (tq1 17 rfl rfl), by decide +kernel, by decide +kernel, rfl, Nat.le_of_ble_eq_true rfl⟩
theorem mgX12_areFree : mG MX12_areFree := ⟨(tq8 177 rfl rfl), (tq1 17 rfl rfl), by decide +kernel, by decide +kernel, rfl, Nat.le_of_ble_eq_true rfl⟩
theorem mgX12_oneKeeps : mG MX12_oneKeeps := ⟨(tq8 165 rfl rfl), (tq1 17 rfl rfl), by decide +kernel, by decide +kernel, rfl, Nat.le_of_ble_eq_true rfl⟩
theorem mgX12_twoKeep : mG MX12_twoKeep := ⟨(tq8 185 rfl rfl), (tq1 17 rfl rfl), by decide +kernel, by decide +kernel, rfl, Nat.le_of_ble_eq_true rfl⟩
theorem mgX12_otherKeeps : mG MX12_otherKeeps := ⟨(tq8 189 rfl rfl), (tq1 17 rfl rfl), by decide +kernel, by decide +kernel, rfl, Nat.le_of_ble_eq_true rfl⟩
theorem mgX12_least : mG MX12_least := ⟨(tq8 157 rfl rfl), (tq1 17 rfl rfl), by decide +kernel, by decide +kernel, rfl, Nat.le_of_ble_eq_true rfl⟩
theorem mgX12_mend : mG MX12_mend := ⟨(tq8 193 rfl rfl), (tq1 17 rfl rfl), by decide +kernel, by decide +kernel, rfl, Nat.le_of_ble_eq_true rfl⟩
theorem mgX12_firstOrder : mG MX12_firstOrder := ⟨(tq8 201 rfl rfl), (tq1 17 rfl rfl), by decide +kernel, by decide +kernel, rfl, Nat.le_of_ble_eq_true rfl⟩
theorem mgX12_turn : mG MX12_turn := ⟨(tq8 217 rfl rfl), (tq1 17 rfl rfl), by decide +kernel, by decide +kernel, rfl, Nat.le_of_ble_eq_true rfl⟩
theorem mgX12_nextOrder : mG MX12_nextOrder := ⟨(tq8 213 rfl rfl), (tq1 17 rfl rfl), by decide +kernel, by decide +kernel, rfl, Nat.le_of_ble_eq_true rfl⟩
theorem mgX12_areIn : mG MX12_areIn := ⟨(tq8 209 rfl rfl), (tq1 17 rfl rfl), by decide +kernel, by decide +kernel, rfl, Nat.le_of_ble_eq_true rfl⟩
theorem mgX12_fromStep : mG MX12_fromStep := ⟨(tq8 205 rfl rfl), (tq1 17 rfl rfl), by decide +kernel, by decide +kernel, rfl, Nat.le_of_ble_eq_true rfl⟩
theorem mgX12_order : mG MX12_order := ⟨(tq8 197 rfl rfl), (tq1 17 rfl rfl), by decide +kernel, by decide +kernel, rfl, Nat.le_of_ble_eq_true rfl⟩
theorem mgX12_dueOf : mG MX12_dueOf := ⟨(tq8 225 rfl rfl), (tq1 17 rfl rfl), by decide +kernel, by decide +kernel, rfl, Nat.le_of_ble_eq_true rfl⟩
theorem mgX12_due : mG MX12_due := ⟨(tq8 221 rfl rfl), (tq1 17 rfl rfl), by decide +kernel, by decide +kernel, rfl, Nat.le_of_ble_eq_true rfl⟩
theorem mgX12_gain : mG MX12_gain := ⟨(tq8 229 rfl rfl), (tq1 17 rfl rfl), by decide +kernel, by decide +kernel, rfl, Nat.le_of_ble_eq_true rfl⟩
theorem mgX12_noted : mG MX12_noted := ⟨(tq8 237 rfl rfl), (tq1 17 rfl rfl), by decide +kernel, by decide +kernel, rfl, Nat.le_of_ble_eq_true rfl⟩
theorem mgX12_heard : mG MX12_heard := ⟨(tq8 233 rfl rfl), (tq1 17 rfl rfl), by decide +kernel, by decide +kernel, rfl, Nat.le_of_ble_eq_true rfl⟩
theorem mgX12_strike : mG MX12_strike := ⟨(tq9 1 rfl rfl), (tq1 17 rfl rfl), by decide +kernel, by decide +kernel, rfl, Nat.le_of_ble_eq_true rfl⟩
theorem mgX12_known : mG MX12_known := ⟨(tq9 5 rfl rfl), (tq1 17 rfl rfl), by decide +kernel, by decide +kernel, rfl, Nat.le_of_ble_eq_true rfl⟩
theorem mgX12_knownBy : mG MX12_knownBy := ⟨(tq9 17 rfl rfl), (tq1 17 rfl rfl), by decide +kernel, by decide +kernel, rfl, Nat.le_of_ble_eq_true rfl⟩
theorem mgX12_layCounts : mG MX12_layCounts := ⟨(tq9 13 rfl rfl), (tq1 17 rfl rfl), by decide +kernel, by decide +kernel, rfl, Nat.le_of_ble_eq_true rfl⟩
theorem mgX12_isFit : mG MX12_isFit := ⟨(tq9 21 rfl rfl), (tq1 17 rfl rfl), by decide +kernel, by decide +kernel, rfl, Nat.le_of_ble_eq_true rfl⟩
theorem mgX12_fits : mG MX12_fits := ⟨(tq9 9 rfl rfl), (tq1 17 rfl rfl), by decide +kernel, by decide +kernel, rfl, Nat.le_of_ble_eq_true rfl⟩
theorem mgX12_triesIt : mG MX12_triesIt := ⟨(tq9 29 rfl rfl), (tq1 17 rfl rfl), by decide +kernel, by decide +kernel, rfl, Nat.le_of_ble_eq_true rfl⟩
theorem mgX12_tried : mG MX12_tried := ⟨(tq9 25 rfl rfl), (tq1 17 rfl rfl), by decide +kernel, by decide +kernel, rfl, Nat.le_of_ble_eq_true rfl⟩
theorem mgX12_chance : mG MX12_chance := ⟨(tq9 33 rfl rfl), (tq1 17 rfl rfl), by decide +kernel, by decide +kernel, rfl, Nat.le_of_ble_eq_true rfl⟩
theorem mgX12_keep : mG MX12_keep := ⟨(tq9 42 rfl rfl), (tq1 17 rfl rfl), by decide +kernel, by decide +kernel, rfl, Nat.le_of_ble_eq_true rfl⟩
theorem mgX12_back : mG MX12_back := ⟨(tq9 46 rfl rfl), (tq1 17 rfl rfl), by decide +kernel, by decide +kernel, rfl, Nat.le_of_ble_eq_true rfl⟩
theorem mgX12_manyRun : mG MX12_manyRun := ⟨(tq9 54 rfl rfl), (tq1 17 rfl rfl), by decide +kernel, by decide +kernel, rfl, Nat.le_of_ble_eq_true rfl⟩
theorem mgX12_allCounts : mG MX12_allCounts := ⟨(tq9 58 rfl rfl), (tq1 17 rfl rfl), by decide +kernel, by decide +kernel, rfl, Nat.le_of_ble_eq_true rfl⟩
theorem mgX12_count : mG MX12_count := ⟨(tq9 50 rfl rfl), (tq1 17 rfl rfl), by decide +kernel, by decide +kernel, rfl, Nat.le_of_ble_eq_true rfl⟩
theorem mgJ6_bitCount_0f7a4 : mG MJ6_bitCount_0f7a4 := ⟨(tq4 194 rfl rfl), (tq1 24 rfl rfl), by decide +kernel, by decide +kernel, rfl, Nat.le_of_ble_eq_true rfl⟩
def mT0 : List (Nat × Mth × Nat × Nat × Nat) := []
theorem mT0_ok : ∀ x ∈ mT0, mOK 0 x := (fun _ h => absurd h List.not_mem_nil)
def mT1 : List (Nat × Mth × Nat × Nat × Nat) := [(32, MX1_asked, 0, 0, 1)]
theorem mo1_32 : mOK 1 (32, MX1_asked, 0, 0, 1) := ⟨mgX1_asked, by decide +kernel, (tq5 130 rfl rfl), (tq5 131 rfl rfl), (tq5 132 rfl rfl), Nat.le_of_ble_eq_true rfl⟩
theorem mT1_ok : ∀ x ∈ mT1, mOK 1 x := List.forall_mem_cons.mpr ⟨mo1_32, (fun _ h => absurd h List.not_mem_nil)⟩
def mT2 : List (Nat × Mth × Nat × Nat × Nat) := [(32, MX2_joined, 3, 2, 2)]
theorem mo2_32 : mOK 2 (32, MX2_joined, 3, 2, 2) := ⟨mgX2_joined, by decide +kernel, (tq4 118 rfl rfl), (tq4 119 rfl rfl)⟩
theorem mT2_ok : ∀ x ∈ mT2, mOK 2 x := List.forall_mem_cons.mpr ⟨mo2_32, (fun _ h => absurd h List.not_mem_nil)⟩
def mT3 : List (Nat × Mth × Nat × Nat × Nat) := [(45, MX3_hear, 0, 0, 3), (75, MX4_begin, 3, 0, 4), (79, MX4_leaveAlone, 1, 0, 4), (83, MX4_go, 1, 0, 4), (48, MX3_putBack, 0, 0, 3), (51, MX3_keepsTime, 0, 0, 3), (111, MX4_advance, 0, 0, 4), (114, MX11_distance, 2, 3, 11), (58, MX3_moveOne, 0, 0, 3), (100, MX3_spots, 0, 0, 3), (104, MX3_put, 3, 0, 3), (108, MX3_allApart, 0, 0, 3), (61, MX3_moveTwo, 0, 0, 3)]
theorem mo3_45 : mOK 3 (45, MX3_hear, 0, 0, 3) := ⟨mgX3_hear, by decide +kernel, (tq5 21 rfl rfl), (tq5 23 rfl rfl), (tqp 34 rfl rfl), Nat.le_of_ble_eq_true rfl⟩
theorem mo3_75 : mOK 3 (75, MX4_begin, 3, 0, 4) := ⟨mgX4_begin, by decide +kernel, (tq5 25 rfl rfl), (tq4 24 rfl rfl), (tq4 25 rfl rfl), Nat.le_of_ble_eq_true rfl⟩
theorem mo3_79 : mOK 3 (79, MX4_leaveAlone, 1, 0, 4) := ⟨mgX4_leaveAlone, by decide +kernel, (tq5 26 rfl rfl), (tq5 10 rfl rfl), (tq5 11 rfl rfl), Nat.le_of_ble_eq_true rfl⟩
theorem mo3_83 : mOK 3 (83, MX4_go, 1, 0, 4) := ⟨mgX4_go, by decide +kernel, (tq5 27 rfl rfl), (tq5 1 rfl rfl), (tq5 2 rfl rfl), Nat.le_of_ble_eq_true rfl⟩
theorem mo3_48 : mOK 3 (48, MX3_putBack, 0, 0, 3) := ⟨mgX3_putBack, by decide +kernel, (tq5 28 rfl rfl), (tq5 30 rfl rfl), (tqp 35 rfl rfl), Nat.le_of_ble_eq_true rfl⟩
theorem mo3_51 : mOK 3 (51, MX3_keepsTime, 0, 0, 3) := ⟨mgX3_keepsTime, by decide +kernel, (tq5 32 rfl rfl), (tq5 34 rfl rfl), (tqp 36 rfl rfl), Nat.le_of_ble_eq_true rfl⟩
theorem mo3_111 : mOK 3 (111, MX4_advance, 0, 0, 4) := ⟨mgX4_advance, by decide +kernel, (tq5 36 rfl rfl), (tq4 107 rfl rfl), (tq4 108 rfl rfl), Nat.le_of_ble_eq_true rfl⟩
theorem mo3_114 : mOK 3 (114, MX11_distance, 2, 3, 11) := ⟨mgX11_distance, by decide +kernel, List.mem_of_getElem? (i := 8) rfl, (tq4 42 rfl rfl)⟩
theorem mo3_58 : mOK 3 (58, MX3_moveOne, 0, 0, 3) := ⟨mgX3_moveOne, by decide +kernel, (tq5 38 rfl rfl), (tq5 40 rfl rfl), (tqp 37 rfl rfl), Nat.le_of_ble_eq_true rfl⟩
theorem mo3_100 : mOK 3 (100, MX3_spots, 0, 0, 3) := ⟨mgX3_spots, by decide +kernel, (tq5 42 rfl rfl), (tq5 44 rfl rfl), (tqp 38 rfl rfl), Nat.le_of_ble_eq_true rfl⟩
theorem mo3_104 : mOK 3 (104, MX3_put, 3, 0, 3) := ⟨mgX3_put, by decide +kernel, (tq5 46 rfl rfl), (tq5 48 rfl rfl), (tqp 39 rfl rfl), Nat.le_of_ble_eq_true rfl⟩
theorem mo3_108 : mOK 3 (108, MX3_allApart, 0, 0, 3) := ⟨mgX3_allApart, by decide +kernel, (tq5 50 rfl rfl), (tq5 52 rfl rfl), (tqp 40 rfl rfl), Nat.le_of_ble_eq_true rfl⟩
theorem mo3_61 : mOK 3 (61, MX3_moveTwo, 0, 0, 3) := ⟨mgX3_moveTwo, by decide +kernel, (tq5 54 rfl rfl), (tq5 56 rfl rfl), (tqp 41 rfl rfl), Nat.le_of_ble_eq_true rfl⟩
theorem mT3_ok : ∀ x ∈ mT3, mOK 3 x := List.forall_mem_cons.mpr ⟨mo3_45, List.forall_mem_cons.mpr ⟨mo3_75, List.forall_mem_cons.mpr ⟨mo3_79, List.forall_mem_cons.mpr ⟨mo3_83, List.forall_mem_cons.mpr ⟨mo3_48, List.forall_mem_cons.mpr ⟨mo3_51, List.forall_mem_cons.mpr ⟨mo3_111, List.forall_mem_cons.mpr ⟨mo3_114, List.forall_mem_cons.mpr ⟨mo3_58, List.forall_mem_cons.mpr ⟨mo3_100, List.forall_mem_cons.mpr ⟨mo3_104, List.forall_mem_cons.mpr ⟨mo3_108, List.forall_mem_cons.mpr ⟨mo3_61, (fun _ h => absurd h List.not_mem_nil)⟩⟩⟩⟩⟩⟩⟩⟩⟩⟩⟩⟩⟩
def mT4 : List (Nat × Mth × Nat × Nat × Nat) := [(85, MX4_copy, 2, 2, 4), (94, MX4_measure, 0, 0, 4), (107, MX4_reachOf, 2, 0, 4), (114, MX11_distance, 2, 3, 11), (120, MX4_weighPulls, 0, 0, 4), (127, MX4_leanOf, 1, 2, 4), (123, MX4_move, 1, 0, 4), (135, MX2_worth, 3, 0, 2), (144, MX11_between, 3, 3, 11), (151, MX4_runners, 0, 0, 4), (155, MX11_apartOf, 2, 3, 11), (117, MX4_advance, 0, 0, 4), (97, MX4_begin, 3, 0, 4)]
theorem mo4_85 : mOK 4 (85, MX4_copy, 2, 2, 4) := ⟨mgX4_copy, by decide +kernel, (tq4 27 rfl rfl), (tq4 28 rfl rfl)⟩
theorem mo4_94 : mOK 4 (94, MX4_measure, 0, 0, 4) := ⟨mgX4_measure, by decide +kernel, (tq4 33 rfl rfl), (tq4 34 rfl rfl), (tq4 35 rfl rfl), Nat.le_of_ble_eq_true rfl⟩
theorem mo4_107 : mOK 4 (107, MX4_reachOf, 2, 0, 4) := ⟨mgX4_reachOf, by decide +kernel, (tq4 37 rfl rfl), (tq4 38 rfl rfl), (tq4 39 rfl rfl), Nat.le_of_ble_eq_true rfl⟩
theorem mo4_114 : mOK 4 (114, MX11_distance, 2, 3, 11) := ⟨mgX11_distance, by decide +kernel, List.mem_of_getElem? (i := 5) rfl, (tq4 42 rfl rfl)⟩
theorem mo4_120 : mOK 4 (120, MX4_weighPulls, 0, 0, 4) := ⟨mgX4_weighPulls, by decide +kernel, (tq4 94 rfl rfl), (tq4 96 rfl rfl), (tqp 30 rfl rfl), Nat.le_of_ble_eq_true rfl⟩
theorem mo4_127 : mOK 4 (127, MX4_leanOf, 1, 2, 4) := ⟨mgX4_leanOf, by decide +kernel, (tq4 98 rfl rfl), (tq4 99 rfl rfl)⟩
theorem mo4_123 : mOK 4 (123, MX4_move, 1, 0, 4) := ⟨mgX4_move, by decide +kernel, (tq4 110 rfl rfl), (tq4 112 rfl rfl), (tqp 31 rfl rfl), Nat.le_of_ble_eq_true rfl⟩
theorem mo4_135 : mOK 4 (135, MX2_worth, 3, 0, 2) := ⟨mgX2_worth, by decide +kernel, (tq4 114 rfl rfl), (tq4 115 rfl rfl), (tq4 116 rfl rfl), Nat.le_of_ble_eq_true rfl⟩
theorem mo4_144 : mOK 4 (144, MX11_between, 3, 3, 11) := ⟨mgX11_between, by decide +kernel, List.mem_of_getElem? (i := 6) rfl, (tq4 125 rfl rfl)⟩
theorem mo4_151 : mOK 4 (151, MX4_runners, 0, 0, 4) := ⟨mgX4_runners, by decide +kernel, (tq4 174 rfl rfl), (tq4 167 rfl rfl), (tq4 168 rfl rfl), Nat.le_of_ble_eq_true rfl⟩
theorem mo4_155 : mOK 4 (155, MX11_apartOf, 2, 3, 11) := ⟨mgX11_apartOf, by decide +kernel, List.mem_of_getElem? (i := 7) rfl, (tq4 152 rfl rfl)⟩
theorem mo4_117 : mOK 4 (117, MX4_advance, 0, 0, 4) := ⟨mgX4_advance, by decide +kernel, (tq5 4 rfl rfl), (tq4 107 rfl rfl), (tq4 108 rfl rfl), Nat.le_of_ble_eq_true rfl⟩
theorem mo4_97 : mOK 4 (97, MX4_begin, 3, 0, 4) := ⟨mgX4_begin, by decide +kernel, (tq5 177 rfl rfl), (tq4 24 rfl rfl), (tq4 25 rfl rfl), Nat.le_of_ble_eq_true rfl⟩
theorem mT4_ok : ∀ x ∈ mT4, mOK 4 x := List.forall_mem_cons.mpr ⟨mo4_85, List.forall_mem_cons.mpr ⟨mo4_94, List.forall_mem_cons.mpr ⟨mo4_107, List.forall_mem_cons.mpr ⟨mo4_114, List.forall_mem_cons.mpr ⟨mo4_120, List.forall_mem_cons.mpr ⟨mo4_127, List.forall_mem_cons.mpr ⟨mo4_123, List.forall_mem_cons.mpr ⟨mo4_135, List.forall_mem_cons.mpr ⟨mo4_144, List.forall_mem_cons.mpr ⟨mo4_151, List.forall_mem_cons.mpr ⟨mo4_155, List.forall_mem_cons.mpr ⟨mo4_117, List.forall_mem_cons.mpr ⟨mo4_97, (fun _ h => absurd h List.not_mem_nil)⟩⟩⟩⟩⟩⟩⟩⟩⟩⟩⟩⟩⟩
def mT5 : List (Nat × Mth × Nat × Nat × Nat) := []
theorem mT5_ok : ∀ x ∈ mT5, mOK 5 x := (fun _ h => absurd h List.not_mem_nil)
def mT6 : List (Nat × Mth × Nat × Nat × Nat) := [(44, MX6_tryLine, 1, 0, 6), (62, MX4_begin, 3, 0, 4), (69, MX4_advance, 0, 0, 4), (72, MX4_isTogether, 1, 0, 4), (48, MX6_nextLine, 1, 0, 6), (81, MX6_swap, 2, 0, 6)]
theorem mo6_44 : mOK 6 (44, MX6_tryLine, 1, 0, 6) := ⟨mgX6_tryLine, by decide +kernel, (tq5 75 rfl rfl), (tq5 77 rfl rfl), (tqp 43 rfl rfl), Nat.le_of_ble_eq_true rfl⟩
theorem mo6_62 : mOK 6 (62, MX4_begin, 3, 0, 4) := ⟨mgX4_begin, by decide +kernel, (tq5 79 rfl rfl), (tq4 24 rfl rfl), (tq4 25 rfl rfl), Nat.le_of_ble_eq_true rfl⟩
theorem mo6_69 : mOK 6 (69, MX4_advance, 0, 0, 4) := ⟨mgX4_advance, by decide +kernel, (tq5 80 rfl rfl), (tq4 107 rfl rfl), (tq4 108 rfl rfl), Nat.le_of_ble_eq_true rfl⟩
theorem mo6_72 : mOK 6 (72, MX4_isTogether, 1, 0, 4) := ⟨mgX4_isTogether, by decide +kernel, (tq5 81 rfl rfl), (tq5 82 rfl rfl), (tq5 83 rfl rfl), Nat.le_of_ble_eq_true rfl⟩
theorem mo6_48 : mOK 6 (48, MX6_nextLine, 1, 0, 6) := ⟨mgX6_nextLine, by decide +kernel, (tq5 86 rfl rfl), (tq5 88 rfl rfl), (tqp 44 rfl rfl), Nat.le_of_ble_eq_true rfl⟩
theorem mo6_81 : mOK 6 (81, MX6_swap, 2, 0, 6) := ⟨mgX6_swap, by decide +kernel, (tq5 90 rfl rfl), (tq5 92 rfl rfl), (tqp 45 rfl rfl), Nat.le_of_ble_eq_true rfl⟩
theorem mT6_ok : ∀ x ∈ mT6, mOK 6 x := List.forall_mem_cons.mpr ⟨mo6_44, List.forall_mem_cons.mpr ⟨mo6_62, List.forall_mem_cons.mpr ⟨mo6_69, List.forall_mem_cons.mpr ⟨mo6_72, List.forall_mem_cons.mpr ⟨mo6_48, List.forall_mem_cons.mpr ⟨mo6_81, (fun _ h => absurd h List.not_mem_nil)⟩⟩⟩⟩⟩⟩
def mT7 : List (Nat × Mth × Nat × Nat × Nat) := [(30, MX9_clear, 0, 0, 9), (45, MX10_begin, 1, 0, 10), (54, MX7_beamLine, 0, 0, 7), (70, MX7_refuse, 1, 0, 7), (74, MX10_next, 0, 0, 10), (89, MX7_newName, 1, 0, 7), (174, MX5_find, 1, 0, 5), (184, MX5_add, 1, 0, 5), (93, MX7_number, 2, 0, 7), (58, MX7_clockLine, 0, 0, 7), (109, MX7_toldName, 1, 0, 7), (117, MX7_freePlace, 4, 0, 7), (189, MX11_isTaken, 5, 3, 11), (127, MX7_extras, 1, 0, 7), (130, MX7_extraRow, 1, 0, 7), (61, MX7_wallLine, 0, 0, 7), (64, MX7_lawLine, 0, 0, 7), (161, MX7_expression, 1, 0, 7), (202, MX7_isValue, 0, 0, 7), (205, MX7_value, 1, 0, 7), (225, MX7_oneKnotMore, 0, 0, 7), (228, MX2_add, 2, 0, 2), (208, MX7_opening, 0, 0, 7), (231, MX7_await, 1, 0, 7), (211, MX7_rank, 1, 2, 7), (214, MX7_joining, 1, 0, 7), (221, MX7_release, 2, 0, 7), (217, MX7_closing, 1, 0, 7), (67, MX7_mayLine, 0, 0, 7), (168, MX7_hanging, 1, 0, 7)]
theorem mo7_30 : mOK 7 (30, MX9_clear, 0, 0, 9) := ⟨mgX9_clear, by decide +kernel, (tq3 127 rfl rfl), (tq3 128 rfl rfl), (tq3 129 rfl rfl), Nat.le_of_ble_eq_true rfl⟩
theorem mo7_45 : mOK 7 (45, MX10_begin, 1, 0, 10) := ⟨mgX10_begin, by decide +kernel, (tq3 135 rfl rfl), (tq3 136 rfl rfl), (tq3 137 rfl rfl), Nat.le_of_ble_eq_true rfl⟩
theorem mo7_54 : mOK 7 (54, MX7_beamLine, 0, 0, 7) := ⟨mgX7_beamLine, by decide +kernel, (tq3 156 rfl rfl), (tq3 158 rfl rfl), (tqp 5 rfl rfl), Nat.le_of_ble_eq_true rfl⟩
theorem mo7_70 : mOK 7 (70, MX7_refuse, 1, 0, 7) := ⟨mgX7_refuse, by decide +kernel, (tq3 160 rfl rfl), (tq3 162 rfl rfl), (tqp 6 rfl rfl), Nat.le_of_ble_eq_true rfl⟩
theorem mo7_74 : mOK 7 (74, MX10_next, 0, 0, 10) := ⟨mgX10_next, by decide +kernel, (tq3 164 rfl rfl), (tq3 140 rfl rfl), (tq3 141 rfl rfl), Nat.le_of_ble_eq_true rfl⟩
theorem mo7_89 : mOK 7 (89, MX7_newName, 1, 0, 7) := ⟨mgX7_newName, by decide +kernel, (tq3 165 rfl rfl), (tq3 167 rfl rfl), (tqp 7 rfl rfl), Nat.le_of_ble_eq_true rfl⟩
theorem mo7_174 : mOK 7 (174, MX5_find, 1, 0, 5) := ⟨mgX5_find, by decide +kernel, (tq3 169 rfl rfl), (tq3 170 rfl rfl), (tq3 171 rfl rfl), Nat.le_of_ble_eq_true rfl⟩
theorem mo7_184 : mOK 7 (184, MX5_add, 1, 0, 5) := ⟨mgX5_add, by decide +kernel, (tq3 173 rfl rfl), (tq3 174 rfl rfl), (tq3 175 rfl rfl), Nat.le_of_ble_eq_true rfl⟩
theorem mo7_93 : mOK 7 (93, MX7_number, 2, 0, 7) := ⟨mgX7_number, by decide +kernel, (tq3 177 rfl rfl), (tq3 179 rfl rfl), (tqp 8 rfl rfl), Nat.le_of_ble_eq_true rfl⟩
theorem mo7_58 : mOK 7 (58, MX7_clockLine, 0, 0, 7) := ⟨mgX7_clockLine, by decide +kernel, (tq3 181 rfl rfl), (tq3 183 rfl rfl), (tqp 9 rfl rfl), Nat.le_of_ble_eq_true rfl⟩
theorem mo7_109 : mOK 7 (109, MX7_toldName, 1, 0, 7) := ⟨mgX7_toldName, by decide +kernel, (tq3 185 rfl rfl), (tq3 187 rfl rfl), (tqp 10 rfl rfl), Nat.le_of_ble_eq_true rfl⟩
theorem mo7_117 : mOK 7 (117, MX7_freePlace, 4, 0, 7) := ⟨mgX7_freePlace, by decide +kernel, (tq3 189 rfl rfl), (tq3 191 rfl rfl), (tqp 11 rfl rfl), Nat.le_of_ble_eq_true rfl⟩
theorem mo7_189 : mOK 7 (189, MX11_isTaken, 5, 3, 11) := ⟨mgX11_isTaken, by decide +kernel, List.mem_of_getElem? (i := 4) rfl, (tq3 194 rfl rfl)⟩
theorem mo7_127 : mOK 7 (127, MX7_extras, 1, 0, 7) := ⟨mgX7_extras, by decide +kernel, (tq3 196 rfl rfl), (tq3 198 rfl rfl), (tqp 12 rfl rfl), Nat.le_of_ble_eq_true rfl⟩
theorem mo7_130 : mOK 7 (130, MX7_extraRow, 1, 0, 7) := ⟨mgX7_extraRow, by decide +kernel, (tq3 200 rfl rfl), (tq3 202 rfl rfl), (tqp 13 rfl rfl), Nat.le_of_ble_eq_true rfl⟩
theorem mo7_61 : mOK 7 (61, MX7_wallLine, 0, 0, 7) := ⟨mgX7_wallLine, by decide +kernel, (tq3 204 rfl rfl), (tq3 206 rfl rfl), (tqp 14 rfl rfl), Nat.le_of_ble_eq_true rfl⟩
theorem mo7_64 : mOK 7 (64, MX7_lawLine, 0, 0, 7) := ⟨mgX7_lawLine, by decide +kernel, (tq3 208 rfl rfl), (tq3 210 rfl rfl), (tqp 15 rfl rfl), Nat.le_of_ble_eq_true rfl⟩
theorem mo7_161 : mOK 7 (161, MX7_expression, 1, 0, 7) := ⟨mgX7_expression, by decide +kernel, (tq3 212 rfl rfl), (tq3 214 rfl rfl), (tqp 16 rfl rfl), Nat.le_of_ble_eq_true rfl⟩
theorem mo7_202 : mOK 7 (202, MX7_isValue, 0, 0, 7) := ⟨mgX7_isValue, by decide +kernel, (tq3 216 rfl rfl), (tq3 218 rfl rfl), (tqp 17 rfl rfl), Nat.le_of_ble_eq_true rfl⟩
theorem mo7_205 : mOK 7 (205, MX7_value, 1, 0, 7) := ⟨mgX7_value, by decide +kernel, (tq3 220 rfl rfl), (tq3 222 rfl rfl), (tqp 18 rfl rfl), Nat.le_of_ble_eq_true rfl⟩
theorem mo7_225 : mOK 7 (225, MX7_oneKnotMore, 0, 0, 7) := ⟨mgX7_oneKnotMore, by decide +kernel, (tq3 224 rfl rfl), (tq3 226 rfl rfl), (tqp 19 rfl rfl), Nat.le_of_ble_eq_true rfl⟩
theorem mo7_228 : mOK 7 (228, MX2_add, 2, 0, 2) := ⟨mgX2_add, by decide +kernel, (tq3 228 rfl rfl), (tq3 229 rfl rfl), (tq3 230 rfl rfl), Nat.le_of_ble_eq_true rfl⟩
theorem mo7_208 : mOK 7 (208, MX7_opening, 0, 0, 7) := ⟨mgX7_opening, by decide +kernel, (tq3 232 rfl rfl), (tq3 234 rfl rfl), (tqp 20 rfl rfl), Nat.le_of_ble_eq_true rfl⟩
theorem mo7_231 : mOK 7 (231, MX7_await, 1, 0, 7) := ⟨mgX7_await, by decide +kernel, (tq3 236 rfl rfl), (tq3 238 rfl rfl), (tqp 21 rfl rfl), Nat.le_of_ble_eq_true rfl⟩
theorem mo7_211 : mOK 7 (211, MX7_rank, 1, 2, 7) := ⟨mgX7_rank, by decide +kernel, (tq4 0 rfl rfl), (tq4 1 rfl rfl)⟩
theorem mo7_214 : mOK 7 (214, MX7_joining, 1, 0, 7) := ⟨mgX7_joining, by decide +kernel, (tq4 3 rfl rfl), (tq4 5 rfl rfl), (tqp 22 rfl rfl), Nat.le_of_ble_eq_true rfl⟩
theorem mo7_221 : mOK 7 (221, MX7_release, 2, 0, 7) := ⟨mgX7_release, by decide +kernel, (tq4 7 rfl rfl), (tq4 9 rfl rfl), (tqp 23 rfl rfl), Nat.le_of_ble_eq_true rfl⟩
theorem mo7_217 : mOK 7 (217, MX7_closing, 1, 0, 7) := ⟨mgX7_closing, by decide +kernel, (tq4 11 rfl rfl), (tq4 13 rfl rfl), (tqp 24 rfl rfl), Nat.le_of_ble_eq_true rfl⟩
theorem mo7_67 : mOK 7 (67, MX7_mayLine, 0, 0, 7) := ⟨mgX7_mayLine, by decide +kernel, (tq4 15 rfl rfl), (tq4 17 rfl rfl), (tqp 25 rfl rfl), Nat.le_of_ble_eq_true rfl⟩
theorem mo7_168 : mOK 7 (168, MX7_hanging, 1, 0, 7) := ⟨mgX7_hanging, by decide +kernel, (tq4 19 rfl rfl), (tq4 21 rfl rfl), (tqp 26 rfl rfl), Nat.le_of_ble_eq_true rfl⟩
theorem mT7_ok : ∀ x ∈ mT7, mOK 7 x := List.forall_mem_cons.mpr ⟨mo7_30, List.forall_mem_cons.mpr ⟨mo7_45, List.forall_mem_cons.mpr ⟨mo7_54, List.forall_mem_cons.mpr ⟨mo7_70, List.forall_mem_cons.mpr ⟨mo7_74, List.forall_mem_cons.mpr ⟨mo7_89, List.forall_mem_cons.mpr ⟨mo7_174, List.forall_mem_cons.mpr ⟨mo7_184, List.forall_mem_cons.mpr ⟨mo7_93, List.forall_mem_cons.mpr ⟨mo7_58, List.forall_mem_cons.mpr ⟨mo7_109, List.forall_mem_cons.mpr ⟨mo7_117, List.forall_mem_cons.mpr ⟨mo7_189, List.forall_mem_cons.mpr ⟨mo7_127, List.forall_mem_cons.mpr ⟨mo7_130, List.forall_mem_cons.mpr ⟨mo7_61, List.forall_mem_cons.mpr ⟨mo7_64, List.forall_mem_cons.mpr ⟨mo7_161, List.forall_mem_cons.mpr ⟨mo7_202, List.forall_mem_cons.mpr ⟨mo7_205, List.forall_mem_cons.mpr ⟨mo7_225, List.forall_mem_cons.mpr ⟨mo7_228, List.forall_mem_cons.mpr ⟨mo7_208, List.forall_mem_cons.mpr ⟨mo7_231, List.forall_mem_cons.mpr ⟨mo7_211, List.forall_mem_cons.mpr ⟨mo7_214, List.forall_mem_cons.mpr ⟨mo7_221, List.forall_mem_cons.mpr ⟨mo7_217, List.forall_mem_cons.mpr ⟨mo7_67, List.forall_mem_cons.mpr ⟨mo7_168, (fun _ h => absurd h List.not_mem_nil)⟩⟩⟩⟩⟩⟩⟩⟩⟩⟩⟩⟩⟩⟩⟩⟩⟩⟩⟩⟩⟩⟩⟩⟩⟩⟩⟩⟩⟩⟩
def mT8 : List (Nat × Mth × Nat × Nat × Nat) := [(35, MX8_isFall, 1, 0, 8), (39, MJ6_bitCount_0f7a4, 1, 2, 14)]
theorem mo8_35 : mOK 8 (35, MX8_isFall, 1, 0, 8) := ⟨mgX8_isFall, by decide +kernel, (tq4 188 rfl rfl), (tq4 190 rfl rfl), (tqp 32 rfl rfl), Nat.le_of_ble_eq_true rfl⟩
theorem mo8_39 : mOK 8 (39, MJ6_bitCount_0f7a4, 1, 2, 14) := ⟨mgJ6_bitCount_0f7a4, by decide +kernel, (tq4 192 rfl rfl), (tq4 193 rfl rfl)⟩
theorem mT8_ok : ∀ x ∈ mT8, mOK 8 x := List.forall_mem_cons.mpr ⟨mo8_35, List.forall_mem_cons.mpr ⟨mo8_39, (fun _ h => absurd h List.not_mem_nil)⟩⟩
def mT9 : List (Nat × Mth × Nat × Nat × Nat) := [(11, MX5_init, 1, 4, 5), (65, MX2_init, 0, 5, 2), (73, MX9_forgetHangings, 0, 0, 9), (83, MX2_clear, 0, 0, 2)]
theorem mo9_11 : mOK 9 (11, MX5_init, 1, 4, 5) := ⟨mgX5_init, by decide +kernel, (tq1 41 rfl rfl), (tq1 42 rfl rfl), rfl, rfl⟩
theorem mo9_65 : mOK 9 (65, MX2_init, 0, 5, 2) := ⟨mgX2_init, by decide +kernel, List.mem_of_getElem? (i := 0) rfl, (tq1 62 rfl rfl), rfl, rfl⟩
theorem mo9_73 : mOK 9 (73, MX9_forgetHangings, 0, 0, 9) := ⟨mgX9_forgetHangings, by decide +kernel, (tq1 84 rfl rfl), (tq1 86 rfl rfl), (tqp 0 rfl rfl), Nat.le_of_ble_eq_true rfl⟩
theorem mo9_83 : mOK 9 (83, MX2_clear, 0, 0, 2) := ⟨mgX2_clear, by decide +kernel, (tq3 131 rfl rfl), (tq3 132 rfl rfl), (tq3 133 rfl rfl), Nat.le_of_ble_eq_true rfl⟩
theorem mT9_ok : ∀ x ∈ mT9, mOK 9 x := List.forall_mem_cons.mpr ⟨mo9_11, List.forall_mem_cons.mpr ⟨mo9_65, List.forall_mem_cons.mpr ⟨mo9_73, List.forall_mem_cons.mpr ⟨mo9_83, (fun _ h => absurd h List.not_mem_nil)⟩⟩⟩⟩
def mT10 : List (Nat × Mth × Nat × Nat × Nat) := [(37, MX10_next, 0, 0, 10), (46, MX10_readWord, 0, 0, 10), (49, MX10_readNumber, 0, 0, 10), (52, MX10_readSign, 0, 0, 10)]
theorem mo10_37 : mOK 10 (37, MX10_next, 0, 0, 10) := ⟨mgX10_next, by decide +kernel, (tq3 139 rfl rfl), (tq3 140 rfl rfl), (tq3 141 rfl rfl), Nat.le_of_ble_eq_true rfl⟩
theorem mo10_46 : mOK 10 (46, MX10_readWord, 0, 0, 10) := ⟨mgX10_readWord, by decide +kernel, (tq3 143 rfl rfl), (tq3 145 rfl rfl), (tqp 2 rfl rfl), Nat.le_of_ble_eq_true rfl⟩
theorem mo10_49 : mOK 10 (49, MX10_readNumber, 0, 0, 10) := ⟨mgX10_readNumber, by decide +kernel, (tq3 147 rfl rfl), (tq3 149 rfl rfl), (tqp 3 rfl rfl), Nat.le_of_ble_eq_true rfl⟩
theorem mo10_52 : mOK 10 (52, MX10_readSign, 0, 0, 10) := ⟨mgX10_readSign, by decide +kernel, (tq3 152 rfl rfl), (tq3 154 rfl rfl), (tqp 4 rfl rfl), Nat.le_of_ble_eq_true rfl⟩
theorem mT10_ok : ∀ x ∈ mT10, mOK 10 x := List.forall_mem_cons.mpr ⟨mo10_37, List.forall_mem_cons.mpr ⟨mo10_46, List.forall_mem_cons.mpr ⟨mo10_49, List.forall_mem_cons.mpr ⟨mo10_52, (fun _ h => absurd h List.not_mem_nil)⟩⟩⟩⟩
def mT11 : List (Nat × Mth × Nat × Nat × Nat) := [(19, MX9_init, 0, 4, 9), (31, MX10_init, 1, 4, 10), (34, MX7_init, 2, 4, 7), (43, MX4_init, 1, 4, 4), (62, MX8_init, 0, 5, 8), (69, MX0_init, 0, 5, 0), (76, MX1_init, 0, 5, 1), (83, MX3_init, 1, 4, 3), (92, MX6_init, 1, 4, 6), (107, MX11_tapeNumber, 1, 0, 11), (111, MX7_reads, 2, 0, 7), (121, MX4_begin, 3, 0, 4), (125, MX0_forget, 0, 0, 0), (128, MX1_forget, 0, 0, 1), (129, MX11_forgetFound, 0, 0, 11), (367, MX3_forget, 0, 0, 3), (368, MX6_forget, 0, 0, 6), (145, MX5_find, 1, 0, 5), (193, MX11_areTwoClocks, 2, 0, 11), (157, MX11_isClock, 1, 0, 11), (197, MX4_reachOf, 2, 0, 4), (201, MX4_pullOf, 1, 0, 4), (210, MX4_advance, 0, 0, 4), (213, MX8_tell, 1, 0, 8), (216, MX8_phaseAt, 2, 0, 8), (219, MX8_strokeStep, 3, 0, 8), (223, MX11_apartOf, 2, 2, 11), (287, MX11_distance, 2, 2, 11), (226, MX11_isApart, 1, 2, 11), (229, MX4_runners, 0, 0, 4), (233, MX4_groupOf, 2, 0, 4), (236, MX8_fallsUpTo, 1, 0, 8), (239, MX8_fallStep, 2, 0, 8), (245, MX11_isTaken, 5, 2, 11), (249, MX0_note, 2, 0, 0), (253, MX4_measure, 0, 0, 4), (256, MX0_takeBack, 1, 0, 0), (261, MX11_isRun, 1, 2, 11), (264, MX11_beginTrial, 0, 0, 11), (267, MX4_go, 1, 0, 4), (270, MX4_leaveAlone, 1, 0, 4), (273, MX3_find, 4, 0, 3), (284, MX11_countAtSpeed, 3, 0, 11), (290, MX6_find, 4, 0, 6), (297, MX11_dueStep, 2, 0, 11), (300, MX1_add, 3, 0, 1), (307, MX1_settle, 0, 0, 1), (310, MX1_lastStep, 0, 0, 1), (313, MX9_hangings, 3, 0, 9), (320, MX1_agrees, 1, 0, 1), (324, MX11_canBeTried, 2, 0, 11), (327, MX11_changeTrial, 2, 0, 11), (381, MX11_between, 3, 2, 11), (341, MX4_isTogether, 1, 0, 4), (344, MX4_take, 1, 0, 4), (358, MX1_asked, 0, 0, 1), (361, MJ6_bitCount_0f7a4, 1, 2, 14), (364, MX4_allCounts, 0, 0, 4)]
theorem mo11_19 : mOK 11 (19, MX9_init, 0, 4, 9) := ⟨mgX9_init, by decide +kernel, (tq1 35 rfl rfl), (tq1 36 rfl rfl), rfl, rfl⟩
theorem mo11_31 : mOK 11 (31, MX10_init, 1, 4, 10) := ⟨mgX10_init, by decide +kernel, (tq1 186 rfl rfl), (tq1 187 rfl rfl), rfl, rfl⟩
theorem mo11_34 : mOK 11 (34, MX7_init, 2, 4, 7) := ⟨mgX7_init, by decide +kernel, (tq2 28 rfl rfl), (tq2 29 rfl rfl), rfl, rfl⟩
theorem mo11_43 : mOK 11 (43, MX4_init, 1, 4, 4) := ⟨mgX4_init, by decide +kernel, (tq2 74 rfl rfl), (tq2 75 rfl rfl), rfl, rfl⟩
theorem mo11_62 : mOK 11 (62, MX8_init, 0, 5, 8) := ⟨mgX8_init, by decide +kernel, List.mem_of_getElem? (i := 1) rfl, (tq2 171 rfl rfl), rfl, rfl⟩
theorem mo11_69 : mOK 11 (69, MX0_init, 0, 5, 0) := ⟨mgX0_init, by decide +kernel, List.mem_of_getElem? (i := 2) rfl, (tq2 185 rfl rfl), rfl, rfl⟩
theorem mo11_76 : mOK 11 (76, MX1_init, 0, 5, 1) := ⟨mgX1_init, by decide +kernel, List.mem_of_getElem? (i := 3) rfl, (tq2 199 rfl rfl), rfl, rfl⟩
theorem mo11_83 : mOK 11 (83, MX3_init, 1, 4, 3) := ⟨mgX3_init, by decide +kernel, (tq2 226 rfl rfl), (tq2 227 rfl rfl), rfl, rfl⟩
theorem mo11_92 : mOK 11 (92, MX6_init, 1, 4, 6) := ⟨mgX6_init, by decide +kernel, (tq3 28 rfl rfl), (tq3 29 rfl rfl), rfl, rfl⟩
theorem mo11_107 : mOK 11 (107, MX11_tapeNumber, 1, 0, 11) := ⟨mgX11_tapeNumber, by decide +kernel, (tq3 115 rfl rfl), (tq3 117 rfl rfl), (tqp 1 rfl rfl), Nat.le_of_ble_eq_true rfl⟩
theorem mo11_111 : mOK 11 (111, MX7_reads, 2, 0, 7) := ⟨mgX7_reads, by decide +kernel, (tq3 123 rfl rfl), (tq3 124 rfl rfl), (tq3 125 rfl rfl), Nat.le_of_ble_eq_true rfl⟩
theorem mo11_121 : mOK 11 (121, MX4_begin, 3, 0, 4) := ⟨mgX4_begin, by decide +kernel, (tq4 23 rfl rfl), (tq4 24 rfl rfl), (tq4 25 rfl rfl), Nat.le_of_ble_eq_true rfl⟩
theorem mo11_125 : mOK 11 (125, MX0_forget, 0, 0, 0) := ⟨mgX0_forget, by decide +kernel, (tq4 44 rfl rfl), (tq4 45 rfl rfl), (tq4 46 rfl rfl), Nat.le_of_ble_eq_true rfl⟩
theorem mo11_128 : mOK 11 (128, MX1_forget, 0, 0, 1) := ⟨mgX1_forget, by decide +kernel, (tq4 48 rfl rfl), (tq4 49 rfl rfl), (tq4 50 rfl rfl), Nat.le_of_ble_eq_true rfl⟩
theorem mo11_129 : mOK 11 (129, MX11_forgetFound, 0, 0, 11) := ⟨mgX11_forgetFound, by decide +kernel, (tq4 52 rfl rfl), (tq4 54 rfl rfl), (tqp 27 rfl rfl), Nat.le_of_ble_eq_true rfl⟩
theorem mo11_367 : mOK 11 (367, MX3_forget, 0, 0, 3) := ⟨mgX3_forget, by decide +kernel, (tq4 56 rfl rfl), (tq4 57 rfl rfl), (tq4 58 rfl rfl), Nat.le_of_ble_eq_true rfl⟩
theorem mo11_368 : mOK 11 (368, MX6_forget, 0, 0, 6) := ⟨mgX6_forget, by decide +kernel, (tq4 60 rfl rfl), (tq4 61 rfl rfl), (tq4 62 rfl rfl), Nat.le_of_ble_eq_true rfl⟩
theorem mo11_145 : mOK 11 (145, MX5_find, 1, 0, 5) := ⟨mgX5_find, by decide +kernel, (tq4 72 rfl rfl), (tq3 170 rfl rfl), (tq3 171 rfl rfl), Nat.le_of_ble_eq_true rfl⟩
theorem mo11_193 : mOK 11 (193, MX11_areTwoClocks, 2, 0, 11) := ⟨mgX11_areTwoClocks, by decide +kernel, (tq4 77 rfl rfl), (tq4 79 rfl rfl), (tqp 28 rfl rfl), Nat.le_of_ble_eq_true rfl⟩
theorem mo11_157 : mOK 11 (157, MX11_isClock, 1, 0, 11) := ⟨mgX11_isClock, by decide +kernel, (tq4 81 rfl rfl), (tq4 83 rfl rfl), (tqp 29 rfl rfl), Nat.le_of_ble_eq_true rfl⟩
theorem mo11_197 : mOK 11 (197, MX4_reachOf, 2, 0, 4) := ⟨mgX4_reachOf, by decide +kernel, (tq4 85 rfl rfl), (tq4 38 rfl rfl), (tq4 39 rfl rfl), Nat.le_of_ble_eq_true rfl⟩
theorem mo11_201 : mOK 11 (201, MX4_pullOf, 1, 0, 4) := ⟨mgX4_pullOf, by decide +kernel, (tq4 90 rfl rfl), (tq4 91 rfl rfl), (tq4 92 rfl rfl), Nat.le_of_ble_eq_true rfl⟩
theorem mo11_210 : mOK 11 (210, MX4_advance, 0, 0, 4) := ⟨mgX4_advance, by decide +kernel, (tq4 106 rfl rfl), (tq4 107 rfl rfl), (tq4 108 rfl rfl), Nat.le_of_ble_eq_true rfl⟩
theorem mo11_213 : mOK 11 (213, MX8_tell, 1, 0, 8) := ⟨mgX8_tell, by decide +kernel, (tq4 127 rfl rfl), (tq4 128 rfl rfl), (tq4 129 rfl rfl), Nat.le_of_ble_eq_true rfl⟩
theorem mo11_216 : mOK 11 (216, MX8_phaseAt, 2, 0, 8) := ⟨mgX8_phaseAt, by decide +kernel, (tq4 135 rfl rfl), (tq4 136 rfl rfl), (tq4 137 rfl rfl), Nat.le_of_ble_eq_true rfl⟩
theorem mo11_219 : mOK 11 (219, MX8_strokeStep, 3, 0, 8) := ⟨mgX8_strokeStep, by decide +kernel, (tq4 143 rfl rfl), (tq4 144 rfl rfl), (tq4 145 rfl rfl), Nat.le_of_ble_eq_true rfl⟩
theorem mo11_223 : mOK 11 (223, MX11_apartOf, 2, 2, 11) := ⟨mgX11_apartOf, by decide +kernel, (tq4 151 rfl rfl), (tq4 152 rfl rfl)⟩
theorem mo11_287 : mOK 11 (287, MX11_distance, 2, 2, 11) := ⟨mgX11_distance, by decide +kernel, (tq4 154 rfl rfl), (tq4 42 rfl rfl)⟩
theorem mo11_226 : mOK 11 (226, MX11_isApart, 1, 2, 11) := ⟨mgX11_isApart, by decide +kernel, (tq4 159 rfl rfl), (tq4 160 rfl rfl)⟩
theorem mo11_229 : mOK 11 (229, MX4_runners, 0, 0, 4) := ⟨mgX4_runners, by decide +kernel, (tq4 166 rfl rfl), (tq4 167 rfl rfl), (tq4 168 rfl rfl), Nat.le_of_ble_eq_true rfl⟩
theorem mo11_233 : mOK 11 (233, MX4_groupOf, 2, 0, 4) := ⟨mgX4_groupOf, by decide +kernel, (tq4 170 rfl rfl), (tq4 171 rfl rfl), (tq4 172 rfl rfl), Nat.le_of_ble_eq_true rfl⟩
theorem mo11_236 : mOK 11 (236, MX8_fallsUpTo, 1, 0, 8) := ⟨mgX8_fallsUpTo, by decide +kernel, (tq4 184 rfl rfl), (tq4 185 rfl rfl), (tq4 186 rfl rfl), Nat.le_of_ble_eq_true rfl⟩
theorem mo11_239 : mOK 11 (239, MX8_fallStep, 2, 0, 8) := ⟨mgX8_fallStep, by decide +kernel, (tq4 202 rfl rfl), (tq4 203 rfl rfl), (tq4 204 rfl rfl), Nat.le_of_ble_eq_true rfl⟩
theorem mo11_245 : mOK 11 (245, MX11_isTaken, 5, 2, 11) := ⟨mgX11_isTaken, by decide +kernel, (tq4 210 rfl rfl), (tq3 194 rfl rfl)⟩
theorem mo11_249 : mOK 11 (249, MX0_note, 2, 0, 0) := ⟨mgX0_note, by decide +kernel, (tq4 211 rfl rfl), (tq4 212 rfl rfl), (tq4 213 rfl rfl), Nat.le_of_ble_eq_true rfl⟩
theorem mo11_253 : mOK 11 (253, MX4_measure, 0, 0, 4) := ⟨mgX4_measure, by decide +kernel, (tq4 216 rfl rfl), (tq4 34 rfl rfl), (tq4 35 rfl rfl), Nat.le_of_ble_eq_true rfl⟩
theorem mo11_256 : mOK 11 (256, MX0_takeBack, 1, 0, 0) := ⟨mgX0_takeBack, by decide +kernel, (tq4 225 rfl rfl), (tq4 226 rfl rfl), (tq4 227 rfl rfl), Nat.le_of_ble_eq_true rfl⟩
theorem mo11_261 : mOK 11 (261, MX11_isRun, 1, 2, 11) := ⟨mgX11_isRun, by decide +kernel, (tq4 233 rfl rfl), (tq4 234 rfl rfl)⟩
theorem mo11_264 : mOK 11 (264, MX11_beginTrial, 0, 0, 11) := ⟨mgX11_beginTrial, by decide +kernel, (tq4 236 rfl rfl), (tq4 238 rfl rfl), (tqp 33 rfl rfl), Nat.le_of_ble_eq_true rfl⟩
theorem mo11_267 : mOK 11 (267, MX4_go, 1, 0, 4) := ⟨mgX4_go, by decide +kernel, (tq5 0 rfl rfl), (tq5 1 rfl rfl), (tq5 2 rfl rfl), Nat.le_of_ble_eq_true rfl⟩
theorem mo11_270 : mOK 11 (270, MX4_leaveAlone, 1, 0, 4) := ⟨mgX4_leaveAlone, by decide +kernel, (tq5 9 rfl rfl), (tq5 10 rfl rfl), (tq5 11 rfl rfl), Nat.le_of_ble_eq_true rfl⟩
theorem mo11_273 : mOK 11 (273, MX3_find, 4, 0, 3) := ⟨mgX3_find, by decide +kernel, (tq5 17 rfl rfl), (tq5 18 rfl rfl), (tq5 19 rfl rfl), Nat.le_of_ble_eq_true rfl⟩
theorem mo11_284 : mOK 11 (284, MX11_countAtSpeed, 3, 0, 11) := ⟨mgX11_countAtSpeed, by decide +kernel, (tq5 63 rfl rfl), (tq5 65 rfl rfl), (tqp 42 rfl rfl), Nat.le_of_ble_eq_true rfl⟩
theorem mo11_290 : mOK 11 (290, MX6_find, 4, 0, 6) := ⟨mgX6_find, by decide +kernel, (tq5 71 rfl rfl), (tq5 72 rfl rfl), (tq5 73 rfl rfl), Nat.le_of_ble_eq_true rfl⟩
theorem mo11_297 : mOK 11 (297, MX11_dueStep, 2, 0, 11) := ⟨mgX11_dueStep, by decide +kernel, (tq5 98 rfl rfl), (tq5 100 rfl rfl), (tqp 46 rfl rfl), Nat.le_of_ble_eq_true rfl⟩
theorem mo11_300 : mOK 11 (300, MX1_add, 3, 0, 1) := ⟨mgX1_add, by decide +kernel, (tq5 110 rfl rfl), (tq5 111 rfl rfl), (tq5 112 rfl rfl), Nat.le_of_ble_eq_true rfl⟩
theorem mo11_307 : mOK 11 (307, MX1_settle, 0, 0, 1) := ⟨mgX1_settle, by decide +kernel, (tq5 126 rfl rfl), (tq5 127 rfl rfl), (tq5 128 rfl rfl), Nat.le_of_ble_eq_true rfl⟩
theorem mo11_310 : mOK 11 (310, MX1_lastStep, 0, 0, 1) := ⟨mgX1_lastStep, by decide +kernel, (tq5 134 rfl rfl), (tq5 135 rfl rfl), (tq5 136 rfl rfl), Nat.le_of_ble_eq_true rfl⟩
theorem mo11_313 : mOK 11 (313, MX9_hangings, 3, 0, 9) := ⟨mgX9_hangings, by decide +kernel, (tq5 138 rfl rfl), (tq5 139 rfl rfl), (tq5 140 rfl rfl), Nat.le_of_ble_eq_true rfl⟩
theorem mo11_320 : mOK 11 (320, MX1_agrees, 1, 0, 1) := ⟨mgX1_agrees, by decide +kernel, (tq5 142 rfl rfl), (tq5 143 rfl rfl), (tq5 144 rfl rfl), Nat.le_of_ble_eq_true rfl⟩
theorem mo11_324 : mOK 11 (324, MX11_canBeTried, 2, 0, 11) := ⟨mgX11_canBeTried, by decide +kernel, (tq5 150 rfl rfl), (tq5 152 rfl rfl), (tqp 47 rfl rfl), Nat.le_of_ble_eq_true rfl⟩
theorem mo11_327 : mOK 11 (327, MX11_changeTrial, 2, 0, 11) := ⟨mgX11_changeTrial, by decide +kernel, (tq5 154 rfl rfl), (tq5 156 rfl rfl), (tqp 48 rfl rfl), Nat.le_of_ble_eq_true rfl⟩
theorem mo11_381 : mOK 11 (381, MX11_between, 3, 2, 11) := ⟨mgX11_between, by decide +kernel, (tq5 158 rfl rfl), (tq4 125 rfl rfl)⟩
theorem mo11_341 : mOK 11 (341, MX4_isTogether, 1, 0, 4) := ⟨mgX4_isTogether, by decide +kernel, (tq5 168 rfl rfl), (tq5 82 rfl rfl), (tq5 83 rfl rfl), Nat.le_of_ble_eq_true rfl⟩
theorem mo11_344 : mOK 11 (344, MX4_take, 1, 0, 4) := ⟨mgX4_take, by decide +kernel, (tq5 173 rfl rfl), (tq5 174 rfl rfl), (tq5 175 rfl rfl), Nat.le_of_ble_eq_true rfl⟩
theorem mo11_358 : mOK 11 (358, MX1_asked, 0, 0, 1) := ⟨mgX1_asked, by decide +kernel, (tq5 186 rfl rfl), (tq5 131 rfl rfl), (tq5 132 rfl rfl), Nat.le_of_ble_eq_true rfl⟩
theorem mo11_361 : mOK 11 (361, MJ6_bitCount_0f7a4, 1, 2, 14) := ⟨mgJ6_bitCount_0f7a4, by decide +kernel, (tq5 187 rfl rfl), (tq4 193 rfl rfl)⟩
theorem mo11_364 : mOK 11 (364, MX4_allCounts, 0, 0, 4) := ⟨mgX4_allCounts, by decide +kernel, (tq5 188 rfl rfl), (tq5 189 rfl rfl), (tq5 190 rfl rfl), Nat.le_of_ble_eq_true rfl⟩
theorem mT11_ok : ∀ x ∈ mT11, mOK 11 x := List.forall_mem_cons.mpr ⟨mo11_19, List.forall_mem_cons.mpr ⟨mo11_31, List.forall_mem_cons.mpr ⟨mo11_34, List.forall_mem_cons.mpr ⟨mo11_43, List.forall_mem_cons.mpr ⟨mo11_62, List.forall_mem_cons.mpr ⟨mo11_69, List.forall_mem_cons.mpr ⟨mo11_76, List.forall_mem_cons.mpr ⟨mo11_83, List.forall_mem_cons.mpr ⟨mo11_92, List.forall_mem_cons.mpr ⟨mo11_107, List.forall_mem_cons.mpr ⟨mo11_111, List.forall_mem_cons.mpr ⟨mo11_121, List.forall_mem_cons.mpr ⟨mo11_125, List.forall_mem_cons.mpr ⟨mo11_128, List.forall_mem_cons.mpr ⟨mo11_129, List.forall_mem_cons.mpr ⟨mo11_367, List.forall_mem_cons.mpr ⟨mo11_368, List.forall_mem_cons.mpr ⟨mo11_145, List.forall_mem_cons.mpr ⟨mo11_193, List.forall_mem_cons.mpr ⟨mo11_157, List.forall_mem_cons.mpr ⟨mo11_197, List.forall_mem_cons.mpr ⟨mo11_201, List.forall_mem_cons.mpr ⟨mo11_210, List.forall_mem_cons.mpr ⟨mo11_213, List.forall_mem_cons.mpr ⟨mo11_216, List.forall_mem_cons.mpr ⟨mo11_219, List.forall_mem_cons.mpr ⟨mo11_223, List.forall_mem_cons.mpr ⟨mo11_287, List.forall_mem_cons.mpr ⟨mo11_226, List.forall_mem_cons.mpr ⟨mo11_229, List.forall_mem_cons.mpr ⟨mo11_233, List.forall_mem_cons.mpr ⟨mo11_236, List.forall_mem_cons.mpr ⟨mo11_239, List.forall_mem_cons.mpr ⟨mo11_245, List.forall_mem_cons.mpr ⟨mo11_249, List.forall_mem_cons.mpr ⟨mo11_253, List.forall_mem_cons.mpr ⟨mo11_256, List.forall_mem_cons.mpr ⟨mo11_261, List.forall_mem_cons.mpr ⟨mo11_264, List.forall_mem_cons.mpr ⟨mo11_267, List.forall_mem_cons.mpr ⟨mo11_270, List.forall_mem_cons.mpr ⟨mo11_273, List.forall_mem_cons.mpr ⟨mo11_284, List.forall_mem_cons.mpr ⟨mo11_290, List.forall_mem_cons.mpr ⟨mo11_297, List.forall_mem_cons.mpr ⟨mo11_300, List.forall_mem_cons.mpr ⟨mo11_307, List.forall_mem_cons.mpr ⟨mo11_310, List.forall_mem_cons.mpr ⟨mo11_313, List.forall_mem_cons.mpr ⟨mo11_320, List.forall_mem_cons.mpr ⟨mo11_324, List.forall_mem_cons.mpr ⟨mo11_327, List.forall_mem_cons.mpr ⟨mo11_381, List.forall_mem_cons.mpr ⟨mo11_341, List.forall_mem_cons.mpr ⟨mo11_344, List.forall_mem_cons.mpr ⟨mo11_358, List.forall_mem_cons.mpr ⟨mo11_361, List.forall_mem_cons.mpr ⟨mo11_364, (fun _ h => absurd h List.not_mem_nil)⟩⟩⟩⟩⟩⟩⟩⟩⟩⟩⟩⟩⟩⟩⟩⟩⟩⟩⟩⟩⟩⟩⟩⟩⟩⟩⟩⟩⟩⟩⟩⟩⟩⟩⟩⟩⟩⟩⟩⟩⟩⟩⟩⟩⟩⟩⟩⟩⟩⟩⟩⟩⟩⟩⟩⟩⟩⟩
def mT12 : List (Nat × Mth × Nat × Nat × Nat) := [(160, MX12_plain, 0, 0, 12), (163, MX12_keepText, 0, 0, 12), (264, MX12_copies, 2, 2, 12), (268, MX12_plainRun, 0, 0, 12), (271, MX12_begins, 1, 0, 12), (217, MX12_token, 0, 0, 12), (187, MX12_isSmall, 1, 0, 12), (191, MX12_wordAt, 2, 0, 12), (198, MX12_packed, 2, 0, 12), (201, MX12_isDigit, 1, 0, 12), (204, MX12_signToken, 0, 0, 12), (320, MX12_lineRead, 0, 0, 12), (207, MX12_wrong, 1, 0, 12), (308, MX12_beamLine, 0, 0, 12), (291, MX12_newName, 3, 0, 12), (287, MX12_find, 4, 2, 12), (223, MX12_number, 2, 0, 12), (210, MX12_isIn, 3, 2, 12), (311, MX12_clockLine, 0, 0, 12), (295, MX12_oldName, 3, 0, 12), (298, MX12_isOf, 2, 2, 12), (314, MX12_lawLine, 0, 0, 12), (301, MX12_isKey, 1, 0, 12), (304, MX12_sumRead, 0, 0, 12), (220, MX12_isSign, 1, 0, 12), (362, MX12_leafRead, 0, 0, 12), (344, MX12_waitsFor, 1, 0, 12), (350, MX12_isCounted, 0, 0, 12), (353, MX12_nameMet, 0, 0, 12), (337, MX12_grown, 3, 0, 12), (365, MX12_signs, 0, 0, 12), (359, MX12_bind, 1, 0, 12), (329, MX12_rank, 1, 2, 12), (333, MX12_dropHeld, 0, 0, 12), (317, MX12_mayLine, 0, 0, 12), (435, MX12_isClock, 1, 0, 12), (438, MX12_fails, 1, 0, 12), (441, MX12_areTwo, 2, 0, 12), (408, MX12_reachOf, 2, 0, 12), (402, MX12_sizeOf, 1, 2, 12), (425, MX12_pullOf, 2, 0, 12), (405, MX12_weightOf, 1, 0, 12), (411, MX12_lean, 2, 2, 12), (431, MX12_step, 2, 0, 12), (428, MX12_goes, 3, 0, 12), (418, MX12_lawOf, 6, 0, 12), (414, MX12_valueOf, 1, 0, 12), (375, MX12_bounded, 1, 0, 12), (379, MX12_times, 2, 0, 12), (383, MX12_compares, 3, 2, 12), (445, MX12_apartOf, 2, 2, 12), (448, MX12_isNear, 1, 2, 12), (451, MX12_groupOf, 2, 0, 12), (454, MX12_isFall, 1, 2, 12), (457, MX12_hungAt, 3, 0, 12), (461, MX12_remember, 1, 0, 12), (470, MX12_isRun, 1, 2, 12), (473, MX12_layRun, 1, 0, 12), (464, MX12_beginsRun, 0, 0, 12), (467, MX12_runs, 1, 0, 12), (476, MX12_ownOf, 2, 0, 12), (488, MX12_keeps, 3, 0, 12), (498, MX12_oneKeeps, 3, 0, 12), (479, MX12_lays, 2, 0, 12), (482, MX12_isMoved, 2, 0, 12), (485, MX12_areFree, 0, 0, 12), (491, MX12_finds, 3, 0, 12), (501, MX12_twoKeep, 3, 0, 12), (494, MX12_otherKeeps, 6, 0, 12), (510, MX12_firstOrder, 0, 0, 12), (513, MX12_fromStep, 2, 0, 12), (507, MX12_areIn, 1, 0, 12), (516, MX12_nextOrder, 0, 0, 12), (504, MX12_turn, 2, 0, 12), (519, MX12_dueOf, 2, 0, 12), (522, MX12_noted, 3, 0, 12), (528, MX12_layCounts, 0, 0, 12), (525, MX12_knownBy, 0, 0, 12), (531, MX12_isFit, 2, 0, 12), (534, MX12_triesIt, 2, 0, 12), (550, MX12_manyRun, 0, 0, 12), (553, MX12_allCounts, 0, 0, 12)]
theorem mo12_160 : mOK 12 (160, MX12_plain, 0, 0, 12) := ⟨mgX12_plain, by decide +kernel, (tq6 49 rfl rfl), (tq6 51 rfl rfl), (tqp 50 rfl rfl), Nat.le_of_ble_eq_true rfl⟩
theorem mo12_163 : mOK 12 (163, MX12_keepText, 0, 0, 12) := ⟨mgX12_keepText, by decide +kernel, (tq6 53 rfl rfl), (tq6 55 rfl rfl), (tqp 51 rfl rfl), Nat.le_of_ble_eq_true rfl⟩
theorem mo12_264 : mOK 12 (264, MX12_copies, 2, 2, 12) := ⟨mgX12_copies, by decide +kernel, (tq6 57 rfl rfl), (tq6 58 rfl rfl)⟩
theorem mo12_268 : mOK 12 (268, MX12_plainRun, 0, 0, 12) := ⟨mgX12_plainRun, by decide +kernel, (tq6 60 rfl rfl), (tq6 62 rfl rfl), (tqp 52 rfl rfl), Nat.le_of_ble_eq_true rfl⟩
theorem mo12_271 : mOK 12 (271, MX12_begins, 1, 0, 12) := ⟨mgX12_begins, by decide +kernel, (tq6 64 rfl rfl), (tq6 66 rfl rfl), (tqp 53 rfl rfl), Nat.le_of_ble_eq_true rfl⟩
theorem mo12_217 : mOK 12 (217, MX12_token, 0, 0, 12) := ⟨mgX12_token, by decide +kernel, (tq7 102 rfl rfl), (tq7 104 rfl rfl), (tqp 54 rfl rfl), Nat.le_of_ble_eq_true rfl⟩
theorem mo12_187 : mOK 12 (187, MX12_isSmall, 1, 0, 12) := ⟨mgX12_isSmall, by decide +kernel, (tq7 106 rfl rfl), (tq7 108 rfl rfl), (tqp 55 rfl rfl), Nat.le_of_ble_eq_true rfl⟩
theorem mo12_191 : mOK 12 (191, MX12_wordAt, 2, 0, 12) := ⟨mgX12_wordAt, by decide +kernel, (tq7 110 rfl rfl), (tq7 112 rfl rfl), (tqp 56 rfl rfl), Nat.le_of_ble_eq_true rfl⟩
theorem mo12_198 : mOK 12 (198, MX12_packed, 2, 0, 12) := ⟨mgX12_packed, by decide +kernel, (tq7 114 rfl rfl), (tq7 116 rfl rfl), (tqp 57 rfl rfl), Nat.le_of_ble_eq_true rfl⟩
theorem mo12_201 : mOK 12 (201, MX12_isDigit, 1, 0, 12) := ⟨mgX12_isDigit, by decide +kernel, (tq7 118 rfl rfl), (tq7 120 rfl rfl), (tqp 58 rfl rfl), Nat.le_of_ble_eq_true rfl⟩
theorem mo12_204 : mOK 12 (204, MX12_signToken, 0, 0, 12) := ⟨mgX12_signToken, by decide +kernel, (tq7 122 rfl rfl), (tq7 124 rfl rfl), (tqp 59 rfl rfl), Nat.le_of_ble_eq_true rfl⟩
theorem mo12_320 : mOK 12 (320, MX12_lineRead, 0, 0, 12) := ⟨mgX12_lineRead, by decide +kernel, (tq7 126 rfl rfl), (tq7 128 rfl rfl), (tqp 60 rfl rfl), Nat.le_of_ble_eq_true rfl⟩
theorem mo12_207 : mOK 12 (207, MX12_wrong, 1, 0, 12) := ⟨mgX12_wrong, by decide +kernel, (tq7 130 rfl rfl), (tq7 132 rfl rfl), (tqp 61 rfl rfl), Nat.le_of_ble_eq_true rfl⟩
theorem mo12_308 : mOK 12 (308, MX12_beamLine, 0, 0, 12) := ⟨mgX12_beamLine, by decide +kernel, (tq7 134 rfl rfl), (tq7 136 rfl rfl), (tqp 62 rfl rfl), Nat.le_of_ble_eq_true rfl⟩
theorem mo12_291 : mOK 12 (291, MX12_newName, 3, 0, 12) := ⟨mgX12_newName, by decide +kernel, (tq7 138 rfl rfl), (tq7 140 rfl rfl), (tqp 63 rfl rfl), Nat.le_of_ble_eq_true rfl⟩
theorem mo12_287 : mOK 12 (287, MX12_find, 4, 2, 12) := ⟨mgX12_find, by decide +kernel, (tq7 142 rfl rfl), (tq7 143 rfl rfl)⟩
theorem mo12_223 : mOK 12 (223, MX12_number, 2, 0, 12) := ⟨mgX12_number, by decide +kernel, (tq7 145 rfl rfl), (tq7 147 rfl rfl), (tqp 64 rfl rfl), Nat.le_of_ble_eq_true rfl⟩
theorem mo12_210 : mOK 12 (210, MX12_isIn, 3, 2, 12) := ⟨mgX12_isIn, by decide +kernel, (tq7 149 rfl rfl), (tq7 150 rfl rfl)⟩
theorem mo12_311 : mOK 12 (311, MX12_clockLine, 0, 0, 12) := ⟨mgX12_clockLine, by decide +kernel, (tq7 152 rfl rfl), (tq7 154 rfl rfl), (tqp 65 rfl rfl), Nat.le_of_ble_eq_true rfl⟩
theorem mo12_295 : mOK 12 (295, MX12_oldName, 3, 0, 12) := ⟨mgX12_oldName, by decide +kernel, (tq7 156 rfl rfl), (tq7 158 rfl rfl), (tqp 66 rfl rfl), Nat.le_of_ble_eq_true rfl⟩
theorem mo12_298 : mOK 12 (298, MX12_isOf, 2, 2, 12) := ⟨mgX12_isOf, by decide +kernel, (tq7 160 rfl rfl), (tq7 161 rfl rfl)⟩
theorem mo12_314 : mOK 12 (314, MX12_lawLine, 0, 0, 12) := ⟨mgX12_lawLine, by decide +kernel, (tq7 163 rfl rfl), (tq7 165 rfl rfl), (tqp 67 rfl rfl), Nat.le_of_ble_eq_true rfl⟩
theorem mo12_301 : mOK 12 (301, MX12_isKey, 1, 0, 12) := ⟨mgX12_isKey, by decide +kernel, (tq7 167 rfl rfl), (tq7 169 rfl rfl), (tqp 68 rfl rfl), Nat.le_of_ble_eq_true rfl⟩
theorem mo12_304 : mOK 12 (304, MX12_sumRead, 0, 0, 12) := ⟨mgX12_sumRead, by decide +kernel, (tq7 171 rfl rfl), (tq7 173 rfl rfl), (tqp 69 rfl rfl), Nat.le_of_ble_eq_true rfl⟩
theorem mo12_220 : mOK 12 (220, MX12_isSign, 1, 0, 12) := ⟨mgX12_isSign, by decide +kernel, (tq7 175 rfl rfl), (tq7 177 rfl rfl), (tqp 70 rfl rfl), Nat.le_of_ble_eq_true rfl⟩
theorem mo12_362 : mOK 12 (362, MX12_leafRead, 0, 0, 12) := ⟨mgX12_leafRead, by decide +kernel, (tq7 179 rfl rfl), (tq7 181 rfl rfl), (tqp 71 rfl rfl), Nat.le_of_ble_eq_true rfl⟩
theorem mo12_344 : mOK 12 (344, MX12_waitsFor, 1, 0, 12) := ⟨mgX12_waitsFor, by decide +kernel, (tq7 183 rfl rfl), (tq7 185 rfl rfl), (tqp 72 rfl rfl), Nat.le_of_ble_eq_true rfl⟩
theorem mo12_350 : mOK 12 (350, MX12_isCounted, 0, 0, 12) := ⟨mgX12_isCounted, by decide +kernel, (tq7 187 rfl rfl), (tq7 189 rfl rfl), (tqp 73 rfl rfl), Nat.le_of_ble_eq_true rfl⟩
theorem mo12_353 : mOK 12 (353, MX12_nameMet, 0, 0, 12) := ⟨mgX12_nameMet, by decide +kernel, (tq7 191 rfl rfl), (tq7 193 rfl rfl), (tqp 74 rfl rfl), Nat.le_of_ble_eq_true rfl⟩
theorem mo12_337 : mOK 12 (337, MX12_grown, 3, 0, 12) := ⟨mgX12_grown, by decide +kernel, (tq7 195 rfl rfl), (tq7 197 rfl rfl), (tqp 75 rfl rfl), Nat.le_of_ble_eq_true rfl⟩
theorem mo12_365 : mOK 12 (365, MX12_signs, 0, 0, 12) := ⟨mgX12_signs, by decide +kernel, (tq7 199 rfl rfl), (tq7 201 rfl rfl), (tqp 76 rfl rfl), Nat.le_of_ble_eq_true rfl⟩
theorem mo12_359 : mOK 12 (359, MX12_bind, 1, 0, 12) := ⟨mgX12_bind, by decide +kernel, (tq7 203 rfl rfl), (tq7 205 rfl rfl), (tqp 77 rfl rfl), Nat.le_of_ble_eq_true rfl⟩
theorem mo12_329 : mOK 12 (329, MX12_rank, 1, 2, 12) := ⟨mgX12_rank, by decide +kernel, (tq7 207 rfl rfl), (tq7 208 rfl rfl)⟩
theorem mo12_333 : mOK 12 (333, MX12_dropHeld, 0, 0, 12) := ⟨mgX12_dropHeld, by decide +kernel, (tq7 210 rfl rfl), (tq7 212 rfl rfl), (tqp 78 rfl rfl), Nat.le_of_ble_eq_true rfl⟩
theorem mo12_317 : mOK 12 (317, MX12_mayLine, 0, 0, 12) := ⟨mgX12_mayLine, by decide +kernel, (tq7 214 rfl rfl), (tq7 216 rfl rfl), (tqp 79 rfl rfl), Nat.le_of_ble_eq_true rfl⟩
theorem mo12_435 : mOK 12 (435, MX12_isClock, 1, 0, 12) := ⟨mgX12_isClock, by decide +kernel, (tq7 230 rfl rfl), (tq7 232 rfl rfl), (tqp 80 rfl rfl), Nat.le_of_ble_eq_true rfl⟩
theorem mo12_438 : mOK 12 (438, MX12_fails, 1, 0, 12) := ⟨mgX12_fails, by decide +kernel, (tq7 234 rfl rfl), (tq7 236 rfl rfl), (tqp 81 rfl rfl), Nat.le_of_ble_eq_true rfl⟩
theorem mo12_441 : mOK 12 (441, MX12_areTwo, 2, 0, 12) := ⟨mgX12_areTwo, by decide +kernel, (tq8 2 rfl rfl), (tq8 4 rfl rfl), (tqp 82 rfl rfl), Nat.le_of_ble_eq_true rfl⟩
theorem mo12_408 : mOK 12 (408, MX12_reachOf, 2, 0, 12) := ⟨mgX12_reachOf, by decide +kernel, (tq8 6 rfl rfl), (tq8 8 rfl rfl), (tqp 83 rfl rfl), Nat.le_of_ble_eq_true rfl⟩
theorem mo12_402 : mOK 12 (402, MX12_sizeOf, 1, 2, 12) := ⟨mgX12_sizeOf, by decide +kernel, (tq8 10 rfl rfl), (tq8 11 rfl rfl)⟩
theorem mo12_425 : mOK 12 (425, MX12_pullOf, 2, 0, 12) := ⟨mgX12_pullOf, by decide +kernel, (tq8 18 rfl rfl), (tq8 20 rfl rfl), (tqp 84 rfl rfl), Nat.le_of_ble_eq_true rfl⟩
theorem mo12_405 : mOK 12 (405, MX12_weightOf, 1, 0, 12) := ⟨mgX12_weightOf, by decide +kernel, (tq8 22 rfl rfl), (tq8 24 rfl rfl), (tqp 85 rfl rfl), Nat.le_of_ble_eq_true rfl⟩
theorem mo12_411 : mOK 12 (411, MX12_lean, 2, 2, 12) := ⟨mgX12_lean, by decide +kernel, (tq8 26 rfl rfl), (tq8 27 rfl rfl)⟩
theorem mo12_431 : mOK 12 (431, MX12_step, 2, 0, 12) := ⟨mgX12_step, by decide +kernel, (tq8 33 rfl rfl), (tq8 35 rfl rfl), (tqp 86 rfl rfl), Nat.le_of_ble_eq_true rfl⟩
theorem mo12_428 : mOK 12 (428, MX12_goes, 3, 0, 12) := ⟨mgX12_goes, by decide +kernel, (tq8 37 rfl rfl), (tq8 39 rfl rfl), (tqp 87 rfl rfl), Nat.le_of_ble_eq_true rfl⟩
theorem mo12_418 : mOK 12 (418, MX12_lawOf, 6, 0, 12) := ⟨mgX12_lawOf, by decide +kernel, (tq8 41 rfl rfl), (tq8 43 rfl rfl), (tqp 88 rfl rfl), Nat.le_of_ble_eq_true rfl⟩
theorem mo12_414 : mOK 12 (414, MX12_valueOf, 1, 0, 12) := ⟨mgX12_valueOf, by decide +kernel, (tq8 45 rfl rfl), (tq8 47 rfl rfl), (tqp 89 rfl rfl), Nat.le_of_ble_eq_true rfl⟩
theorem mo12_375 : mOK 12 (375, MX12_bounded, 1, 0, 12) := ⟨mgX12_bounded, by decide +kernel, (tq8 49 rfl rfl), (tq8 51 rfl rfl), (tqp 90 rfl rfl), Nat.le_of_ble_eq_true rfl⟩
theorem mo12_379 : mOK 12 (379, MX12_times, 2, 0, 12) := ⟨mgX12_times, by decide +kernel, (tq8 55 rfl rfl), (tq8 57 rfl rfl), (tqp 91 rfl rfl), Nat.le_of_ble_eq_true rfl⟩
theorem mo12_383 : mOK 12 (383, MX12_compares, 3, 2, 12) := ⟨mgX12_compares, by decide +kernel, (tq8 59 rfl rfl), (tq8 60 rfl rfl)⟩
theorem mo12_445 : mOK 12 (445, MX12_apartOf, 2, 2, 12) := ⟨mgX12_apartOf, by decide +kernel, (tq8 74 rfl rfl), (tq8 75 rfl rfl)⟩
theorem mo12_448 : mOK 12 (448, MX12_isNear, 1, 2, 12) := ⟨mgX12_isNear, by decide +kernel, (tq8 81 rfl rfl), (tq8 82 rfl rfl)⟩
theorem mo12_451 : mOK 12 (451, MX12_groupOf, 2, 0, 12) := ⟨mgX12_groupOf, by decide +kernel, (tq8 88 rfl rfl), (tq8 90 rfl rfl), (tqp 92 rfl rfl), Nat.le_of_ble_eq_true rfl⟩
theorem mo12_454 : mOK 12 (454, MX12_isFall, 1, 2, 12) := ⟨mgX12_isFall, by decide +kernel, (tq8 100 rfl rfl), (tq8 101 rfl rfl)⟩
theorem mo12_457 : mOK 12 (457, MX12_hungAt, 3, 0, 12) := ⟨mgX12_hungAt, by decide +kernel, (tq8 111 rfl rfl), (tq8 113 rfl rfl), (tqp 93 rfl rfl), Nat.le_of_ble_eq_true rfl⟩
theorem mo12_461 : mOK 12 (461, MX12_remember, 1, 0, 12) := ⟨mgX12_remember, by decide +kernel, (tq8 115 rfl rfl), (tq8 117 rfl rfl), (tqp 94 rfl rfl), Nat.le_of_ble_eq_true rfl⟩
theorem mo12_470 : mOK 12 (470, MX12_isRun, 1, 2, 12) := ⟨mgX12_isRun, by decide +kernel, (tq8 131 rfl rfl), (tq8 132 rfl rfl)⟩
theorem mo12_473 : mOK 12 (473, MX12_layRun, 1, 0, 12) := ⟨mgX12_layRun, by decide +kernel, (tq8 134 rfl rfl), (tq8 136 rfl rfl), (tqp 95 rfl rfl), Nat.le_of_ble_eq_true rfl⟩
theorem mo12_464 : mOK 12 (464, MX12_beginsRun, 0, 0, 12) := ⟨mgX12_beginsRun, by decide +kernel, (tq8 138 rfl rfl), (tq8 140 rfl rfl), (tqp 96 rfl rfl), Nat.le_of_ble_eq_true rfl⟩
theorem mo12_467 : mOK 12 (467, MX12_runs, 1, 0, 12) := ⟨mgX12_runs, by decide +kernel, (tq8 142 rfl rfl), (tq8 144 rfl rfl), (tqp 97 rfl rfl), Nat.le_of_ble_eq_true rfl⟩
theorem mo12_476 : mOK 12 (476, MX12_ownOf, 2, 0, 12) := ⟨mgX12_ownOf, by decide +kernel, (tq8 150 rfl rfl), (tq8 152 rfl rfl), (tqp 98 rfl rfl), Nat.le_of_ble_eq_true rfl⟩
theorem mo12_488 : mOK 12 (488, MX12_keeps, 3, 0, 12) := ⟨mgX12_keeps, by decide +kernel, (tq8 158 rfl rfl), (tq8 160 rfl rfl), (tqp 99 rfl rfl), Nat.le_of_ble_eq_true rfl⟩
theorem mo12_498 : mOK 12 (498, MX12_oneKeeps, 3, 0, 12) := ⟨mgX12_oneKeeps, by decide +kernel, (tq8 162 rfl rfl), (tq8 164 rfl rfl), (tqp 100 rfl rfl), Nat.le_of_ble_eq_true rfl⟩
theorem mo12_479 : mOK 12 (479, MX12_lays, 2, 0, 12) := ⟨mgX12_lays, by decide +kernel, (tq8 166 rfl rfl), (tq8 168 rfl rfl), (tqp 101 rfl rfl), Nat.le_of_ble_eq_true rfl⟩
theorem mo12_482 : mOK 12 (482, MX12_isMoved, 2, 0, 12) := ⟨mgX12_isMoved, by decide +kernel, (tq8 170 rfl rfl), (tq8 172 rfl rfl), (tqp 102 rfl rfl), Nat.le_of_ble_eq_true rfl⟩
theorem mo12_485 : mOK 12 (485, MX12_areFree, 0, 0, 12) := ⟨mgX12_areFree, by decide +kernel, (tq8 174 rfl rfl), (tq8 176 rfl rfl), (tqp 103 rfl rfl), Nat.le_of_ble_eq_true rfl⟩
theorem mo12_491 : mOK 12 (491, MX12_finds, 3, 0, 12) := ⟨mgX12_finds, by decide +kernel, (tq8 178 rfl rfl), (tq8 180 rfl rfl), (tqp 104 rfl rfl), Nat.le_of_ble_eq_true rfl⟩
theorem mo12_501 : mOK 12 (501, MX12_twoKeep, 3, 0, 12) := ⟨mgX12_twoKeep, by decide +kernel, (tq8 182 rfl rfl), (tq8 184 rfl rfl), (tqp 105 rfl rfl), Nat.le_of_ble_eq_true rfl⟩
theorem mo12_494 : mOK 12 (494, MX12_otherKeeps, 6, 0, 12) := ⟨mgX12_otherKeeps, by decide +kernel, (tq8 186 rfl rfl), (tq8 188 rfl rfl), (tqp 106 rfl rfl), Nat.le_of_ble_eq_true rfl⟩
theorem mo12_510 : mOK 12 (510, MX12_firstOrder, 0, 0, 12) := ⟨mgX12_firstOrder, by decide +kernel, (tq8 198 rfl rfl), (tq8 200 rfl rfl), (tqp 107 rfl rfl), Nat.le_of_ble_eq_true rfl⟩
theorem mo12_513 : mOK 12 (513, MX12_fromStep, 2, 0, 12) := ⟨mgX12_fromStep, by decide +kernel, (tq8 202 rfl rfl), (tq8 204 rfl rfl), (tqp 108 rfl rfl), Nat.le_of_ble_eq_true rfl⟩
theorem mo12_507 : mOK 12 (507, MX12_areIn, 1, 0, 12) := ⟨mgX12_areIn, by decide +kernel, (tq8 206 rfl rfl), (tq8 208 rfl rfl), (tqp 109 rfl rfl), Nat.le_of_ble_eq_true rfl⟩
theorem mo12_516 : mOK 12 (516, MX12_nextOrder, 0, 0, 12) := ⟨mgX12_nextOrder, by decide +kernel, (tq8 210 rfl rfl), (tq8 212 rfl rfl), (tqp 110 rfl rfl), Nat.le_of_ble_eq_true rfl⟩
theorem mo12_504 : mOK 12 (504, MX12_turn, 2, 0, 12) := ⟨mgX12_turn, by decide +kernel, (tq8 214 rfl rfl), (tq8 216 rfl rfl), (tqp 111 rfl rfl), Nat.le_of_ble_eq_true rfl⟩
theorem mo12_519 : mOK 12 (519, MX12_dueOf, 2, 0, 12) := ⟨mgX12_dueOf, by decide +kernel, (tq8 222 rfl rfl), (tq8 224 rfl rfl), (tqp 112 rfl rfl), Nat.le_of_ble_eq_true rfl⟩
theorem mo12_522 : mOK 12 (522, MX12_noted, 3, 0, 12) := ⟨mgX12_noted, by decide +kernel, (tq8 234 rfl rfl), (tq8 236 rfl rfl), (tqp 113 rfl rfl), Nat.le_of_ble_eq_true rfl⟩
theorem mo12_528 : mOK 12 (528, MX12_layCounts, 0, 0, 12) := ⟨mgX12_layCounts, by decide +kernel, (tq9 10 rfl rfl), (tq9 12 rfl rfl), (tqp 114 rfl rfl), Nat.le_of_ble_eq_true rfl⟩
theorem mo12_525 : mOK 12 (525, MX12_knownBy, 0, 0, 12) := ⟨mgX12_knownBy, by decide +kernel, (tq9 14 rfl rfl), (tq9 16 rfl rfl), (tqp 115 rfl rfl), Nat.le_of_ble_eq_true rfl⟩
theorem mo12_531 : mOK 12 (531, MX12_isFit, 2, 0, 12) := ⟨mgX12_isFit, by decide +kernel, (tq9 18 rfl rfl), (tq9 20 rfl rfl), (tqp 116 rfl rfl), Nat.le_of_ble_eq_true rfl⟩
theorem mo12_534 : mOK 12 (534, MX12_triesIt, 2, 0, 12) := ⟨mgX12_triesIt, by decide +kernel, (tq9 26 rfl rfl), (tq9 28 rfl rfl), (tqp 117 rfl rfl), Nat.le_of_ble_eq_true rfl⟩
theorem mo12_550 : mOK 12 (550, MX12_manyRun, 0, 0, 12) := ⟨mgX12_manyRun, by decide +kernel, (tq9 51 rfl rfl), (tq9 53 rfl rfl), (tqp 118 rfl rfl), Nat.le_of_ble_eq_true rfl⟩
theorem mo12_553 : mOK 12 (553, MX12_allCounts, 0, 0, 12) := ⟨mgX12_allCounts, by decide +kernel, (tq9 55 rfl rfl), (tq9 57 rfl rfl), (tqp 119 rfl rfl), Nat.le_of_ble_eq_true rfl⟩
theorem mT12_ok : ∀ x ∈ mT12, mOK 12 x := List.forall_mem_cons.mpr ⟨mo12_160, List.forall_mem_cons.mpr ⟨mo12_163, List.forall_mem_cons.mpr ⟨mo12_264, List.forall_mem_cons.mpr ⟨mo12_268, List.forall_mem_cons.mpr ⟨mo12_271, List.forall_mem_cons.mpr ⟨mo12_217, List.forall_mem_cons.mpr ⟨mo12_187, List.forall_mem_cons.mpr ⟨mo12_191, List.forall_mem_cons.mpr ⟨mo12_198, List.forall_mem_cons.mpr ⟨mo12_201, List.forall_mem_cons.mpr ⟨mo12_204, List.forall_mem_cons.mpr ⟨mo12_320, List.forall_mem_cons.mpr ⟨mo12_207, List.forall_mem_cons.mpr ⟨mo12_308, List.forall_mem_cons.mpr ⟨mo12_291, List.forall_mem_cons.mpr ⟨mo12_287, List.forall_mem_cons.mpr ⟨mo12_223, List.forall_mem_cons.mpr ⟨mo12_210, List.forall_mem_cons.mpr ⟨mo12_311, List.forall_mem_cons.mpr ⟨mo12_295, List.forall_mem_cons.mpr ⟨mo12_298, List.forall_mem_cons.mpr ⟨mo12_314, List.forall_mem_cons.mpr ⟨mo12_301, List.forall_mem_cons.mpr ⟨mo12_304, List.forall_mem_cons.mpr ⟨mo12_220, List.forall_mem_cons.mpr ⟨mo12_362, List.forall_mem_cons.mpr ⟨mo12_344, List.forall_mem_cons.mpr ⟨mo12_350, List.forall_mem_cons.mpr ⟨mo12_353, List.forall_mem_cons.mpr ⟨mo12_337, List.forall_mem_cons.mpr ⟨mo12_365, List.forall_mem_cons.mpr ⟨mo12_359, List.forall_mem_cons.mpr ⟨mo12_329, List.forall_mem_cons.mpr ⟨mo12_333, List.forall_mem_cons.mpr ⟨mo12_317, List.forall_mem_cons.mpr ⟨mo12_435, List.forall_mem_cons.mpr ⟨mo12_438, List.forall_mem_cons.mpr ⟨mo12_441, List.forall_mem_cons.mpr ⟨mo12_408, List.forall_mem_cons.mpr ⟨mo12_402, List.forall_mem_cons.mpr ⟨mo12_425, List.forall_mem_cons.mpr ⟨mo12_405, List.forall_mem_cons.mpr ⟨mo12_411, List.forall_mem_cons.mpr ⟨mo12_431, List.forall_mem_cons.mpr ⟨mo12_428, List.forall_mem_cons.mpr ⟨mo12_418, List.forall_mem_cons.mpr ⟨mo12_414, List.forall_mem_cons.mpr ⟨mo12_375, List.forall_mem_cons.mpr ⟨mo12_379, List.forall_mem_cons.mpr ⟨mo12_383, List.forall_mem_cons.mpr ⟨mo12_445, List.forall_mem_cons.mpr ⟨mo12_448, List.forall_mem_cons.mpr ⟨mo12_451, List.forall_mem_cons.mpr ⟨mo12_454, List.forall_mem_cons.mpr ⟨mo12_457, List.forall_mem_cons.mpr ⟨mo12_461, List.forall_mem_cons.mpr ⟨mo12_470, List.forall_mem_cons.mpr ⟨mo12_473, List.forall_mem_cons.mpr ⟨mo12_464, List.forall_mem_cons.mpr ⟨mo12_467, List.forall_mem_cons.mpr ⟨mo12_476, List.forall_mem_cons.mpr ⟨mo12_488, List.forall_mem_cons.mpr ⟨mo12_498, List.forall_mem_cons.mpr ⟨mo12_479, List.forall_mem_cons.mpr ⟨mo12_482, List.forall_mem_cons.mpr ⟨mo12_485, List.forall_mem_cons.mpr ⟨mo12_491, List.forall_mem_cons.mpr ⟨mo12_501, List.forall_mem_cons.mpr ⟨mo12_494, List.forall_mem_cons.mpr ⟨mo12_510, List.forall_mem_cons.mpr ⟨mo12_513, List.forall_mem_cons.mpr ⟨mo12_507, List.forall_mem_cons.mpr ⟨mo12_516, List.forall_mem_cons.mpr ⟨mo12_504, List.forall_mem_cons.mpr ⟨mo12_519, List.forall_mem_cons.mpr ⟨mo12_522, List.forall_mem_cons.mpr ⟨mo12_528, List.forall_mem_cons.mpr ⟨mo12_525, List.forall_mem_cons.mpr ⟨mo12_531, List.forall_mem_cons.mpr ⟨mo12_534, List.forall_mem_cons.mpr ⟨mo12_550, List.forall_mem_cons.mpr ⟨mo12_553, (fun _ h => absurd h List.not_mem_nil)⟩⟩⟩⟩⟩⟩⟩⟩⟩⟩⟩⟩⟩⟩⟩⟩⟩⟩⟩⟩⟩⟩⟩⟩⟩⟩⟩⟩⟩⟩⟩⟩⟩⟩⟩⟩⟩⟩⟩⟩⟩⟩⟩⟩⟩⟩⟩⟩⟩⟩⟩⟩⟩⟩⟩⟩⟩⟩⟩⟩⟩⟩⟩⟩⟩⟩⟩⟩⟩⟩⟩⟩⟩⟩⟩⟩⟩⟩⟩⟩⟩⟩
def mT14 : List (Nat × Mth × Nat × Nat × Nat) := []
theorem mT14_ok : ∀ x ∈ mT14, mOK 14 x := (fun _ h => absurd h List.not_mem_nil)
def mT110 : List (Nat × Mth × Nat × Nat × Nat) := []
theorem mT110_ok : ∀ x ∈ mT110, mOK 110 x := (fun _ h => absurd h List.not_mem_nil)
def mTab (o : Nat) : List (Nat × Mth × Nat × Nat × Nat) := match o with
  | 0 => mT0
  | 1 => mT1
  | 2 => mT2
  | 3 => mT3
  | 4 => mT4
  | 5 => mT5
  | 6 => mT6
  | 7 => mT7
  | 8 => mT8
  | 9 => mT9
  | 10 => mT10
  | 11 => mT11
  | 12 => mT12
  | 14 => mT14
  | 110 => mT110
  | _ => []
def mRes (o i : Nat) : Option (Mth × Nat × Nat × Nat) := (mTab o).lookup i
theorem mTab_ok (o : Nat) : ∀ x ∈ mTab o, mOK o x := by
  unfold mTab
  split
  · exact mT0_ok
  · exact mT1_ok
  · exact mT2_ok
  · exact mT3_ok
  · exact mT4_ok
  · exact mT5_ok
  · exact mT6_ok
  · exact mT7_ok
  · exact mT8_ok
  · exact mT9_ok
  · exact mT10_ok
  · exact mT11_ok
  · exact mT12_ok
  · exact mT14_ok
  · exact mT110_ok
  · exact fun _ h => absurd h List.not_mem_nil
def oIOK (o : Nat) (x : Nat × Unit) : Prop := Cond.methodLink (cnm o) x.1 objectInit ∈ gtbl
def oI0 : List (Nat × Unit) := [(3, ())]
theorem oI_0_3 : oIOK 0 (3, ()) := (tq2 187 rfl rfl)
theorem oI0_ok : ∀ x ∈ oI0, oIOK 0 x := List.forall_mem_cons.mpr ⟨oI_0_3, (fun _ h => absurd h List.not_mem_nil)⟩
def oI1 : List (Nat × Unit) := [(3, ())]
theorem oI_1_3 : oIOK 1 (3, ()) := (tq2 201 rfl rfl)
theorem oI1_ok : ∀ x ∈ oI1, oIOK 1 x := List.forall_mem_cons.mpr ⟨oI_1_3, (fun _ h => absurd h List.not_mem_nil)⟩
def oI2 : List (Nat × Unit) := [(5, ())]
theorem oI_2_5 : oIOK 2 (5, ()) := (tq1 64 rfl rfl)
theorem oI2_ok : ∀ x ∈ oI2, oIOK 2 x := List.forall_mem_cons.mpr ⟨oI_2_5, (fun _ h => absurd h List.not_mem_nil)⟩
def oI3 : List (Nat × Unit) := [(3, ())]
theorem oI_3_3 : oIOK 3 (3, ()) := (tq2 229 rfl rfl)
theorem oI3_ok : ∀ x ∈ oI3, oIOK 3 x := List.forall_mem_cons.mpr ⟨oI_3_3, (fun _ h => absurd h List.not_mem_nil)⟩
def oI4 : List (Nat × Unit) := [(3, ())]
theorem oI_4_3 : oIOK 4 (3, ()) := (tq2 77 rfl rfl)
theorem oI4_ok : ∀ x ∈ oI4, oIOK 4 x := List.forall_mem_cons.mpr ⟨oI_4_3, (fun _ h => absurd h List.not_mem_nil)⟩
def oI5 : List (Nat × Unit) := [(3, ())]
theorem oI_5_3 : oIOK 5 (3, ()) := (tq1 44 rfl rfl)
theorem oI5_ok : ∀ x ∈ oI5, oIOK 5 x := List.forall_mem_cons.mpr ⟨oI_5_3, (fun _ h => absurd h List.not_mem_nil)⟩
def oI6 : List (Nat × Unit) := [(3, ())]
theorem oI_6_3 : oIOK 6 (3, ()) := (tq3 31 rfl rfl)
theorem oI6_ok : ∀ x ∈ oI6, oIOK 6 x := List.forall_mem_cons.mpr ⟨oI_6_3, (fun _ h => absurd h List.not_mem_nil)⟩
def oI7 : List (Nat × Unit) := [(3, ())]
theorem oI_7_3 : oIOK 7 (3, ()) := (tq2 31 rfl rfl)
theorem oI7_ok : ∀ x ∈ oI7, oIOK 7 x := List.forall_mem_cons.mpr ⟨oI_7_3, (fun _ h => absurd h List.not_mem_nil)⟩
def oI8 : List (Nat × Unit) := [(3, ())]
theorem oI_8_3 : oIOK 8 (3, ()) := (tq2 173 rfl rfl)
theorem oI8_ok : ∀ x ∈ oI8, oIOK 8 x := List.forall_mem_cons.mpr ⟨oI_8_3, (fun _ h => absurd h List.not_mem_nil)⟩
def oI9 : List (Nat × Unit) := [(3, ())]
theorem oI_9_3 : oIOK 9 (3, ()) := (tq1 38 rfl rfl)
theorem oI9_ok : ∀ x ∈ oI9, oIOK 9 x := List.forall_mem_cons.mpr ⟨oI_9_3, (fun _ h => absurd h List.not_mem_nil)⟩
def oI10 : List (Nat × Unit) := [(3, ())]
theorem oI_10_3 : oIOK 10 (3, ()) := (tq1 189 rfl rfl)
theorem oI10_ok : ∀ x ∈ oI10, oIOK 10 x := List.forall_mem_cons.mpr ⟨oI_10_3, (fun _ h => absurd h List.not_mem_nil)⟩
def oI11 : List (Nat × Unit) := [(3, ())]
theorem oI_11_3 : oIOK 11 (3, ()) := (tq1 30 rfl rfl)
theorem oI11_ok : ∀ x ∈ oI11, oIOK 11 x := List.forall_mem_cons.mpr ⟨oI_11_3, (fun _ h => absurd h List.not_mem_nil)⟩
def oI12 : List (Nat × Unit) := [(1, ())]
theorem oI_12_1 : oIOK 12 (1, ()) := (tq6 48 rfl rfl)
theorem oI12_ok : ∀ x ∈ oI12, oIOK 12 x := List.forall_mem_cons.mpr ⟨oI_12_1, (fun _ h => absurd h List.not_mem_nil)⟩
def oITab (o : Nat) : List (Nat × Unit) := match o with
  | 0 => oI0
  | 1 => oI1
  | 2 => oI2
  | 3 => oI3
  | 4 => oI4
  | 5 => oI5
  | 6 => oI6
  | 7 => oI7
  | 8 => oI8
  | 9 => oI9
  | 10 => oI10
  | 11 => oI11
  | 12 => oI12
  | _ => []
theorem oITab_ok (o : Nat) : ∀ x ∈ oITab o, oIOK o x := by
  unfold oITab
  split
  · exact oI0_ok
  · exact oI1_ok
  · exact oI2_ok
  · exact oI3_ok
  · exact oI4_ok
  · exact oI5_ok
  · exact oI6_ok
  · exact oI7_ok
  · exact oI8_ok
  · exact oI9_ok
  · exact oI10_ok
  · exact oI11_ok
  · exact oI12_ok
  · exact fun _ h => absurd h List.not_mem_nil
def aCOK (o : Nat) (x : Nat × Unit) : Prop := Cond.methodLink (cnm o) x.1 arraycopyName ∈ gtbl
def aC0 : List (Nat × Unit) := [(19, ())]
theorem aC_0_19 : aCOK 0 (19, ()) := (tq4 215 rfl rfl)
theorem aC0_ok : ∀ x ∈ aC0, aCOK 0 x := List.forall_mem_cons.mpr ⟨aC_0_19, (fun _ h => absurd h List.not_mem_nil)⟩
def aC4 : List (Nat × Unit) := [(101, ())]
theorem aC_4_101 : aCOK 4 (101, ()) := (tq4 30 rfl rfl)
theorem aC4_ok : ∀ x ∈ aC4, aCOK 4 x := List.forall_mem_cons.mpr ⟨aC_4_101, (fun _ h => absurd h List.not_mem_nil)⟩
def aC6 : List (Nat × Unit) := [(75, ())]
theorem aC_6_75 : aCOK 6 (75, ()) := (tq5 85 rfl rfl)
theorem aC6_ok : ∀ x ∈ aC6, aCOK 6 x := List.forall_mem_cons.mpr ⟨aC_6_75, (fun _ h => absurd h List.not_mem_nil)⟩
def aCTab (o : Nat) : List (Nat × Unit) := match o with
  | 0 => aC0
  | 4 => aC4
  | 6 => aC6
  | _ => []
theorem aCTab_ok (o : Nat) : ∀ x ∈ aCTab o, aCOK o x := by
  unfold aCTab
  split
  · exact aC0_ok
  · exact aC4_ok
  · exact aC6_ok
  · exact fun _ h => absurd h List.not_mem_nil
theorem acN : Cond.native arraycopyName ∈ gtbl := (tq4 32 rfl rfl)
theorem acS : Cond.static arraycopyName ∈ gtbl := (tq4 31 rfl rfl)
theorem acI : Cond.initialized "java/lang/System" ∈ gtbl := (tq1 18 rfl rfl)
theorem oiI : Cond.instanceMethod objectInit ∈ gtbl := (tq1 31 rfl rfl)
theorem oiC : Cond.code objectInit ⟨#[0xb1]⟩ 1 none ∈ gtbl := (tq1 32 rfl rfl)
def cKOK (o : Nat) (x : Nat × Int32) : Prop := Cond.constant (cnm o) x.1 x.2 ∈ gtbl
def cK10 : List (Nat × Int32) := [(58, 1000000)]
theorem cK_10_58 : cKOK 10 (58, 1000000) := (tq3 151 rfl rfl)
theorem cK10_ok : ∀ x ∈ cK10, cKOK 10 x := List.forall_mem_cons.mpr ⟨cK_10_58, (fun _ h => absurd h List.not_mem_nil)⟩
def cK11 : List (Nat × Int32) := [(206, -2147483648), (282, 2147483647)]
theorem cK_11_206 : cKOK 11 (206, -2147483648) := (tq4 101 rfl rfl)
theorem cK_11_282 : cKOK 11 (282, 2147483647) := (tq5 62 rfl rfl)
theorem cK11_ok : ∀ x ∈ cK11, cKOK 11 x := List.forall_mem_cons.mpr ⟨cK_11_206, List.forall_mem_cons.mpr ⟨cK_11_282, (fun _ h => absurd h List.not_mem_nil)⟩⟩
def cK12 : List (Nat × Int32) := [(444, -2147483648)]
theorem cK_12_444 : cKOK 12 (444, -2147483648) := (tq8 17 rfl rfl)
theorem cK12_ok : ∀ x ∈ cK12, cKOK 12 x := List.forall_mem_cons.mpr ⟨cK_12_444, (fun _ h => absurd h List.not_mem_nil)⟩
def cK14 : List (Nat × Int32) := [(265, 1431655765), (266, 858993459), (267, 252645135)]
theorem cK_14_265 : cKOK 14 (265, 1431655765) := (tq4 195 rfl rfl)
theorem cK_14_266 : cKOK 14 (266, 858993459) := (tq4 196 rfl rfl)
theorem cK_14_267 : cKOK 14 (267, 252645135) := (tq4 197 rfl rfl)
theorem cK14_ok : ∀ x ∈ cK14, cKOK 14 x := List.forall_mem_cons.mpr ⟨cK_14_265, List.forall_mem_cons.mpr ⟨cK_14_266, List.forall_mem_cons.mpr ⟨cK_14_267, (fun _ h => absurd h List.not_mem_nil)⟩⟩⟩
def cKTab (o : Nat) : List (Nat × Int32) := match o with
  | 10 => cK10
  | 11 => cK11
  | 12 => cK12
  | 14 => cK14
  | _ => []
theorem cKTab_ok (o : Nat) : ∀ x ∈ cKTab o, cKOK o x := by
  unfold cKTab
  split
  · exact cK10_ok
  · exact cK11_ok
  · exact cK12_ok
  · exact cK14_ok
  · exact fun _ h => absurd h List.not_mem_nil
def lKOK (o : Nat) (x : Nat × Int64) : Prop := Cond.constantLong (cnm o) x.1 x.2 ∈ gtbl
def lK2 : List (Nat × Int64) := [(36, -9223372036854775808), (38, 1000000000000), (40, -1000000000000)]
theorem lK_2_36 : lKOK 2 (36, -9223372036854775808) := (tq4 121 rfl rfl)
theorem lK_2_38 : lKOK 2 (38, 1000000000000) := (tq4 122 rfl rfl)
theorem lK_2_40 : lKOK 2 (40, -1000000000000) := (tq4 123 rfl rfl)
theorem lK2_ok : ∀ x ∈ lK2, lKOK 2 x := List.forall_mem_cons.mpr ⟨lK_2_36, List.forall_mem_cons.mpr ⟨lK_2_38, List.forall_mem_cons.mpr ⟨lK_2_40, (fun _ h => absurd h List.not_mem_nil)⟩⟩⟩
def lK11 : List (Nat × Int64) := [(331, 1103515245), (333, 12345), (335, 2147483647), (337, 65536), (339, 1000)]
theorem lK_11_331 : lKOK 11 (331, 1103515245) := (tq5 163 rfl rfl)
theorem lK_11_333 : lKOK 11 (333, 12345) := (tq5 164 rfl rfl)
theorem lK_11_335 : lKOK 11 (335, 2147483647) := (tq5 165 rfl rfl)
theorem lK_11_337 : lKOK 11 (337, 65536) := (tq5 166 rfl rfl)
theorem lK_11_339 : lKOK 11 (339, 1000) := (tq5 167 rfl rfl)
theorem lK11_ok : ∀ x ∈ lK11, lKOK 11 x := List.forall_mem_cons.mpr ⟨lK_11_331, List.forall_mem_cons.mpr ⟨lK_11_333, List.forall_mem_cons.mpr ⟨lK_11_335, List.forall_mem_cons.mpr ⟨lK_11_337, List.forall_mem_cons.mpr ⟨lK_11_339, (fun _ h => absurd h List.not_mem_nil)⟩⟩⟩⟩⟩
def lK12 : List (Nat × Int64) := [(371, 1000000000000), (373, -1000000000000), (537, 1103515245), (539, 12345), (541, 2147483647), (543, 65536), (545, 1000)]
theorem lK_12_371 : lKOK 12 (371, 1000000000000) := (tq8 53 rfl rfl)
theorem lK_12_373 : lKOK 12 (373, -1000000000000) := (tq8 54 rfl rfl)
theorem lK_12_537 : lKOK 12 (537, 1103515245) := (tq9 34 rfl rfl)
theorem lK_12_539 : lKOK 12 (539, 12345) := (tq9 35 rfl rfl)
theorem lK_12_541 : lKOK 12 (541, 2147483647) := (tq9 36 rfl rfl)
theorem lK_12_543 : lKOK 12 (543, 65536) := (tq9 37 rfl rfl)
theorem lK_12_545 : lKOK 12 (545, 1000) := (tq9 38 rfl rfl)
theorem lK12_ok : ∀ x ∈ lK12, lKOK 12 x := List.forall_mem_cons.mpr ⟨lK_12_371, List.forall_mem_cons.mpr ⟨lK_12_373, List.forall_mem_cons.mpr ⟨lK_12_537, List.forall_mem_cons.mpr ⟨lK_12_539, List.forall_mem_cons.mpr ⟨lK_12_541, List.forall_mem_cons.mpr ⟨lK_12_543, List.forall_mem_cons.mpr ⟨lK_12_545, (fun _ h => absurd h List.not_mem_nil)⟩⟩⟩⟩⟩⟩⟩
def lKTab (o : Nat) : List (Nat × Int64) := match o with
  | 2 => lK2
  | 11 => lK11
  | 12 => lK12
  | _ => []
theorem lKTab_ok (o : Nat) : ∀ x ∈ lKTab o, lKOK o x := by
  unfold lKTab
  split
  · exact lK2_ok
  · exact lK11_ok
  · exact lK12_ok
  · exact fun _ h => absurd h List.not_mem_nil
def nCOK (o : Nat) (x : Nat × Nat) : Prop := Cond.classLink (cnm o) x.1 (cnm x.2) ∈ gtbl ∧ Cond.instantiable (cnm x.2) (NN x.2) ∈ gtbl ∧ Cond.initialized (cnm x.2) ∈ gtbl ∧ x.2 < 13
def nC9 : List (Nat × Nat) := [(9, 5), (63, 2)]
theorem nC_9_9 : nCOK 9 (9, 5) := ⟨(tq1 39 rfl rfl), (tq1 40 rfl rfl), (tq1 3 rfl rfl), Nat.le_of_ble_eq_true rfl⟩
theorem nC_9_63 : nCOK 9 (63, 2) := ⟨(tq1 59 rfl rfl), (tq1 60 rfl rfl), (tq1 4 rfl rfl), Nat.le_of_ble_eq_true rfl⟩
theorem nC9_ok : ∀ x ∈ nC9, nCOK 9 x := List.forall_mem_cons.mpr ⟨nC_9_9, List.forall_mem_cons.mpr ⟨nC_9_63, (fun _ h => absurd h List.not_mem_nil)⟩⟩
def nC11 : List (Nat × Nat) := [(17, 9), (27, 7), (29, 10), (41, 4), (60, 8), (67, 0), (74, 1), (81, 3), (90, 6)]
theorem nC_11_17 : nCOK 11 (17, 9) := ⟨(tq1 33 rfl rfl), (tq1 34 rfl rfl), (tq1 2 rfl rfl), Nat.le_of_ble_eq_true rfl⟩
theorem nC_11_27 : nCOK 11 (27, 7) := ⟨(tq1 182 rfl rfl), (tq1 183 rfl rfl), (tq1 5 rfl rfl), Nat.le_of_ble_eq_true rfl⟩
theorem nC_11_29 : nCOK 11 (29, 10) := ⟨(tq1 184 rfl rfl), (tq1 185 rfl rfl), (tq1 6 rfl rfl), Nat.le_of_ble_eq_true rfl⟩
theorem nC_11_41 : nCOK 11 (41, 4) := ⟨(tq2 72 rfl rfl), (tq2 73 rfl rfl), (tq1 11 rfl rfl), Nat.le_of_ble_eq_true rfl⟩
theorem nC_11_60 : nCOK 11 (60, 8) := ⟨(tq2 168 rfl rfl), (tq2 169 rfl rfl), (tq1 12 rfl rfl), Nat.le_of_ble_eq_true rfl⟩
theorem nC_11_67 : nCOK 11 (67, 0) := ⟨(tq2 182 rfl rfl), (tq2 183 rfl rfl), (tq1 13 rfl rfl), Nat.le_of_ble_eq_true rfl⟩
theorem nC_11_74 : nCOK 11 (74, 1) := ⟨(tq2 196 rfl rfl), (tq2 197 rfl rfl), (tq1 14 rfl rfl), Nat.le_of_ble_eq_true rfl⟩
theorem nC_11_81 : nCOK 11 (81, 3) := ⟨(tq2 224 rfl rfl), (tq2 225 rfl rfl), (tq1 15 rfl rfl), Nat.le_of_ble_eq_true rfl⟩
theorem nC_11_90 : nCOK 11 (90, 6) := ⟨(tq3 26 rfl rfl), (tq3 27 rfl rfl), (tq1 16 rfl rfl), Nat.le_of_ble_eq_true rfl⟩
theorem nC11_ok : ∀ x ∈ nC11, nCOK 11 x := List.forall_mem_cons.mpr ⟨nC_11_17, List.forall_mem_cons.mpr ⟨nC_11_27, List.forall_mem_cons.mpr ⟨nC_11_29, List.forall_mem_cons.mpr ⟨nC_11_41, List.forall_mem_cons.mpr ⟨nC_11_60, List.forall_mem_cons.mpr ⟨nC_11_67, List.forall_mem_cons.mpr ⟨nC_11_74, List.forall_mem_cons.mpr ⟨nC_11_81, List.forall_mem_cons.mpr ⟨nC_11_90, (fun _ h => absurd h List.not_mem_nil)⟩⟩⟩⟩⟩⟩⟩⟩⟩
def nCTab (o : Nat) : List (Nat × Nat) := match o with
  | 9 => nC9
  | 11 => nC11
  | _ => []
theorem nCTab_ok (o : Nat) : ∀ x ∈ nCTab o, nCOK o x := by
  unfold nCTab
  split
  · exact nC9_ok
  · exact nC11_ok
  · exact fun _ h => absurd h List.not_mem_nil
theorem aK_byte : Cond.arrayClass .byte ∈ gtbl := (tq1 57 rfl rfl)
theorem aK_int : Cond.arrayClass .int ∈ gtbl := (tq1 58 rfl rfl)
theorem aK_long : Cond.arrayClass .long ∈ gtbl := (tq1 83 rfl rfl)
theorem aK_short : Cond.arrayClass .short ∈ gtbl := (tq2 181 rfl rfl)
theorem aK_boolean : Cond.arrayClass .boolean ∈ gtbl := (tq2 223 rfl rfl)
theorem inK0 : Cond.instantiable RX0 2 ∈ gtbl := (tq2 183 rfl rfl)
theorem inK1 : Cond.instantiable RX1 6 ∈ gtbl := (tq2 197 rfl rfl)
theorem inK2 : Cond.instantiable RX2 5 ∈ gtbl := (tq1 60 rfl rfl)
theorem inK3 : Cond.instantiable RX3 11 ∈ gtbl := (tq2 225 rfl rfl)
theorem inK4 : Cond.instantiable RX4 19 ∈ gtbl := (tq2 73 rfl rfl)
theorem inK5 : Cond.instantiable RX5 2 ∈ gtbl := (tq1 40 rfl rfl)
theorem inK6 : Cond.instantiable RX6 8 ∈ gtbl := (tq3 27 rfl rfl)
theorem inK7 : Cond.instantiable RX7 12 ∈ gtbl := (tq1 183 rfl rfl)
theorem inK8 : Cond.instantiable RX8 2 ∈ gtbl := (tq2 169 rfl rfl)
theorem inK9 : Cond.instantiable RX9 18 ∈ gtbl := (tq1 34 rfl rfl)
theorem inK10 : Cond.instantiable RX10 8 ∈ gtbl := (tq1 185 rfl rfl)
theorem inK11 : Cond.instantiable RX11 17 ∈ gtbl := (tq1 26 rfl rfl)
theorem inK12 : Cond.instantiable RX12 87 ∈ gtbl := (tq6 44 rfl rfl)

/-! the tables are good -/
theorem ul_0_0 : u_lay (mCn 0) (mTT 0) 0 ∈ mTB := (in1 85 rfl rfl)
theorem ul_0_1 : u_lay (mCn 0) (mTT 0) 1 ∈ mTB := (in1 87 rfl rfl)
theorem ul_0_2 : u_lay (mCn 0) (mTT 0) 2 ∈ mTB := (in1 89 rfl rfl)
theorem ul_0_3 : u_lay (mCn 0) (mTT 0) 3 ∈ mTB := (in1 91 rfl rfl)
theorem ul_0_4 : u_lay (mCn 0) (mTT 0) 4 ∈ mTB := (in1 93 rfl rfl)
theorem ul_0_5 : u_lay (mCn 0) (mTT 0) 5 ∈ mTB := (in1 95 rfl rfl)
theorem ul_0 : ∀ w ∈ u_ws (mCn 0) (mTT 0) (mnf 0), w ∈ mTB := by
  intro w hw
  obtain ⟨k, hk, rfl⟩ := List.mem_map.mp hw
  have hk : k < 6 := List.mem_range.mp hk
  match k, hk with
  | 0, _ => exact ul_0_0
  | 1, _ => exact ul_0_1
  | 2, _ => exact ul_0_2
  | 3, _ => exact ul_0_3
  | 4, _ => exact ul_0_4
  | 5, _ => exact ul_0_5
theorem ul_1_0 : u_lay (mCn 1) (mTT 1) 0 ∈ mTB := (in1 173 rfl rfl)
theorem ul_1_1 : u_lay (mCn 1) (mTT 1) 1 ∈ mTB := (in1 175 rfl rfl)
theorem ul_1_2 : u_lay (mCn 1) (mTT 1) 2 ∈ mTB := (in1 177 rfl rfl)
theorem ul_1_3 : u_lay (mCn 1) (mTT 1) 3 ∈ mTB := (in1 179 rfl rfl)
theorem ul_1 : ∀ w ∈ u_ws (mCn 1) (mTT 1) (mnf 1), w ∈ mTB := by
  intro w hw
  obtain ⟨k, hk, rfl⟩ := List.mem_map.mp hw
  have hk : k < 4 := List.mem_range.mp hk
  match k, hk with
  | 0, _ => exact ul_1_0
  | 1, _ => exact ul_1_1
  | 2, _ => exact ul_1_2
  | 3, _ => exact ul_1_3
theorem ul_2_0 : u_lay (mCn 2) (mTT 2) 0 ∈ mTB := (in1 126 rfl rfl)
theorem ul_2_1 : u_lay (mCn 2) (mTT 2) 1 ∈ mTB := (in1 128 rfl rfl)
theorem ul_2_2 : u_lay (mCn 2) (mTT 2) 2 ∈ mTB := (in1 130 rfl rfl)
theorem ul_2_3 : u_lay (mCn 2) (mTT 2) 3 ∈ mTB := (in1 132 rfl rfl)
theorem ul_2_4 : u_lay (mCn 2) (mTT 2) 4 ∈ mTB := (in1 134 rfl rfl)
theorem ul_2_5 : u_lay (mCn 2) (mTT 2) 5 ∈ mTB := (in1 136 rfl rfl)
theorem ul_2 : ∀ w ∈ u_ws (mCn 2) (mTT 2) (mnf 2), w ∈ mTB := by
  intro w hw
  obtain ⟨k, hk, rfl⟩ := List.mem_map.mp hw
  have hk : k < 6 := List.mem_range.mp hk
  match k, hk with
  | 0, _ => exact ul_2_0
  | 1, _ => exact ul_2_1
  | 2, _ => exact ul_2_2
  | 3, _ => exact ul_2_3
  | 4, _ => exact ul_2_4
  | 5, _ => exact ul_2_5
theorem ul_3_0 : u_lay (mCn 3) (mTT 3) 0 ∈ mTB := (in2 187 rfl rfl)
theorem ul_3_1 : u_lay (mCn 3) (mTT 3) 1 ∈ mTB := (in2 189 rfl rfl)
theorem ul_3_2 : u_lay (mCn 3) (mTT 3) 2 ∈ mTB := (in2 191 rfl rfl)
theorem ul_3_3 : u_lay (mCn 3) (mTT 3) 3 ∈ mTB := (in2 193 rfl rfl)
theorem ul_3_4 : u_lay (mCn 3) (mTT 3) 4 ∈ mTB := (in2 195 rfl rfl)
theorem ul_3_5 : u_lay (mCn 3) (mTT 3) 5 ∈ mTB := (in2 197 rfl rfl)
theorem ul_3_6 : u_lay (mCn 3) (mTT 3) 6 ∈ mTB := (in2 199 rfl rfl)
theorem ul_3_7 : u_lay (mCn 3) (mTT 3) 7 ∈ mTB := (in2 201 rfl rfl)
theorem ul_3 : ∀ w ∈ u_ws (mCn 3) (mTT 3) (mnf 3), w ∈ mTB := by
  intro w hw
  obtain ⟨k, hk, rfl⟩ := List.mem_map.mp hw
  have hk : k < 8 := List.mem_range.mp hk
  match k, hk with
  | 0, _ => exact ul_3_0
  | 1, _ => exact ul_3_1
  | 2, _ => exact ul_3_2
  | 3, _ => exact ul_3_3
  | 4, _ => exact ul_3_4
  | 5, _ => exact ul_3_5
  | 6, _ => exact ul_3_6
  | 7, _ => exact ul_3_7
theorem ul_4_0 : u_lay (mCn 4) (mTT 4) 0 ∈ mTB := (in2 128 rfl rfl)
theorem ul_4_1 : u_lay (mCn 4) (mTT 4) 1 ∈ mTB := (in2 130 rfl rfl)
theorem ul_4_2 : u_lay (mCn 4) (mTT 4) 2 ∈ mTB := (in2 132 rfl rfl)
theorem ul_4_3 : u_lay (mCn 4) (mTT 4) 3 ∈ mTB := (in2 134 rfl rfl)
theorem ul_4_4 : u_lay (mCn 4) (mTT 4) 4 ∈ mTB := (in2 136 rfl rfl)
theorem ul_4 : ∀ w ∈ u_ws (mCn 4) (mTT 4) (mnf 4), w ∈ mTB := by
  intro w hw
  obtain ⟨k, hk, rfl⟩ := List.mem_map.mp hw
  have hk : k < 5 := List.mem_range.mp hk
  match k, hk with
  | 0, _ => exact ul_4_0
  | 1, _ => exact ul_4_1
  | 2, _ => exact ul_4_2
  | 3, _ => exact ul_4_3
  | 4, _ => exact ul_4_4
theorem ul_5_0 : u_lay (mCn 5) (mTT 5) 0 ∈ mTB := (in2 91 rfl rfl)
theorem ul_5_1 : u_lay (mCn 5) (mTT 5) 1 ∈ mTB := (in2 93 rfl rfl)
theorem ul_5_2 : u_lay (mCn 5) (mTT 5) 2 ∈ mTB := (in2 95 rfl rfl)
theorem ul_5_3 : u_lay (mCn 5) (mTT 5) 3 ∈ mTB := (in2 97 rfl rfl)
theorem ul_5_4 : u_lay (mCn 5) (mTT 5) 4 ∈ mTB := (in2 99 rfl rfl)
theorem ul_5_5 : u_lay (mCn 5) (mTT 5) 5 ∈ mTB := (in2 101 rfl rfl)
theorem ul_5_6 : u_lay (mCn 5) (mTT 5) 6 ∈ mTB := (in2 103 rfl rfl)
theorem ul_5_7 : u_lay (mCn 5) (mTT 5) 7 ∈ mTB := (in2 105 rfl rfl)
theorem ul_5_8 : u_lay (mCn 5) (mTT 5) 8 ∈ mTB := (in2 107 rfl rfl)
theorem ul_5_9 : u_lay (mCn 5) (mTT 5) 9 ∈ mTB := (in2 109 rfl rfl)
theorem ul_5_10 : u_lay (mCn 5) (mTT 5) 10 ∈ mTB := (in2 111 rfl rfl)
theorem ul_5 : ∀ w ∈ u_ws (mCn 5) (mTT 5) (mnf 5), w ∈ mTB := by
  intro w hw
  obtain ⟨k, hk, rfl⟩ := List.mem_map.mp hw
  have hk : k < 11 := List.mem_range.mp hk
  match k, hk with
  | 0, _ => exact ul_5_0
  | 1, _ => exact ul_5_1
  | 2, _ => exact ul_5_2
  | 3, _ => exact ul_5_3
  | 4, _ => exact ul_5_4
  | 5, _ => exact ul_5_5
  | 6, _ => exact ul_5_6
  | 7, _ => exact ul_5_7
  | 8, _ => exact ul_5_8
  | 9, _ => exact ul_5_9
  | 10, _ => exact ul_5_10
theorem ul_6_0 : u_lay (mCn 6) (mTT 6) 0 ∈ mTB := (in2 4 rfl rfl)
theorem ul_6_1 : u_lay (mCn 6) (mTT 6) 1 ∈ mTB := (in2 6 rfl rfl)
theorem ul_6_2 : u_lay (mCn 6) (mTT 6) 2 ∈ mTB := (in2 8 rfl rfl)
theorem ul_6_3 : u_lay (mCn 6) (mTT 6) 3 ∈ mTB := (in2 10 rfl rfl)
theorem ul_6_4 : u_lay (mCn 6) (mTT 6) 4 ∈ mTB := (in2 12 rfl rfl)
theorem ul_6_5 : u_lay (mCn 6) (mTT 6) 5 ∈ mTB := (in2 14 rfl rfl)
theorem ul_6_6 : u_lay (mCn 6) (mTT 6) 6 ∈ mTB := (in2 16 rfl rfl)
theorem ul_6_7 : u_lay (mCn 6) (mTT 6) 7 ∈ mTB := (in2 18 rfl rfl)
theorem ul_6_8 : u_lay (mCn 6) (mTT 6) 8 ∈ mTB := (in2 20 rfl rfl)
theorem ul_6_9 : u_lay (mCn 6) (mTT 6) 9 ∈ mTB := (in2 22 rfl rfl)
theorem ul_6_10 : u_lay (mCn 6) (mTT 6) 10 ∈ mTB := (in2 24 rfl rfl)
theorem ul_6_11 : u_lay (mCn 6) (mTT 6) 11 ∈ mTB := (in2 26 rfl rfl)
theorem ul_6_12 : u_lay (mCn 6) (mTT 6) 12 ∈ mTB := (in2 28 rfl rfl)
theorem ul_6_13 : u_lay (mCn 6) (mTT 6) 13 ∈ mTB := (in2 30 rfl rfl)
theorem ul_6 : ∀ w ∈ u_ws (mCn 6) (mTT 6) (mnf 6), w ∈ mTB := by
  intro w hw
  obtain ⟨k, hk, rfl⟩ := List.mem_map.mp hw
  have hk : k < 14 := List.mem_range.mp hk
  match k, hk with
  | 0, _ => exact ul_6_0
  | 1, _ => exact ul_6_1
  | 2, _ => exact ul_6_2
  | 3, _ => exact ul_6_3
  | 4, _ => exact ul_6_4
  | 5, _ => exact ul_6_5
  | 6, _ => exact ul_6_6
  | 7, _ => exact ul_6_7
  | 8, _ => exact ul_6_8
  | 9, _ => exact ul_6_9
  | 10, _ => exact ul_6_10
  | 11, _ => exact ul_6_11
  | 12, _ => exact ul_6_12
  | 13, _ => exact ul_6_13
theorem ul_7_0 : u_lay (mCn 7) (mTT 7) 0 ∈ mTB := (in2 51 rfl rfl)
theorem ul_7_1 : u_lay (mCn 7) (mTT 7) 1 ∈ mTB := (in2 53 rfl rfl)
theorem ul_7_2 : u_lay (mCn 7) (mTT 7) 2 ∈ mTB := (in2 55 rfl rfl)
theorem ul_7_3 : u_lay (mCn 7) (mTT 7) 3 ∈ mTB := (in2 57 rfl rfl)
theorem ul_7_4 : u_lay (mCn 7) (mTT 7) 4 ∈ mTB := (in2 59 rfl rfl)
theorem ul_7_5 : u_lay (mCn 7) (mTT 7) 5 ∈ mTB := (in2 61 rfl rfl)
theorem ul_7_6 : u_lay (mCn 7) (mTT 7) 6 ∈ mTB := (in2 63 rfl rfl)
theorem ul_7_7 : u_lay (mCn 7) (mTT 7) 7 ∈ mTB := (in2 65 rfl rfl)
theorem ul_7_8 : u_lay (mCn 7) (mTT 7) 8 ∈ mTB := (in2 67 rfl rfl)
theorem ul_7_9 : u_lay (mCn 7) (mTT 7) 9 ∈ mTB := (in2 69 rfl rfl)
theorem ul_7 : ∀ w ∈ u_ws (mCn 7) (mTT 7) (mnf 7), w ∈ mTB := by
  intro w hw
  obtain ⟨k, hk, rfl⟩ := List.mem_map.mp hw
  have hk : k < 10 := List.mem_range.mp hk
  match k, hk with
  | 0, _ => exact ul_7_0
  | 1, _ => exact ul_7_1
  | 2, _ => exact ul_7_2
  | 3, _ => exact ul_7_3
  | 4, _ => exact ul_7_4
  | 5, _ => exact ul_7_5
  | 6, _ => exact ul_7_6
  | 7, _ => exact ul_7_7
  | 8, _ => exact ul_7_8
  | 9, _ => exact ul_7_9
theorem ul_8_0 : u_lay (mCn 8) (mTT 8) 0 ∈ mTB := (in1 195 rfl rfl)
theorem ul_8_1 : u_lay (mCn 8) (mTT 8) 1 ∈ mTB := (in1 197 rfl rfl)
theorem ul_8_2 : u_lay (mCn 8) (mTT 8) 2 ∈ mTB := (in1 199 rfl rfl)
theorem ul_8_3 : u_lay (mCn 8) (mTT 8) 3 ∈ mTB := (in1 201 rfl rfl)
theorem ul_8_4 : u_lay (mCn 8) (mTT 8) 4 ∈ mTB := (in1 203 rfl rfl)
theorem ul_8_5 : u_lay (mCn 8) (mTT 8) 5 ∈ mTB := (in1 205 rfl rfl)
theorem ul_8_6 : u_lay (mCn 8) (mTT 8) 6 ∈ mTB := (in1 207 rfl rfl)
theorem ul_8_7 : u_lay (mCn 8) (mTT 8) 7 ∈ mTB := (in1 209 rfl rfl)
theorem ul_8 : ∀ w ∈ u_ws (mCn 8) (mTT 8) (mnf 8), w ∈ mTB := by
  intro w hw
  obtain ⟨k, hk, rfl⟩ := List.mem_map.mp hw
  have hk : k < 8 := List.mem_range.mp hk
  match k, hk with
  | 0, _ => exact ul_8_0
  | 1, _ => exact ul_8_1
  | 2, _ => exact ul_8_2
  | 3, _ => exact ul_8_3
  | 4, _ => exact ul_8_4
  | 5, _ => exact ul_8_5
  | 6, _ => exact ul_8_6
  | 7, _ => exact ul_8_7
theorem ul_9_0 : u_lay (mCn 9) (mTT 9) 0 ∈ mTB := (in2 154 rfl rfl)
theorem ul_9_1 : u_lay (mCn 9) (mTT 9) 1 ∈ mTB := (in2 156 rfl rfl)
theorem ul_9_2 : u_lay (mCn 9) (mTT 9) 2 ∈ mTB := (in2 158 rfl rfl)
theorem ul_9_3 : u_lay (mCn 9) (mTT 9) 3 ∈ mTB := (in2 160 rfl rfl)
theorem ul_9_4 : u_lay (mCn 9) (mTT 9) 4 ∈ mTB := (in2 162 rfl rfl)
theorem ul_9_5 : u_lay (mCn 9) (mTT 9) 5 ∈ mTB := (in2 164 rfl rfl)
theorem ul_9_6 : u_lay (mCn 9) (mTT 9) 6 ∈ mTB := (in2 166 rfl rfl)
theorem ul_9 : ∀ w ∈ u_ws (mCn 9) (mTT 9) (mnf 9), w ∈ mTB := by
  intro w hw
  obtain ⟨k, hk, rfl⟩ := List.mem_map.mp hw
  have hk : k < 7 := List.mem_range.mp hk
  match k, hk with
  | 0, _ => exact ul_9_0
  | 1, _ => exact ul_9_1
  | 2, _ => exact ul_9_2
  | 3, _ => exact ul_9_3
  | 4, _ => exact ul_9_4
  | 5, _ => exact ul_9_5
  | 6, _ => exact ul_9_6
theorem ul_10_0 : u_lay (mCn 10) (mTT 10) 0 ∈ mTB := (in1 154 rfl rfl)
theorem ul_10_1 : u_lay (mCn 10) (mTT 10) 1 ∈ mTB := (in1 156 rfl rfl)
theorem ul_10_2 : u_lay (mCn 10) (mTT 10) 2 ∈ mTB := (in1 158 rfl rfl)
theorem ul_10_3 : u_lay (mCn 10) (mTT 10) 3 ∈ mTB := (in1 160 rfl rfl)
theorem ul_10 : ∀ w ∈ u_ws (mCn 10) (mTT 10) (mnf 10), w ∈ mTB := by
  intro w hw
  obtain ⟨k, hk, rfl⟩ := List.mem_map.mp hw
  have hk : k < 4 := List.mem_range.mp hk
  match k, hk with
  | 0, _ => exact ul_10_0
  | 1, _ => exact ul_10_1
  | 2, _ => exact ul_10_2
  | 3, _ => exact ul_10_3
theorem ul_11_0 : u_lay (mCn 11) (mTT 11) 0 ∈ mTB := (in2 212 rfl rfl)
theorem ul_11_1 : u_lay (mCn 11) (mTT 11) 1 ∈ mTB := (in2 214 rfl rfl)
theorem ul_11_2 : u_lay (mCn 11) (mTT 11) 2 ∈ mTB := (in2 216 rfl rfl)
theorem ul_11_3 : u_lay (mCn 11) (mTT 11) 3 ∈ mTB := (in2 218 rfl rfl)
theorem ul_11_4 : u_lay (mCn 11) (mTT 11) 4 ∈ mTB := (in2 220 rfl rfl)
theorem ul_11_5 : u_lay (mCn 11) (mTT 11) 5 ∈ mTB := (in2 222 rfl rfl)
theorem ul_11_6 : u_lay (mCn 11) (mTT 11) 6 ∈ mTB := (in2 224 rfl rfl)
theorem ul_11_7 : u_lay (mCn 11) (mTT 11) 7 ∈ mTB := (in2 226 rfl rfl)
theorem ul_11 : ∀ w ∈ u_ws (mCn 11) (mTT 11) (mnf 11), w ∈ mTB := by
  intro w hw
  obtain ⟨k, hk, rfl⟩ := List.mem_map.mp hw
  have hk : k < 8 := List.mem_range.mp hk
  match k, hk with
  | 0, _ => exact ul_11_0
  | 1, _ => exact ul_11_1
  | 2, _ => exact ul_11_2
  | 3, _ => exact ul_11_3
  | 4, _ => exact ul_11_4
  | 5, _ => exact ul_11_5
  | 6, _ => exact ul_11_6
  | 7, _ => exact ul_11_7
theorem ul_12_0 : u_lay (mCn 12) (mTT 12) 0 ∈ mTB := (in7 0 rfl rfl)
theorem ul_12_1 : u_lay (mCn 12) (mTT 12) 1 ∈ mTB := (in7 2 rfl rfl)
theorem ul_12_2 : u_lay (mCn 12) (mTT 12) 2 ∈ mTB := (in7 4 rfl rfl)
theorem ul_12_3 : u_lay (mCn 12) (mTT 12) 3 ∈ mTB := (in7 6 rfl rfl)
theorem ul_12_4 : u_lay (mCn 12) (mTT 12) 4 ∈ mTB := (in7 8 rfl rfl)
theorem ul_12_5 : u_lay (mCn 12) (mTT 12) 5 ∈ mTB := (in7 10 rfl rfl)
theorem ul_12_6 : u_lay (mCn 12) (mTT 12) 6 ∈ mTB := (in7 12 rfl rfl)
theorem ul_12_7 : u_lay (mCn 12) (mTT 12) 7 ∈ mTB := (in7 14 rfl rfl)
theorem ul_12_8 : u_lay (mCn 12) (mTT 12) 8 ∈ mTB := (in7 16 rfl rfl)
theorem ul_12_9 : u_lay (mCn 12) (mTT 12) 9 ∈ mTB := (in7 18 rfl rfl)
theorem ul_12_10 : u_lay (mCn 12) (mTT 12) 10 ∈ mTB := (in7 20 rfl rfl)
theorem ul_12_11 : u_lay (mCn 12) (mTT 12) 11 ∈ mTB := (in7 22 rfl rfl)
theorem ul_12_12 : u_lay (mCn 12) (mTT 12) 12 ∈ mTB := (in7 24 rfl rfl)
theorem ul_12_13 : u_lay (mCn 12) (mTT 12) 13 ∈ mTB := (in7 26 rfl rfl)
theorem ul_12_14 : u_lay (mCn 12) (mTT 12) 14 ∈ mTB := (in7 28 rfl rfl)
theorem ul_12_15 : u_lay (mCn 12) (mTT 12) 15 ∈ mTB := (in7 30 rfl rfl)
theorem ul_12_16 : u_lay (mCn 12) (mTT 12) 16 ∈ mTB := (in7 32 rfl rfl)
theorem ul_12_17 : u_lay (mCn 12) (mTT 12) 17 ∈ mTB := (in7 34 rfl rfl)
theorem ul_12_18 : u_lay (mCn 12) (mTT 12) 18 ∈ mTB := (in7 36 rfl rfl)
theorem ul_12_19 : u_lay (mCn 12) (mTT 12) 19 ∈ mTB := (in7 38 rfl rfl)
theorem ul_12_20 : u_lay (mCn 12) (mTT 12) 20 ∈ mTB := (in7 40 rfl rfl)
theorem ul_12_21 : u_lay (mCn 12) (mTT 12) 21 ∈ mTB := (in7 42 rfl rfl)
theorem ul_12_22 : u_lay (mCn 12) (mTT 12) 22 ∈ mTB := (in7 44 rfl rfl)
theorem ul_12_23 : u_lay (mCn 12) (mTT 12) 23 ∈ mTB := (in7 46 rfl rfl)
theorem ul_12_24 : u_lay (mCn 12) (mTT 12) 24 ∈ mTB := (in7 48 rfl rfl)
theorem ul_12_25 : u_lay (mCn 12) (mTT 12) 25 ∈ mTB := (in7 50 rfl rfl)
theorem ul_12_26 : u_lay (mCn 12) (mTT 12) 26 ∈ mTB := (in7 52 rfl rfl)
theorem ul_12_27 : u_lay (mCn 12) (mTT 12) 27 ∈ mTB := (in7 54 rfl rfl)
theorem ul_12_28 : u_lay (mCn 12) (mTT 12) 28 ∈ mTB := (in7 56 rfl rfl)
theorem ul_12_29 : u_lay (mCn 12) (mTT 12) 29 ∈ mTB := (in7 58 rfl rfl)
theorem ul_12_30 : u_lay (mCn 12) (mTT 12) 30 ∈ mTB := (in7 60 rfl rfl)
theorem ul_12_31 : u_lay (mCn 12) (mTT 12) 31 ∈ mTB := (in7 62 rfl rfl)
theorem ul_12_32 : u_lay (mCn 12) (mTT 12) 32 ∈ mTB := (in7 64 rfl rfl)
theorem ul_12_33 : u_lay (mCn 12) (mTT 12) 33 ∈ mTB := (in7 66 rfl rfl)
theorem ul_12_34 : u_lay (mCn 12) (mTT 12) 34 ∈ mTB := (in7 68 rfl rfl)
theorem ul_12_35 : u_lay (mCn 12) (mTT 12) 35 ∈ mTB := (in7 70 rfl rfl)
theorem ul_12_36 : u_lay (mCn 12) (mTT 12) 36 ∈ mTB := (in7 72 rfl rfl)
theorem ul_12_37 : u_lay (mCn 12) (mTT 12) 37 ∈ mTB := (in7 74 rfl rfl)
theorem ul_12_38 : u_lay (mCn 12) (mTT 12) 38 ∈ mTB := (in7 76 rfl rfl)
theorem ul_12_39 : u_lay (mCn 12) (mTT 12) 39 ∈ mTB := (in7 78 rfl rfl)
theorem ul_12_40 : u_lay (mCn 12) (mTT 12) 40 ∈ mTB := (in7 80 rfl rfl)
theorem ul_12_41 : u_lay (mCn 12) (mTT 12) 41 ∈ mTB := (in7 82 rfl rfl)
theorem ul_12_42 : u_lay (mCn 12) (mTT 12) 42 ∈ mTB := (in7 84 rfl rfl)
theorem ul_12_43 : u_lay (mCn 12) (mTT 12) 43 ∈ mTB := (in7 86 rfl rfl)
theorem ul_12_44 : u_lay (mCn 12) (mTT 12) 44 ∈ mTB := (in7 88 rfl rfl)
theorem ul_12_45 : u_lay (mCn 12) (mTT 12) 45 ∈ mTB := (in7 90 rfl rfl)
theorem ul_12_46 : u_lay (mCn 12) (mTT 12) 46 ∈ mTB := (in7 92 rfl rfl)
theorem ul_12_47 : u_lay (mCn 12) (mTT 12) 47 ∈ mTB := (in7 94 rfl rfl)
theorem ul_12_48 : u_lay (mCn 12) (mTT 12) 48 ∈ mTB := (in7 96 rfl rfl)
theorem ul_12_49 : u_lay (mCn 12) (mTT 12) 49 ∈ mTB := (in7 98 rfl rfl)
theorem ul_12_50 : u_lay (mCn 12) (mTT 12) 50 ∈ mTB := (in7 100 rfl rfl)
theorem ul_12_51 : u_lay (mCn 12) (mTT 12) 51 ∈ mTB := (in7 102 rfl rfl)
theorem ul_12_52 : u_lay (mCn 12) (mTT 12) 52 ∈ mTB := (in7 104 rfl rfl)
theorem ul_12_53 : u_lay (mCn 12) (mTT 12) 53 ∈ mTB := (in7 106 rfl rfl)
theorem ul_12_54 : u_lay (mCn 12) (mTT 12) 54 ∈ mTB := (in7 108 rfl rfl)
theorem ul_12_55 : u_lay (mCn 12) (mTT 12) 55 ∈ mTB := (in7 110 rfl rfl)
theorem ul_12_56 : u_lay (mCn 12) (mTT 12) 56 ∈ mTB := (in7 112 rfl rfl)
theorem ul_12_57 : u_lay (mCn 12) (mTT 12) 57 ∈ mTB := (in7 114 rfl rfl)
theorem ul_12_58 : u_lay (mCn 12) (mTT 12) 58 ∈ mTB := (in7 116 rfl rfl)
theorem ul_12_59 : u_lay (mCn 12) (mTT 12) 59 ∈ mTB := (in7 118 rfl rfl)
theorem ul_12_60 : u_lay (mCn 12) (mTT 12) 60 ∈ mTB := (in7 120 rfl rfl)
theorem ul_12 : ∀ w ∈ u_ws (mCn 12) (mTT 12) (mnf 12), w ∈ mTB := by
  intro w hw
  obtain ⟨k, hk, rfl⟩ := List.mem_map.mp hw
  have hk : k < 61 := List.mem_range.mp hk
  match k, hk with
  | 0, _ => exact ul_12_0
  | 1, _ => exact ul_12_1
  | 2, _ => exact ul_12_2
  | 3, _ => exact ul_12_3
  | 4, _ => exact ul_12_4
  | 5, _ => exact ul_12_5
  | 6, _ => exact ul_12_6
  | 7, _ => exact ul_12_7
  | 8, _ => exact ul_12_8
  | 9, _ => exact ul_12_9
  | 10, _ => exact ul_12_10
  | 11, _ => exact ul_12_11
  | 12, _ => exact ul_12_12
  | 13, _ => exact ul_12_13
  | 14, _ => exact ul_12_14
  | 15, _ => exact ul_12_15
  | 16, _ => exact ul_12_16
  | 17, _ => exact ul_12_17
  | 18, _ => exact ul_12_18
  | 19, _ => exact ul_12_19
  | 20, _ => exact ul_12_20
  | 21, _ => exact ul_12_21
  | 22, _ => exact ul_12_22
  | 23, _ => exact ul_12_23
  | 24, _ => exact ul_12_24
  | 25, _ => exact ul_12_25
  | 26, _ => exact ul_12_26
  | 27, _ => exact ul_12_27
  | 28, _ => exact ul_12_28
  | 29, _ => exact ul_12_29
  | 30, _ => exact ul_12_30
  | 31, _ => exact ul_12_31
  | 32, _ => exact ul_12_32
  | 33, _ => exact ul_12_33
  | 34, _ => exact ul_12_34
  | 35, _ => exact ul_12_35
  | 36, _ => exact ul_12_36
  | 37, _ => exact ul_12_37
  | 38, _ => exact ul_12_38
  | 39, _ => exact ul_12_39
  | 40, _ => exact ul_12_40
  | 41, _ => exact ul_12_41
  | 42, _ => exact ul_12_42
  | 43, _ => exact ul_12_43
  | 44, _ => exact ul_12_44
  | 45, _ => exact ul_12_45
  | 46, _ => exact ul_12_46
  | 47, _ => exact ul_12_47
  | 48, _ => exact ul_12_48
  | 49, _ => exact ul_12_49
  | 50, _ => exact ul_12_50
  | 51, _ => exact ul_12_51
  | 52, _ => exact ul_12_52
  | 53, _ => exact ul_12_53
  | 54, _ => exact ul_12_54
  | 55, _ => exact ul_12_55
  | 56, _ => exact ul_12_56
  | 57, _ => exact ul_12_57
  | 58, _ => exact ul_12_58
  | 59, _ => exact ul_12_59
  | 60, _ => exact ul_12_60
  | k + 61, hk => exact absurd hk (by omega)
theorem GW0 : mGW := by
  refine ⟨fun c hc => ?_, ⟨(in1 29 rfl rfl), (in1 30 rfl rfl)⟩, ⟨(in3 25 rfl rfl), (in3 24 rfl rfl), (in1 16 rfl rfl)⟩, ⟨(in1 98 rfl rfl), (in1 99 rfl rfl), (in7 123 rfl rfl), (in2 169 rfl rfl)⟩, (in1 15 rfl rfl), ⟨(in3 21 rfl rfl), (in3 22 rfl rfl)⟩, ⟨(in3 18 rfl rfl), (in3 19 rfl rfl)⟩, ⟨(in4 52 rfl rfl), (in4 53 rfl rfl)⟩, ⟨(in5 141 rfl rfl), (in5 142 rfl rfl)⟩, ⟨(in5 135 rfl rfl), (in5 136 rfl rfl)⟩⟩
  match c, hc with
  | 0, _ => exact ul_0
  | 1, _ => exact ul_1
  | 2, _ => exact ul_2
  | 3, _ => exact ul_3
  | 4, _ => exact ul_4
  | 5, _ => exact ul_5
  | 6, _ => exact ul_6
  | 7, _ => exact ul_7
  | 8, _ => exact ul_8
  | 9, _ => exact ul_9
  | 10, _ => exact ul_10
  | 11, _ => exact ul_11
  | 12, _ => exact ul_12
theorem tMs_good {j : Nat} (h : j < 344) : mGM (tMs.getD j M_none) := by
  have hl : j < tMs.length := by rw [tMs_len]; exact h
  rw [List.getD_eq_getElem?_getD, List.getElem?_eq_getElem hl]
  exact gN _ (List.getElem_mem hl)
theorem tMet_of {o i md : Nat} {N : mM} (h : tMet TB0 o i = some (md, N)) : ∃ j, (i, (md, j)) ∈ tbM o ∧ N = tMs.getD j M_none := by
  have h1 : (tbL tbM o i).map (fun q => (q.1, tMs.getD q.2 M_none)) = some (md, N) := h
  cases hq : tbL tbM o i with
  | none => rw [hq] at h1; cases h1
  | some q =>
    rw [hq] at h1
    obtain ⟨a, j⟩ := q
    have h2 : (a, tMs.getD j M_none) = (md, N) := Option.some.inj h1
    injection h2 with h3 h4
    subst h3
    exact ⟨j, tbL_mem hq, h4.symm⟩
theorem GT0 : mGT TB0 := by
  refine ⟨fun o i c k h => gF o _ (tbL_mem h), fun o i x h => gD o _ (tbL_mem h), fun o i j h => gD o _ (tbL_mem h), fun o i x h => gJ o _ (tbL_mem h), fun o i c h => gC o _ (tbL_mem h), fun o i k h => gA o _ (tbL_mem h), fun o i j h => gS o _ (tbL_mem h), ?_, ?_, ?_, ?_, ?_, ?_, ?_, ?_, ?_, ?_, ?_⟩
  · intro o i N h
    obtain ⟨j, h1, rfl⟩ := tMet_of h
    obtain ⟨g1, g2, g3, g4⟩ : PM o (i, (0, j)) := gM o _ h1
    exact ⟨tMs_good g1, g2, g3, g4⟩
  · intro o i N h
    obtain ⟨j, h1, rfl⟩ := tMet_of h
    obtain ⟨g1, g2, g3⟩ : PM o (i, (1, j)) := gM o _ h1
    exact ⟨tMs_good g1, g2, g3⟩
  · intro o i N h
    obtain ⟨j, h1, rfl⟩ := tMet_of h
    obtain ⟨g1, g2, g3, g4, g5⟩ : PM o (i, (2, j)) := gM o _ h1
    exact ⟨tMs_good g1, g2, g3, g4, g5⟩
  · intro o i N h
    obtain ⟨j, h1, rfl⟩ := tMet_of h
    obtain ⟨g1, g2, g3, g4, g5⟩ : PM o (i, (3, j)) := gM o _ h1
    exact ⟨tMs_good g1, g2, g3, g4, g5⟩
  · intro o i N h
    obtain ⟨j, h1, rfl⟩ := tMet_of h
    exact (gM o _ h1 : PM o (i, (4, j)))
  · intro o i N h
    obtain ⟨j, h1, rfl⟩ := tMet_of h
    exact (gM o _ h1 : PM o (i, (5, j)))
  · intro o i N h
    obtain ⟨j, h1, rfl⟩ := tMet_of h
    exact (gM o _ h1 : PM o (i, (10, j)))
  · intro o i N h
    obtain ⟨j, h1, rfl⟩ := tMet_of h
    exact (gM o _ h1 : PM o (i, (11, j)))
  · intro o i N h
    obtain ⟨j, h1, rfl⟩ := tMet_of h
    exact (gM o _ h1 : PM o (i, (12, j)))
  · intro o i N h
    obtain ⟨j, h1, rfl⟩ := tMet_of h
    exact (gM o _ h1 : PM o (i, (13, j)))
  · intro o i N h
    obtain ⟨j, h1, rfl⟩ := tMet_of h
    exact (gM o _ h1 : PM o (i, (14, j)))

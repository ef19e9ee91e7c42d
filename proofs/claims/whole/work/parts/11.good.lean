/-! the tables' words stand in the Statement -/
theorem in1 {w : Cond} (i : Nat) (h : tables_1_1[i]? = some w) (g : goodWord w = true) : w ∈ mTB := mTB_in (by unfold lw_tbl tables_1; simp only [List.mem_append]; simp [List.mem_of_getElem? h]) g
theorem in2 {w : Cond} (i : Nat) (h : tables_1_2[i]? = some w) (g : goodWord w = true) : w ∈ mTB := mTB_in (by unfold lw_tbl tables_1; simp only [List.mem_append]; simp [List.mem_of_getElem? h]) g
theorem in3 {w : Cond} (i : Nat) (h : tables_1_3[i]? = some w) (g : goodWord w = true) : w ∈ mTB := mTB_in (by unfold lw_tbl tables_1; simp only [List.mem_append]; simp [List.mem_of_getElem? h]) g
theorem in4 {w : Cond} (i : Nat) (h : tables_1_4[i]? = some w) (g : goodWord w = true) : w ∈ mTB := mTB_in (by unfold lw_tbl tables_1; simp only [List.mem_append]; simp [List.mem_of_getElem? h]) g
theorem in5 {w : Cond} (i : Nat) (h : tables_1_5[i]? = some w) (g : goodWord w = true) : w ∈ mTB := mTB_in (by unfold lw_tbl tables_1; simp only [List.mem_append]; simp [List.mem_of_getElem? h]) g
theorem in6 {w : Cond} (i : Nat) (h : tables_1_6[i]? = some w) (g : goodWord w = true) : w ∈ mTB := mTB_in (by unfold lw_tbl tables_1; simp only [List.mem_append]; simp [List.mem_of_getElem? h]) g
theorem in7 {w : Cond} (i : Nat) (h : tables_1_7[i]? = some w) (g : goodWord w = true) : w ∈ mTB := mTB_in (by unfold lw_tbl tables_1; simp only [List.mem_append]; simp [List.mem_of_getElem? h]) g
theorem in8 {w : Cond} (i : Nat) (h : tables_1_8[i]? = some w) (g : goodWord w = true) : w ∈ mTB := mTB_in (by unfold lw_tbl tables_1; simp only [List.mem_append]; simp [List.mem_of_getElem? h]) g
theorem in9 {w : Cond} (i : Nat) (h : tables_1_9[i]? = some w) (g : goodWord w = true) : w ∈ mTB := mTB_in (by unfold lw_tbl tables_1; simp only [List.mem_append]; simp [List.mem_of_getElem? h]) g
theorem in0 {w : Cond} (i : Nat) (h : (k2_sels lw_privs)[i]? = some w) (g : goodWord w = true) : w ∈ mTB := mTB_in (List.mem_append_left _ (List.mem_of_getElem? h)) g
def PF (o : Nat) (e : Nat × (Nat × Nat)) : Prop := e.2.1 < 13 ∧ e.2.2 < mnf e.2.1 ∧ Cond.fieldLink (mCn o) e.1 (mTT e.2.1 e.2.2).1 (mTT e.2.1 e.2.2).2.1 (mTT e.2.1 e.2.2).2.2.1 ∈ mTB
def PD (o : Nat) (e : Nat × (Int32 ⊕ Nat)) : Prop := match e.2 with
  | .inl x => Cond.constant (mCn o) e.1 x ∈ mTB
  | .inr j => mCn o = RX6 ∧ 5 ≤ j ∧ j < 20 ∧ (mSt j).1 = e.1
def PJ (o : Nat) (e : Nat × Int64) : Prop := Cond.constantLong (mCn o) e.1 e.2 ∈ mTB
def PC (o : Nat) (e : Nat × Nat) : Prop := e.2 < 13 ∧ Cond.classLink (mCn o) e.1 (mCn e.2) ∈ mTB ∧ Cond.instantiable (mCn e.2) (mnf e.2) ∈ mTB ∧ Cond.initialized (mCn e.2) ∈ mTB
def PA (o : Nat) (e : Nat × Nat) : Prop := 17 ≤ e.2 ∧ e.2 < 21 ∧ ∃ C, mat e.2 = .object C ∧ Cond.classLink (mCn o) e.1 C ∈ mTB
def PS (o : Nat) (e : Nat × Nat) : Prop := e.2 < 5 ∧ Cond.fieldLink (mCn o) e.1 RX6 (mSn e.2) "[I" ∈ mTB
def PM (o : Nat) (e : Nat × (Nat × Nat)) : Prop := match e.2.1 with
  | 0 => e.2.2 < 344 ∧ Cond.methodLink (mCn o) e.1 (mMn (tMs.getD e.2.2 M_none)) ∈ mTB ∧ Cond.instanceMethod (mMn (tMs.getD e.2.2 M_none)) ∈ mTB ∧ Cond.selects (mCn (mMo (tMs.getD e.2.2 M_none))) (mMn (tMs.getD e.2.2 M_none)) (mMn (tMs.getD e.2.2 M_none)) ∈ mTB
  | 1 => e.2.2 < 344 ∧ Cond.methodLink (mCn o) e.1 (mMn (tMs.getD e.2.2 M_none)) ∈ mTB ∧ Cond.static (mMn (tMs.getD e.2.2 M_none)) ∈ mTB
  | 2 => e.2.2 < 344 ∧ mMr (tMs.getD e.2.2 M_none) = none ∧ (mMn (tMs.getD e.2.2 M_none)).name = "<init>" ∧ Cond.methodLink (mCn o) e.1 (mMn (tMs.getD e.2.2 M_none)) ∈ mTB ∧ Cond.instanceMethod (mMn (tMs.getD e.2.2 M_none)) ∈ mTB
  | 3 => e.2.2 < 344 ∧ mMr (tMs.getD e.2.2 M_none) = none ∧ (mMn (tMs.getD e.2.2 M_none)).name = "<init>" ∧ Cond.methodLinkNest (mCn o) e.1 (mMn (tMs.getD e.2.2 M_none)) RX11 ∈ mNw ∧ Cond.instanceMethod (mMn (tMs.getD e.2.2 M_none)) ∈ mTB
  | 4 => Cond.methodLink (mCn o) e.1 Lib.objectInit ∈ mTB
  | 5 => Cond.methodLink (mCn o) e.1 arraycopyName ∈ mTB
  | 6 => Cond.methodLink (mCn o) e.1 yJ0_length_8abf5 ∈ mTB
  | 7 => Cond.methodLink (mCn o) e.1 yJ0_charAt_5068e ∈ mTB
  | 10 => Cond.methodLink (mCn o) e.1 Lib.Math.max.name ∈ mTB
  | 11 => Cond.methodLink (mCn o) e.1 Lib.Math.min.name ∈ mTB
  | 12 => Cond.methodLink (mCn o) e.1 Lib.Math.abs.name ∈ mTB
  | 13 => Cond.methodLink (mCn o) e.1 Lib.MathLoose.abs_long.x ∈ mTB
  | 14 => Cond.methodLink (mCn o) e.1 Lib.MathLoose.max_long.x ∈ mTB
  | _ => True
theorem gF_0_0 : PF 0 (9, (0, 0)) := ⟨Nat.le_of_ble_eq_true rfl, Nat.le_of_ble_eq_true rfl, (in1 57 rfl rfl)⟩
theorem gF_0_1 : PF 0 (15, (0, 1)) := ⟨Nat.le_of_ble_eq_true rfl, Nat.le_of_ble_eq_true rfl, (in1 63 rfl rfl)⟩
theorem gF_0_2 : PF 0 (18, (0, 2)) := ⟨Nat.le_of_ble_eq_true rfl, Nat.le_of_ble_eq_true rfl, (in1 66 rfl rfl)⟩
theorem gF_0_3 : PF 0 (21, (0, 3)) := ⟨Nat.le_of_ble_eq_true rfl, Nat.le_of_ble_eq_true rfl, (in1 70 rfl rfl)⟩
theorem gF_0_4 : PF 0 (24, (0, 4)) := ⟨Nat.le_of_ble_eq_true rfl, Nat.le_of_ble_eq_true rfl, (in1 74 rfl rfl)⟩
theorem gF_0_5 : PF 0 (27, (0, 5)) := ⟨Nat.le_of_ble_eq_true rfl, Nat.le_of_ble_eq_true rfl, (in1 77 rfl rfl)⟩
theorem gF_0 : ∀ e ∈ tbF_0, PF 0 e := List.forall_mem_cons.mpr ⟨gF_0_0, List.forall_mem_cons.mpr ⟨gF_0_1, List.forall_mem_cons.mpr ⟨gF_0_2, List.forall_mem_cons.mpr ⟨gF_0_3, List.forall_mem_cons.mpr ⟨gF_0_4, List.forall_mem_cons.mpr ⟨gF_0_5, fun _ h => absurd h List.not_mem_nil⟩⟩⟩⟩⟩⟩
theorem gF_1_0 : PF 1 (9, (1, 0)) := ⟨Nat.le_of_ble_eq_true rfl, Nat.le_of_ble_eq_true rfl, (in1 168 rfl rfl)⟩
theorem gF_1_1 : PF 1 (15, (1, 1)) := ⟨Nat.le_of_ble_eq_true rfl, Nat.le_of_ble_eq_true rfl, (in1 169 rfl rfl)⟩
theorem gF_1_2 : PF 1 (18, (1, 2)) := ⟨Nat.le_of_ble_eq_true rfl, Nat.le_of_ble_eq_true rfl, (in1 170 rfl rfl)⟩
theorem gF_1_3 : PF 1 (21, (1, 3)) := ⟨Nat.le_of_ble_eq_true rfl, Nat.le_of_ble_eq_true rfl, (in1 171 rfl rfl)⟩
theorem gF_1_4 : PF 1 (25, (2, 0)) := ⟨Nat.le_of_ble_eq_true rfl, Nat.le_of_ble_eq_true rfl, (in1 104 rfl rfl)⟩
theorem gF_1_5 : PF 1 (31, (0, 5)) := ⟨Nat.le_of_ble_eq_true rfl, Nat.le_of_ble_eq_true rfl, (in1 81 rfl rfl)⟩
theorem gF_1_6 : PF 1 (34, (2, 1)) := ⟨Nat.le_of_ble_eq_true rfl, Nat.le_of_ble_eq_true rfl, (in1 111 rfl rfl)⟩
theorem gF_1_7 : PF 1 (49, (0, 0)) := ⟨Nat.le_of_ble_eq_true rfl, Nat.le_of_ble_eq_true rfl, (in1 58 rfl rfl)⟩
theorem gF_1_8 : PF 1 (58, (0, 2)) := ⟨Nat.le_of_ble_eq_true rfl, Nat.le_of_ble_eq_true rfl, (in1 67 rfl rfl)⟩
theorem gF_1_9 : PF 1 (61, (0, 3)) := ⟨Nat.le_of_ble_eq_true rfl, Nat.le_of_ble_eq_true rfl, (in1 71 rfl rfl)⟩
theorem gF_1 : ∀ e ∈ tbF_1, PF 1 e := List.forall_mem_cons.mpr ⟨gF_1_0, List.forall_mem_cons.mpr ⟨gF_1_1, List.forall_mem_cons.mpr ⟨gF_1_2, List.forall_mem_cons.mpr ⟨gF_1_3, List.forall_mem_cons.mpr ⟨gF_1_4, List.forall_mem_cons.mpr ⟨gF_1_5, List.forall_mem_cons.mpr ⟨gF_1_6, List.forall_mem_cons.mpr ⟨gF_1_7, List.forall_mem_cons.mpr ⟨gF_1_8, List.forall_mem_cons.mpr ⟨gF_1_9, fun _ h => absurd h List.not_mem_nil⟩⟩⟩⟩⟩⟩⟩⟩⟩⟩
theorem gF_2_0 : PF 2 (12, (2, 0)) := ⟨Nat.le_of_ble_eq_true rfl, Nat.le_of_ble_eq_true rfl, (in1 100 rfl rfl)⟩
theorem gF_2_1 : PF 2 (18, (2, 1)) := ⟨Nat.le_of_ble_eq_true rfl, Nat.le_of_ble_eq_true rfl, (in1 108 rfl rfl)⟩
theorem gF_2_2 : PF 2 (21, (2, 2)) := ⟨Nat.le_of_ble_eq_true rfl, Nat.le_of_ble_eq_true rfl, (in1 115 rfl rfl)⟩
theorem gF_2_3 : PF 2 (25, (2, 3)) := ⟨Nat.le_of_ble_eq_true rfl, Nat.le_of_ble_eq_true rfl, (in1 117 rfl rfl)⟩
theorem gF_2_4 : PF 2 (28, (2, 4)) := ⟨Nat.le_of_ble_eq_true rfl, Nat.le_of_ble_eq_true rfl, (in1 120 rfl rfl)⟩
theorem gF_2_5 : PF 2 (31, (2, 5)) := ⟨Nat.le_of_ble_eq_true rfl, Nat.le_of_ble_eq_true rfl, (in1 122 rfl rfl)⟩
theorem gF_2_6 : PF 2 (42, (0, 4)) := ⟨Nat.le_of_ble_eq_true rfl, Nat.le_of_ble_eq_true rfl, (in1 75 rfl rfl)⟩
theorem gF_2_7 : PF 2 (53, (0, 0)) := ⟨Nat.le_of_ble_eq_true rfl, Nat.le_of_ble_eq_true rfl, (in1 59 rfl rfl)⟩
theorem gF_2_8 : PF 2 (65, (0, 1)) := ⟨Nat.le_of_ble_eq_true rfl, Nat.le_of_ble_eq_true rfl, (in1 64 rfl rfl)⟩
theorem gF_2_9 : PF 2 (68, (0, 3)) := ⟨Nat.le_of_ble_eq_true rfl, Nat.le_of_ble_eq_true rfl, (in1 72 rfl rfl)⟩
theorem gF_2_10 : PF 2 (74, (0, 2)) := ⟨Nat.le_of_ble_eq_true rfl, Nat.le_of_ble_eq_true rfl, (in1 68 rfl rfl)⟩
theorem gF_2_11 : PF 2 (87, (0, 5)) := ⟨Nat.le_of_ble_eq_true rfl, Nat.le_of_ble_eq_true rfl, (in1 84 rfl rfl)⟩
theorem gF_2 : ∀ e ∈ tbF_2, PF 2 e := List.forall_mem_cons.mpr ⟨gF_2_0, List.forall_mem_cons.mpr ⟨gF_2_1, List.forall_mem_cons.mpr ⟨gF_2_2, List.forall_mem_cons.mpr ⟨gF_2_3, List.forall_mem_cons.mpr ⟨gF_2_4, List.forall_mem_cons.mpr ⟨gF_2_5, List.forall_mem_cons.mpr ⟨gF_2_6, List.forall_mem_cons.mpr ⟨gF_2_7, List.forall_mem_cons.mpr ⟨gF_2_8, List.forall_mem_cons.mpr ⟨gF_2_9, List.forall_mem_cons.mpr ⟨gF_2_10, List.forall_mem_cons.mpr ⟨gF_2_11, fun _ h => absurd h List.not_mem_nil⟩⟩⟩⟩⟩⟩⟩⟩⟩⟩⟩⟩
theorem gF_3_0 : PF 3 (11, (3, 0)) := ⟨Nat.le_of_ble_eq_true rfl, Nat.le_of_ble_eq_true rfl, (in2 176 rfl rfl)⟩
theorem gF_3_1 : PF 3 (15, (3, 1)) := ⟨Nat.le_of_ble_eq_true rfl, Nat.le_of_ble_eq_true rfl, (in2 177 rfl rfl)⟩
theorem gF_3_2 : PF 3 (19, (3, 2)) := ⟨Nat.le_of_ble_eq_true rfl, Nat.le_of_ble_eq_true rfl, (in2 179 rfl rfl)⟩
theorem gF_3_3 : PF 3 (22, (3, 3)) := ⟨Nat.le_of_ble_eq_true rfl, Nat.le_of_ble_eq_true rfl, (in2 181 rfl rfl)⟩
theorem gF_3_4 : PF 3 (26, (3, 4)) := ⟨Nat.le_of_ble_eq_true rfl, Nat.le_of_ble_eq_true rfl, (in2 183 rfl rfl)⟩
theorem gF_3_5 : PF 3 (29, (3, 5)) := ⟨Nat.le_of_ble_eq_true rfl, Nat.le_of_ble_eq_true rfl, (in2 184 rfl rfl)⟩
theorem gF_3_6 : PF 3 (32, (3, 6)) := ⟨Nat.le_of_ble_eq_true rfl, Nat.le_of_ble_eq_true rfl, (in2 185 rfl rfl)⟩
theorem gF_3_7 : PF 3 (36, (3, 7)) := ⟨Nat.le_of_ble_eq_true rfl, Nat.le_of_ble_eq_true rfl, (in2 186 rfl rfl)⟩
theorem gF_3 : ∀ e ∈ tbF_3, PF 3 e := List.forall_mem_cons.mpr ⟨gF_3_0, List.forall_mem_cons.mpr ⟨gF_3_1, List.forall_mem_cons.mpr ⟨gF_3_2, List.forall_mem_cons.mpr ⟨gF_3_3, List.forall_mem_cons.mpr ⟨gF_3_4, List.forall_mem_cons.mpr ⟨gF_3_5, List.forall_mem_cons.mpr ⟨gF_3_6, List.forall_mem_cons.mpr ⟨gF_3_7, fun _ h => absurd h List.not_mem_nil⟩⟩⟩⟩⟩⟩⟩⟩
theorem gF_4_0 : PF 4 (9, (4, 0)) := ⟨Nat.le_of_ble_eq_true rfl, Nat.le_of_ble_eq_true rfl, (in2 120 rfl rfl)⟩
theorem gF_4_1 : PF 4 (15, (4, 1)) := ⟨Nat.le_of_ble_eq_true rfl, Nat.le_of_ble_eq_true rfl, (in2 122 rfl rfl)⟩
theorem gF_4_2 : PF 4 (18, (4, 2)) := ⟨Nat.le_of_ble_eq_true rfl, Nat.le_of_ble_eq_true rfl, (in2 124 rfl rfl)⟩
theorem gF_4_3 : PF 4 (22, (4, 3)) := ⟨Nat.le_of_ble_eq_true rfl, Nat.le_of_ble_eq_true rfl, (in2 126 rfl rfl)⟩
theorem gF_4_4 : PF 4 (25, (4, 4)) := ⟨Nat.le_of_ble_eq_true rfl, Nat.le_of_ble_eq_true rfl, (in2 127 rfl rfl)⟩
theorem gF_4_5 : PF 4 (34, (2, 0)) := ⟨Nat.le_of_ble_eq_true rfl, Nat.le_of_ble_eq_true rfl, (in1 102 rfl rfl)⟩
theorem gF_4_6 : PF 4 (40, (0, 5)) := ⟨Nat.le_of_ble_eq_true rfl, Nat.le_of_ble_eq_true rfl, (in1 79 rfl rfl)⟩
theorem gF_4_7 : PF 4 (79, (2, 1)) := ⟨Nat.le_of_ble_eq_true rfl, Nat.le_of_ble_eq_true rfl, (in1 113 rfl rfl)⟩
theorem gF_4 : ∀ e ∈ tbF_4, PF 4 e := List.forall_mem_cons.mpr ⟨gF_4_0, List.forall_mem_cons.mpr ⟨gF_4_1, List.forall_mem_cons.mpr ⟨gF_4_2, List.forall_mem_cons.mpr ⟨gF_4_3, List.forall_mem_cons.mpr ⟨gF_4_4, List.forall_mem_cons.mpr ⟨gF_4_5, List.forall_mem_cons.mpr ⟨gF_4_6, List.forall_mem_cons.mpr ⟨gF_4_7, fun _ h => absurd h List.not_mem_nil⟩⟩⟩⟩⟩⟩⟩⟩
theorem gF_5_0 : PF 5 (12, (5, 0)) := ⟨Nat.le_of_ble_eq_true rfl, Nat.le_of_ble_eq_true rfl, (in2 80 rfl rfl)⟩
theorem gF_5_1 : PF 5 (18, (5, 1)) := ⟨Nat.le_of_ble_eq_true rfl, Nat.le_of_ble_eq_true rfl, (in2 81 rfl rfl)⟩
theorem gF_5_2 : PF 5 (21, (5, 2)) := ⟨Nat.le_of_ble_eq_true rfl, Nat.le_of_ble_eq_true rfl, (in2 82 rfl rfl)⟩
theorem gF_5_3 : PF 5 (25, (5, 3)) := ⟨Nat.le_of_ble_eq_true rfl, Nat.le_of_ble_eq_true rfl, (in2 83 rfl rfl)⟩
theorem gF_5_4 : PF 5 (28, (5, 4)) := ⟨Nat.le_of_ble_eq_true rfl, Nat.le_of_ble_eq_true rfl, (in2 84 rfl rfl)⟩
theorem gF_5_5 : PF 5 (31, (5, 5)) := ⟨Nat.le_of_ble_eq_true rfl, Nat.le_of_ble_eq_true rfl, (in2 85 rfl rfl)⟩
theorem gF_5_6 : PF 5 (34, (5, 6)) := ⟨Nat.le_of_ble_eq_true rfl, Nat.le_of_ble_eq_true rfl, (in2 86 rfl rfl)⟩
theorem gF_5_7 : PF 5 (37, (5, 7)) := ⟨Nat.le_of_ble_eq_true rfl, Nat.le_of_ble_eq_true rfl, (in2 87 rfl rfl)⟩
theorem gF_5_8 : PF 5 (40, (5, 8)) := ⟨Nat.le_of_ble_eq_true rfl, Nat.le_of_ble_eq_true rfl, (in2 88 rfl rfl)⟩
theorem gF_5_9 : PF 5 (43, (5, 9)) := ⟨Nat.le_of_ble_eq_true rfl, Nat.le_of_ble_eq_true rfl, (in2 89 rfl rfl)⟩
theorem gF_5_10 : PF 5 (46, (5, 10)) := ⟨Nat.le_of_ble_eq_true rfl, Nat.le_of_ble_eq_true rfl, (in2 90 rfl rfl)⟩
theorem gF_5_11 : PF 5 (53, (2, 0)) := ⟨Nat.le_of_ble_eq_true rfl, Nat.le_of_ble_eq_true rfl, (in1 101 rfl rfl)⟩
theorem gF_5_12 : PF 5 (57, (0, 5)) := ⟨Nat.le_of_ble_eq_true rfl, Nat.le_of_ble_eq_true rfl, (in1 78 rfl rfl)⟩
theorem gF_5_13 : PF 5 (67, (2, 1)) := ⟨Nat.le_of_ble_eq_true rfl, Nat.le_of_ble_eq_true rfl, (in1 109 rfl rfl)⟩
theorem gF_5_14 : PF 5 (184, (0, 0)) := ⟨Nat.le_of_ble_eq_true rfl, Nat.le_of_ble_eq_true rfl, (in1 62 rfl rfl)⟩
theorem gF_5_15 : PF 5 (187, (0, 1)) := ⟨Nat.le_of_ble_eq_true rfl, Nat.le_of_ble_eq_true rfl, (in1 65 rfl rfl)⟩
theorem gF_5_16 : PF 5 (190, (0, 3)) := ⟨Nat.le_of_ble_eq_true rfl, Nat.le_of_ble_eq_true rfl, (in1 73 rfl rfl)⟩
theorem gF_5 : ∀ e ∈ tbF_5, PF 5 e := List.forall_mem_cons.mpr ⟨gF_5_0, List.forall_mem_cons.mpr ⟨gF_5_1, List.forall_mem_cons.mpr ⟨gF_5_2, List.forall_mem_cons.mpr ⟨gF_5_3, List.forall_mem_cons.mpr ⟨gF_5_4, List.forall_mem_cons.mpr ⟨gF_5_5, List.forall_mem_cons.mpr ⟨gF_5_6, List.forall_mem_cons.mpr ⟨gF_5_7, List.forall_mem_cons.mpr ⟨gF_5_8, List.forall_mem_cons.mpr ⟨gF_5_9, List.forall_mem_cons.mpr ⟨gF_5_10, List.forall_mem_cons.mpr ⟨gF_5_11, List.forall_mem_cons.mpr ⟨gF_5_12, List.forall_mem_cons.mpr ⟨gF_5_13, List.forall_mem_cons.mpr ⟨gF_5_14, List.forall_mem_cons.mpr ⟨gF_5_15, List.forall_mem_cons.mpr ⟨gF_5_16, fun _ h => absurd h List.not_mem_nil⟩⟩⟩⟩⟩⟩⟩⟩⟩⟩⟩⟩⟩⟩⟩⟩⟩
theorem gF_6_0 : PF 6 (12, (6, 0)) := ⟨Nat.le_of_ble_eq_true rfl, Nat.le_of_ble_eq_true rfl, (in1 225 rfl rfl)⟩
theorem gF_6_1 : PF 6 (21, (6, 1)) := ⟨Nat.le_of_ble_eq_true rfl, Nat.le_of_ble_eq_true rfl, (in1 227 rfl rfl)⟩
theorem gF_6_2 : PF 6 (28, (6, 2)) := ⟨Nat.le_of_ble_eq_true rfl, Nat.le_of_ble_eq_true rfl, (in1 229 rfl rfl)⟩
theorem gF_6_3 : PF 6 (32, (6, 3)) := ⟨Nat.le_of_ble_eq_true rfl, Nat.le_of_ble_eq_true rfl, (in1 231 rfl rfl)⟩
theorem gF_6_4 : PF 6 (36, (6, 4)) := ⟨Nat.le_of_ble_eq_true rfl, Nat.le_of_ble_eq_true rfl, (in1 233 rfl rfl)⟩
theorem gF_6_5 : PF 6 (39, (6, 5)) := ⟨Nat.le_of_ble_eq_true rfl, Nat.le_of_ble_eq_true rfl, (in1 235 rfl rfl)⟩
theorem gF_6_6 : PF 6 (43, (6, 6)) := ⟨Nat.le_of_ble_eq_true rfl, Nat.le_of_ble_eq_true rfl, (in1 236 rfl rfl)⟩
theorem gF_6_7 : PF 6 (47, (6, 7)) := ⟨Nat.le_of_ble_eq_true rfl, Nat.le_of_ble_eq_true rfl, (in1 237 rfl rfl)⟩
theorem gF_6_8 : PF 6 (50, (6, 8)) := ⟨Nat.le_of_ble_eq_true rfl, Nat.le_of_ble_eq_true rfl, (in1 238 rfl rfl)⟩
theorem gF_6_9 : PF 6 (53, (6, 9)) := ⟨Nat.le_of_ble_eq_true rfl, Nat.le_of_ble_eq_true rfl, (in1 239 rfl rfl)⟩
theorem gF_6_10 : PF 6 (56, (6, 10)) := ⟨Nat.le_of_ble_eq_true rfl, Nat.le_of_ble_eq_true rfl, (in2 0 rfl rfl)⟩
theorem gF_6_11 : PF 6 (59, (6, 11)) := ⟨Nat.le_of_ble_eq_true rfl, Nat.le_of_ble_eq_true rfl, (in2 1 rfl rfl)⟩
theorem gF_6_12 : PF 6 (62, (6, 12)) := ⟨Nat.le_of_ble_eq_true rfl, Nat.le_of_ble_eq_true rfl, (in2 2 rfl rfl)⟩
theorem gF_6_13 : PF 6 (65, (6, 13)) := ⟨Nat.le_of_ble_eq_true rfl, Nat.le_of_ble_eq_true rfl, (in2 3 rfl rfl)⟩
theorem gF_6_14 : PF 6 (82, (2, 0)) := ⟨Nat.le_of_ble_eq_true rfl, Nat.le_of_ble_eq_true rfl, (in1 103 rfl rfl)⟩
theorem gF_6_15 : PF 6 (86, (0, 5)) := ⟨Nat.le_of_ble_eq_true rfl, Nat.le_of_ble_eq_true rfl, (in1 80 rfl rfl)⟩
theorem gF_6_16 : PF 6 (91, (2, 1)) := ⟨Nat.le_of_ble_eq_true rfl, Nat.le_of_ble_eq_true rfl, (in1 110 rfl rfl)⟩
theorem gF_6_17 : PF 6 (116, (10, 3)) := ⟨Nat.le_of_ble_eq_true rfl, Nat.le_of_ble_eq_true rfl, (in1 151 rfl rfl)⟩
theorem gF_6_18 : PF 6 (117, (1, 3)) := ⟨Nat.le_of_ble_eq_true rfl, Nat.le_of_ble_eq_true rfl, (in1 172 rfl rfl)⟩
theorem gF_6_19 : PF 6 (167, (2, 5)) := ⟨Nat.le_of_ble_eq_true rfl, Nat.le_of_ble_eq_true rfl, (in1 124 rfl rfl)⟩
theorem gF_6 : ∀ e ∈ tbF_6, PF 6 e := List.forall_mem_cons.mpr ⟨gF_6_0, List.forall_mem_cons.mpr ⟨gF_6_1, List.forall_mem_cons.mpr ⟨gF_6_2, List.forall_mem_cons.mpr ⟨gF_6_3, List.forall_mem_cons.mpr ⟨gF_6_4, List.forall_mem_cons.mpr ⟨gF_6_5, List.forall_mem_cons.mpr ⟨gF_6_6, List.forall_mem_cons.mpr ⟨gF_6_7, List.forall_mem_cons.mpr ⟨gF_6_8, List.forall_mem_cons.mpr ⟨gF_6_9, List.forall_mem_cons.mpr ⟨gF_6_10, List.forall_mem_cons.mpr ⟨gF_6_11, List.forall_mem_cons.mpr ⟨gF_6_12, List.forall_mem_cons.mpr ⟨gF_6_13, List.forall_mem_cons.mpr ⟨gF_6_14, List.forall_mem_cons.mpr ⟨gF_6_15, List.forall_mem_cons.mpr ⟨gF_6_16, List.forall_mem_cons.mpr ⟨gF_6_17, List.forall_mem_cons.mpr ⟨gF_6_18, List.forall_mem_cons.mpr ⟨gF_6_19, fun _ h => absurd h List.not_mem_nil⟩⟩⟩⟩⟩⟩⟩⟩⟩⟩⟩⟩⟩⟩⟩⟩⟩⟩⟩⟩
theorem gF_7_0 : PF 7 (12, (7, 0)) := ⟨Nat.le_of_ble_eq_true rfl, Nat.le_of_ble_eq_true rfl, (in2 41 rfl rfl)⟩
theorem gF_7_1 : PF 7 (18, (7, 1)) := ⟨Nat.le_of_ble_eq_true rfl, Nat.le_of_ble_eq_true rfl, (in2 42 rfl rfl)⟩
theorem gF_7_2 : PF 7 (22, (7, 2)) := ⟨Nat.le_of_ble_eq_true rfl, Nat.le_of_ble_eq_true rfl, (in2 43 rfl rfl)⟩
theorem gF_7_3 : PF 7 (25, (7, 3)) := ⟨Nat.le_of_ble_eq_true rfl, Nat.le_of_ble_eq_true rfl, (in2 44 rfl rfl)⟩
theorem gF_7_4 : PF 7 (28, (7, 4)) := ⟨Nat.le_of_ble_eq_true rfl, Nat.le_of_ble_eq_true rfl, (in2 45 rfl rfl)⟩
theorem gF_7_5 : PF 7 (31, (7, 5)) := ⟨Nat.le_of_ble_eq_true rfl, Nat.le_of_ble_eq_true rfl, (in2 46 rfl rfl)⟩
theorem gF_7_6 : PF 7 (34, (7, 6)) := ⟨Nat.le_of_ble_eq_true rfl, Nat.le_of_ble_eq_true rfl, (in2 47 rfl rfl)⟩
theorem gF_7_7 : PF 7 (37, (7, 7)) := ⟨Nat.le_of_ble_eq_true rfl, Nat.le_of_ble_eq_true rfl, (in2 48 rfl rfl)⟩
theorem gF_7_8 : PF 7 (40, (7, 8)) := ⟨Nat.le_of_ble_eq_true rfl, Nat.le_of_ble_eq_true rfl, (in2 49 rfl rfl)⟩
theorem gF_7_9 : PF 7 (43, (7, 9)) := ⟨Nat.le_of_ble_eq_true rfl, Nat.le_of_ble_eq_true rfl, (in2 50 rfl rfl)⟩
theorem gF_7_10 : PF 7 (56, (10, 3)) := ⟨Nat.le_of_ble_eq_true rfl, Nat.le_of_ble_eq_true rfl, (in1 152 rfl rfl)⟩
theorem gF_7_11 : PF 7 (61, (10, 0)) := ⟨Nat.le_of_ble_eq_true rfl, Nat.le_of_ble_eq_true rfl, (in1 145 rfl rfl)⟩
theorem gF_7_12 : PF 7 (65, (10, 1)) := ⟨Nat.le_of_ble_eq_true rfl, Nat.le_of_ble_eq_true rfl, (in1 147 rfl rfl)⟩
theorem gF_7_13 : PF 7 (68, (10, 2)) := ⟨Nat.le_of_ble_eq_true rfl, Nat.le_of_ble_eq_true rfl, (in1 149 rfl rfl)⟩
theorem gF_7_14 : PF 7 (75, (2, 0)) := ⟨Nat.le_of_ble_eq_true rfl, Nat.le_of_ble_eq_true rfl, (in1 105 rfl rfl)⟩
theorem gF_7_15 : PF 7 (79, (0, 5)) := ⟨Nat.le_of_ble_eq_true rfl, Nat.le_of_ble_eq_true rfl, (in1 82 rfl rfl)⟩
theorem gF_7_16 : PF 7 (90, (2, 1)) := ⟨Nat.le_of_ble_eq_true rfl, Nat.le_of_ble_eq_true rfl, (in1 112 rfl rfl)⟩
theorem gF_7_17 : PF 7 (104, (2, 5)) := ⟨Nat.le_of_ble_eq_true rfl, Nat.le_of_ble_eq_true rfl, (in1 125 rfl rfl)⟩
theorem gF_7_18 : PF 7 (124, (0, 4)) := ⟨Nat.le_of_ble_eq_true rfl, Nat.le_of_ble_eq_true rfl, (in1 76 rfl rfl)⟩
theorem gF_7_19 : PF 7 (147, (2, 2)) := ⟨Nat.le_of_ble_eq_true rfl, Nat.le_of_ble_eq_true rfl, (in1 116 rfl rfl)⟩
theorem gF_7_20 : PF 7 (150, (0, 2)) := ⟨Nat.le_of_ble_eq_true rfl, Nat.le_of_ble_eq_true rfl, (in1 69 rfl rfl)⟩
theorem gF_7_21 : PF 7 (159, (2, 3)) := ⟨Nat.le_of_ble_eq_true rfl, Nat.le_of_ble_eq_true rfl, (in1 119 rfl rfl)⟩
theorem gF_7_22 : PF 7 (162, (0, 0)) := ⟨Nat.le_of_ble_eq_true rfl, Nat.le_of_ble_eq_true rfl, (in1 60 rfl rfl)⟩
theorem gF_7 : ∀ e ∈ tbF_7, PF 7 e := List.forall_mem_cons.mpr ⟨gF_7_0, List.forall_mem_cons.mpr ⟨gF_7_1, List.forall_mem_cons.mpr ⟨gF_7_2, List.forall_mem_cons.mpr ⟨gF_7_3, List.forall_mem_cons.mpr ⟨gF_7_4, List.forall_mem_cons.mpr ⟨gF_7_5, List.forall_mem_cons.mpr ⟨gF_7_6, List.forall_mem_cons.mpr ⟨gF_7_7, List.forall_mem_cons.mpr ⟨gF_7_8, List.forall_mem_cons.mpr ⟨gF_7_9, List.forall_mem_cons.mpr ⟨gF_7_10, List.forall_mem_cons.mpr ⟨gF_7_11, List.forall_mem_cons.mpr ⟨gF_7_12, List.forall_mem_cons.mpr ⟨gF_7_13, List.forall_mem_cons.mpr ⟨gF_7_14, List.forall_mem_cons.mpr ⟨gF_7_15, List.forall_mem_cons.mpr ⟨gF_7_16, List.forall_mem_cons.mpr ⟨gF_7_17, List.forall_mem_cons.mpr ⟨gF_7_18, List.forall_mem_cons.mpr ⟨gF_7_19, List.forall_mem_cons.mpr ⟨gF_7_20, List.forall_mem_cons.mpr ⟨gF_7_21, List.forall_mem_cons.mpr ⟨gF_7_22, fun _ h => absurd h List.not_mem_nil⟩⟩⟩⟩⟩⟩⟩⟩⟩⟩⟩⟩⟩⟩⟩⟩⟩⟩⟩⟩⟩⟩⟩
theorem gF_8_0 : PF 8 (9, (8, 0)) := ⟨Nat.le_of_ble_eq_true rfl, Nat.le_of_ble_eq_true rfl, (in1 182 rfl rfl)⟩
theorem gF_8_1 : PF 8 (17, (8, 1)) := ⟨Nat.le_of_ble_eq_true rfl, Nat.le_of_ble_eq_true rfl, (in1 184 rfl rfl)⟩
theorem gF_8_2 : PF 8 (23, (8, 2)) := ⟨Nat.le_of_ble_eq_true rfl, Nat.le_of_ble_eq_true rfl, (in1 185 rfl rfl)⟩
theorem gF_8_3 : PF 8 (29, (8, 3)) := ⟨Nat.le_of_ble_eq_true rfl, Nat.le_of_ble_eq_true rfl, (in1 186 rfl rfl)⟩
theorem gF_8_4 : PF 8 (33, (8, 4)) := ⟨Nat.le_of_ble_eq_true rfl, Nat.le_of_ble_eq_true rfl, (in1 187 rfl rfl)⟩
theorem gF_8_5 : PF 8 (37, (8, 5)) := ⟨Nat.le_of_ble_eq_true rfl, Nat.le_of_ble_eq_true rfl, (in1 189 rfl rfl)⟩
theorem gF_8_6 : PF 8 (41, (8, 6)) := ⟨Nat.le_of_ble_eq_true rfl, Nat.le_of_ble_eq_true rfl, (in1 191 rfl rfl)⟩
theorem gF_8_7 : PF 8 (44, (8, 7)) := ⟨Nat.le_of_ble_eq_true rfl, Nat.le_of_ble_eq_true rfl, (in1 193 rfl rfl)⟩
theorem gF_8_8 : PF 8 (50, (6, 0)) := ⟨Nat.le_of_ble_eq_true rfl, Nat.le_of_ble_eq_true rfl, (in1 226 rfl rfl)⟩
theorem gF_8_9 : PF 8 (60, (6, 1)) := ⟨Nat.le_of_ble_eq_true rfl, Nat.le_of_ble_eq_true rfl, (in1 228 rfl rfl)⟩
theorem gF_8_10 : PF 8 (67, (6, 2)) := ⟨Nat.le_of_ble_eq_true rfl, Nat.le_of_ble_eq_true rfl, (in1 230 rfl rfl)⟩
theorem gF_8 : ∀ e ∈ tbF_8, PF 8 e := List.forall_mem_cons.mpr ⟨gF_8_0, List.forall_mem_cons.mpr ⟨gF_8_1, List.forall_mem_cons.mpr ⟨gF_8_2, List.forall_mem_cons.mpr ⟨gF_8_3, List.forall_mem_cons.mpr ⟨gF_8_4, List.forall_mem_cons.mpr ⟨gF_8_5, List.forall_mem_cons.mpr ⟨gF_8_6, List.forall_mem_cons.mpr ⟨gF_8_7, List.forall_mem_cons.mpr ⟨gF_8_8, List.forall_mem_cons.mpr ⟨gF_8_9, List.forall_mem_cons.mpr ⟨gF_8_10, fun _ h => absurd h List.not_mem_nil⟩⟩⟩⟩⟩⟩⟩⟩⟩⟩⟩
theorem gF_9_0 : PF 9 (9, (9, 0)) := ⟨Nat.le_of_ble_eq_true rfl, Nat.le_of_ble_eq_true rfl, (in2 145 rfl rfl)⟩
theorem gF_9_1 : PF 9 (15, (9, 1)) := ⟨Nat.le_of_ble_eq_true rfl, Nat.le_of_ble_eq_true rfl, (in2 147 rfl rfl)⟩
theorem gF_9_2 : PF 9 (19, (9, 2)) := ⟨Nat.le_of_ble_eq_true rfl, Nat.le_of_ble_eq_true rfl, (in2 149 rfl rfl)⟩
theorem gF_9_3 : PF 9 (22, (9, 3)) := ⟨Nat.le_of_ble_eq_true rfl, Nat.le_of_ble_eq_true rfl, (in2 150 rfl rfl)⟩
theorem gF_9_4 : PF 9 (25, (9, 4)) := ⟨Nat.le_of_ble_eq_true rfl, Nat.le_of_ble_eq_true rfl, (in2 151 rfl rfl)⟩
theorem gF_9_5 : PF 9 (29, (9, 5)) := ⟨Nat.le_of_ble_eq_true rfl, Nat.le_of_ble_eq_true rfl, (in2 152 rfl rfl)⟩
theorem gF_9_6 : PF 9 (32, (9, 6)) := ⟨Nat.le_of_ble_eq_true rfl, Nat.le_of_ble_eq_true rfl, (in2 153 rfl rfl)⟩
theorem gF_9_7 : PF 9 (56, (2, 5)) := ⟨Nat.le_of_ble_eq_true rfl, Nat.le_of_ble_eq_true rfl, (in1 123 rfl rfl)⟩
theorem gF_9_8 : PF 9 (61, (2, 4)) := ⟨Nat.le_of_ble_eq_true rfl, Nat.le_of_ble_eq_true rfl, (in1 121 rfl rfl)⟩
theorem gF_9_9 : PF 9 (75, (2, 3)) := ⟨Nat.le_of_ble_eq_true rfl, Nat.le_of_ble_eq_true rfl, (in1 118 rfl rfl)⟩
theorem gF_9_10 : PF 9 (82, (2, 0)) := ⟨Nat.le_of_ble_eq_true rfl, Nat.le_of_ble_eq_true rfl, (in1 106 rfl rfl)⟩
theorem gF_9_11 : PF 9 (86, (0, 5)) := ⟨Nat.le_of_ble_eq_true rfl, Nat.le_of_ble_eq_true rfl, (in1 83 rfl rfl)⟩
theorem gF_9 : ∀ e ∈ tbF_9, PF 9 e := List.forall_mem_cons.mpr ⟨gF_9_0, List.forall_mem_cons.mpr ⟨gF_9_1, List.forall_mem_cons.mpr ⟨gF_9_2, List.forall_mem_cons.mpr ⟨gF_9_3, List.forall_mem_cons.mpr ⟨gF_9_4, List.forall_mem_cons.mpr ⟨gF_9_5, List.forall_mem_cons.mpr ⟨gF_9_6, List.forall_mem_cons.mpr ⟨gF_9_7, List.forall_mem_cons.mpr ⟨gF_9_8, List.forall_mem_cons.mpr ⟨gF_9_9, List.forall_mem_cons.mpr ⟨gF_9_10, List.forall_mem_cons.mpr ⟨gF_9_11, fun _ h => absurd h List.not_mem_nil⟩⟩⟩⟩⟩⟩⟩⟩⟩⟩⟩⟩
theorem gF_10_0 : PF 10 (9, (10, 0)) := ⟨Nat.le_of_ble_eq_true rfl, Nat.le_of_ble_eq_true rfl, (in1 144 rfl rfl)⟩
theorem gF_10_1 : PF 10 (15, (10, 1)) := ⟨Nat.le_of_ble_eq_true rfl, Nat.le_of_ble_eq_true rfl, (in1 146 rfl rfl)⟩
theorem gF_10_2 : PF 10 (18, (10, 2)) := ⟨Nat.le_of_ble_eq_true rfl, Nat.le_of_ble_eq_true rfl, (in1 148 rfl rfl)⟩
theorem gF_10_3 : PF 10 (21, (10, 3)) := ⟨Nat.le_of_ble_eq_true rfl, Nat.le_of_ble_eq_true rfl, (in1 150 rfl rfl)⟩
theorem gF_10 : ∀ e ∈ tbF_10, PF 10 e := List.forall_mem_cons.mpr ⟨gF_10_0, List.forall_mem_cons.mpr ⟨gF_10_1, List.forall_mem_cons.mpr ⟨gF_10_2, List.forall_mem_cons.mpr ⟨gF_10_3, fun _ h => absurd h List.not_mem_nil⟩⟩⟩⟩
theorem gF_11_0 : PF 11 (10, (11, 0)) := ⟨Nat.le_of_ble_eq_true rfl, Nat.le_of_ble_eq_true rfl, (in2 204 rfl rfl)⟩
theorem gF_11_1 : PF 11 (16, (11, 1)) := ⟨Nat.le_of_ble_eq_true rfl, Nat.le_of_ble_eq_true rfl, (in2 205 rfl rfl)⟩
theorem gF_11_2 : PF 11 (23, (11, 2)) := ⟨Nat.le_of_ble_eq_true rfl, Nat.le_of_ble_eq_true rfl, (in2 206 rfl rfl)⟩
theorem gF_11_3 : PF 11 (30, (11, 3)) := ⟨Nat.le_of_ble_eq_true rfl, Nat.le_of_ble_eq_true rfl, (in2 207 rfl rfl)⟩
theorem gF_11_4 : PF 11 (37, (11, 4)) := ⟨Nat.le_of_ble_eq_true rfl, Nat.le_of_ble_eq_true rfl, (in2 208 rfl rfl)⟩
theorem gF_11_5 : PF 11 (44, (11, 5)) := ⟨Nat.le_of_ble_eq_true rfl, Nat.le_of_ble_eq_true rfl, (in2 209 rfl rfl)⟩
theorem gF_11_6 : PF 11 (51, (11, 6)) := ⟨Nat.le_of_ble_eq_true rfl, Nat.le_of_ble_eq_true rfl, (in2 210 rfl rfl)⟩
theorem gF_11_7 : PF 11 (58, (11, 7)) := ⟨Nat.le_of_ble_eq_true rfl, Nat.le_of_ble_eq_true rfl, (in2 211 rfl rfl)⟩
theorem gF_11_8 : PF 11 (62, (8, 5)) := ⟨Nat.le_of_ble_eq_true rfl, Nat.le_of_ble_eq_true rfl, (in1 190 rfl rfl)⟩
theorem gF_11_9 : PF 11 (70, (8, 6)) := ⟨Nat.le_of_ble_eq_true rfl, Nat.le_of_ble_eq_true rfl, (in1 192 rfl rfl)⟩
theorem gF_11_10 : PF 11 (73, (8, 7)) := ⟨Nat.le_of_ble_eq_true rfl, Nat.le_of_ble_eq_true rfl, (in1 194 rfl rfl)⟩
theorem gF_11_11 : PF 11 (80, (8, 0)) := ⟨Nat.le_of_ble_eq_true rfl, Nat.le_of_ble_eq_true rfl, (in1 183 rfl rfl)⟩
theorem gF_11_12 : PF 11 (88, (6, 3)) := ⟨Nat.le_of_ble_eq_true rfl, Nat.le_of_ble_eq_true rfl, (in1 232 rfl rfl)⟩
theorem gF_11_13 : PF 11 (89, (6, 4)) := ⟨Nat.le_of_ble_eq_true rfl, Nat.le_of_ble_eq_true rfl, (in1 234 rfl rfl)⟩
theorem gF_11_14 : PF 11 (119, (10, 3)) := ⟨Nat.le_of_ble_eq_true rfl, Nat.le_of_ble_eq_true rfl, (in1 153 rfl rfl)⟩
theorem gF_11_15 : PF 11 (135, (2, 0)) := ⟨Nat.le_of_ble_eq_true rfl, Nat.le_of_ble_eq_true rfl, (in1 107 rfl rfl)⟩
theorem gF_11_16 : PF 11 (164, (4, 0)) := ⟨Nat.le_of_ble_eq_true rfl, Nat.le_of_ble_eq_true rfl, (in2 121 rfl rfl)⟩
theorem gF_11_17 : PF 11 (174, (9, 1)) := ⟨Nat.le_of_ble_eq_true rfl, Nat.le_of_ble_eq_true rfl, (in2 148 rfl rfl)⟩
theorem gF_11_18 : PF 11 (177, (9, 0)) := ⟨Nat.le_of_ble_eq_true rfl, Nat.le_of_ble_eq_true rfl, (in2 146 rfl rfl)⟩
theorem gF_11_19 : PF 11 (195, (3, 3)) := ⟨Nat.le_of_ble_eq_true rfl, Nat.le_of_ble_eq_true rfl, (in2 182 rfl rfl)⟩
theorem gF_11_20 : PF 11 (199, (3, 1)) := ⟨Nat.le_of_ble_eq_true rfl, Nat.le_of_ble_eq_true rfl, (in2 178 rfl rfl)⟩
theorem gF_11_21 : PF 11 (203, (3, 2)) := ⟨Nat.le_of_ble_eq_true rfl, Nat.le_of_ble_eq_true rfl, (in2 180 rfl rfl)⟩
theorem gF_11_22 : PF 11 (272, (4, 2)) := ⟨Nat.le_of_ble_eq_true rfl, Nat.le_of_ble_eq_true rfl, (in2 125 rfl rfl)⟩
theorem gF_11_23 : PF 11 (281, (2, 1)) := ⟨Nat.le_of_ble_eq_true rfl, Nat.le_of_ble_eq_true rfl, (in1 114 rfl rfl)⟩
theorem gF_11_24 : PF 11 (287, (0, 0)) := ⟨Nat.le_of_ble_eq_true rfl, Nat.le_of_ble_eq_true rfl, (in1 61 rfl rfl)⟩
theorem gF_11_25 : PF 11 (312, (4, 1)) := ⟨Nat.le_of_ble_eq_true rfl, Nat.le_of_ble_eq_true rfl, (in2 123 rfl rfl)⟩
theorem gF_11_26 : PF 11 (319, (8, 4)) := ⟨Nat.le_of_ble_eq_true rfl, Nat.le_of_ble_eq_true rfl, (in1 188 rfl rfl)⟩
theorem gF_11 : ∀ e ∈ tbF_11, PF 11 e := List.forall_mem_cons.mpr ⟨gF_11_0, List.forall_mem_cons.mpr ⟨gF_11_1, List.forall_mem_cons.mpr ⟨gF_11_2, List.forall_mem_cons.mpr ⟨gF_11_3, List.forall_mem_cons.mpr ⟨gF_11_4, List.forall_mem_cons.mpr ⟨gF_11_5, List.forall_mem_cons.mpr ⟨gF_11_6, List.forall_mem_cons.mpr ⟨gF_11_7, List.forall_mem_cons.mpr ⟨gF_11_8, List.forall_mem_cons.mpr ⟨gF_11_9, List.forall_mem_cons.mpr ⟨gF_11_10, List.forall_mem_cons.mpr ⟨gF_11_11, List.forall_mem_cons.mpr ⟨gF_11_12, List.forall_mem_cons.mpr ⟨gF_11_13, List.forall_mem_cons.mpr ⟨gF_11_14, List.forall_mem_cons.mpr ⟨gF_11_15, List.forall_mem_cons.mpr ⟨gF_11_16, List.forall_mem_cons.mpr ⟨gF_11_17, List.forall_mem_cons.mpr ⟨gF_11_18, List.forall_mem_cons.mpr ⟨gF_11_19, List.forall_mem_cons.mpr ⟨gF_11_20, List.forall_mem_cons.mpr ⟨gF_11_21, List.forall_mem_cons.mpr ⟨gF_11_22, List.forall_mem_cons.mpr ⟨gF_11_23, List.forall_mem_cons.mpr ⟨gF_11_24, List.forall_mem_cons.mpr ⟨gF_11_25, List.forall_mem_cons.mpr ⟨gF_11_26, fun _ h => absurd h List.not_mem_nil⟩⟩⟩⟩⟩⟩⟩⟩⟩⟩⟩⟩⟩⟩⟩⟩⟩⟩⟩⟩⟩⟩⟩⟩⟩⟩⟩
theorem gF_12_0 : PF 12 (7, (12, 1)) := ⟨Nat.le_of_ble_eq_true rfl, Nat.le_of_ble_eq_true rfl, (in6 180 rfl rfl)⟩
theorem gF_12_1 : PF 12 (13, (12, 2)) := ⟨Nat.le_of_ble_eq_true rfl, Nat.le_of_ble_eq_true rfl, (in6 181 rfl rfl)⟩
theorem gF_12_2 : PF 12 (17, (12, 3)) := ⟨Nat.le_of_ble_eq_true rfl, Nat.le_of_ble_eq_true rfl, (in6 182 rfl rfl)⟩
theorem gF_12_3 : PF 12 (20, (12, 4)) := ⟨Nat.le_of_ble_eq_true rfl, Nat.le_of_ble_eq_true rfl, (in6 183 rfl rfl)⟩
theorem gF_12_4 : PF 12 (23, (12, 5)) := ⟨Nat.le_of_ble_eq_true rfl, Nat.le_of_ble_eq_true rfl, (in6 184 rfl rfl)⟩
theorem gF_12_5 : PF 12 (26, (12, 6)) := ⟨Nat.le_of_ble_eq_true rfl, Nat.le_of_ble_eq_true rfl, (in6 185 rfl rfl)⟩
theorem gF_12_6 : PF 12 (29, (12, 7)) := ⟨Nat.le_of_ble_eq_true rfl, Nat.le_of_ble_eq_true rfl, (in6 186 rfl rfl)⟩
theorem gF_12_7 : PF 12 (32, (12, 8)) := ⟨Nat.le_of_ble_eq_true rfl, Nat.le_of_ble_eq_true rfl, (in6 187 rfl rfl)⟩
theorem gF_12_8 : PF 12 (35, (12, 18)) := ⟨Nat.le_of_ble_eq_true rfl, Nat.le_of_ble_eq_true rfl, (in6 197 rfl rfl)⟩
theorem gF_12_9 : PF 12 (38, (12, 19)) := ⟨Nat.le_of_ble_eq_true rfl, Nat.le_of_ble_eq_true rfl, (in6 198 rfl rfl)⟩
theorem gF_12_10 : PF 12 (41, (12, 27)) := ⟨Nat.le_of_ble_eq_true rfl, Nat.le_of_ble_eq_true rfl, (in6 206 rfl rfl)⟩
theorem gF_12_11 : PF 12 (44, (12, 28)) := ⟨Nat.le_of_ble_eq_true rfl, Nat.le_of_ble_eq_true rfl, (in6 207 rfl rfl)⟩
theorem gF_12_12 : PF 12 (47, (12, 29)) := ⟨Nat.le_of_ble_eq_true rfl, Nat.le_of_ble_eq_true rfl, (in6 208 rfl rfl)⟩
theorem gF_12_13 : PF 12 (50, (12, 30)) := ⟨Nat.le_of_ble_eq_true rfl, Nat.le_of_ble_eq_true rfl, (in6 209 rfl rfl)⟩
theorem gF_12_14 : PF 12 (53, (12, 31)) := ⟨Nat.le_of_ble_eq_true rfl, Nat.le_of_ble_eq_true rfl, (in6 210 rfl rfl)⟩
theorem gF_12_15 : PF 12 (56, (12, 39)) := ⟨Nat.le_of_ble_eq_true rfl, Nat.le_of_ble_eq_true rfl, (in6 218 rfl rfl)⟩
theorem gF_12_16 : PF 12 (59, (12, 40)) := ⟨Nat.le_of_ble_eq_true rfl, Nat.le_of_ble_eq_true rfl, (in6 219 rfl rfl)⟩
theorem gF_12_17 : PF 12 (62, (12, 41)) := ⟨Nat.le_of_ble_eq_true rfl, Nat.le_of_ble_eq_true rfl, (in6 220 rfl rfl)⟩
theorem gF_12_18 : PF 12 (65, (12, 42)) := ⟨Nat.le_of_ble_eq_true rfl, Nat.le_of_ble_eq_true rfl, (in6 221 rfl rfl)⟩
theorem gF_12_19 : PF 12 (68, (12, 43)) := ⟨Nat.le_of_ble_eq_true rfl, Nat.le_of_ble_eq_true rfl, (in6 222 rfl rfl)⟩
theorem gF_12_20 : PF 12 (71, (12, 44)) := ⟨Nat.le_of_ble_eq_true rfl, Nat.le_of_ble_eq_true rfl, (in6 223 rfl rfl)⟩
theorem gF_12_21 : PF 12 (75, (12, 47)) := ⟨Nat.le_of_ble_eq_true rfl, Nat.le_of_ble_eq_true rfl, (in6 226 rfl rfl)⟩
theorem gF_12_22 : PF 12 (78, (12, 50)) := ⟨Nat.le_of_ble_eq_true rfl, Nat.le_of_ble_eq_true rfl, (in6 229 rfl rfl)⟩
theorem gF_12_23 : PF 12 (81, (12, 51)) := ⟨Nat.le_of_ble_eq_true rfl, Nat.le_of_ble_eq_true rfl, (in6 230 rfl rfl)⟩
theorem gF_12_24 : PF 12 (84, (12, 52)) := ⟨Nat.le_of_ble_eq_true rfl, Nat.le_of_ble_eq_true rfl, (in6 231 rfl rfl)⟩
theorem gF_12_25 : PF 12 (87, (12, 53)) := ⟨Nat.le_of_ble_eq_true rfl, Nat.le_of_ble_eq_true rfl, (in6 232 rfl rfl)⟩
theorem gF_12_26 : PF 12 (91, (12, 55)) := ⟨Nat.le_of_ble_eq_true rfl, Nat.le_of_ble_eq_true rfl, (in6 234 rfl rfl)⟩
theorem gF_12_27 : PF 12 (94, (12, 58)) := ⟨Nat.le_of_ble_eq_true rfl, Nat.le_of_ble_eq_true rfl, (in6 237 rfl rfl)⟩
theorem gF_12_28 : PF 12 (97, (12, 59)) := ⟨Nat.le_of_ble_eq_true rfl, Nat.le_of_ble_eq_true rfl, (in6 238 rfl rfl)⟩
theorem gF_12_29 : PF 12 (100, (12, 60)) := ⟨Nat.le_of_ble_eq_true rfl, Nat.le_of_ble_eq_true rfl, (in6 239 rfl rfl)⟩
theorem gF_12_30 : PF 12 (103, (12, 0)) := ⟨Nat.le_of_ble_eq_true rfl, Nat.le_of_ble_eq_true rfl, (in6 179 rfl rfl)⟩
theorem gF_12_31 : PF 12 (123, (12, 9)) := ⟨Nat.le_of_ble_eq_true rfl, Nat.le_of_ble_eq_true rfl, (in6 188 rfl rfl)⟩
theorem gF_12_32 : PF 12 (126, (12, 10)) := ⟨Nat.le_of_ble_eq_true rfl, Nat.le_of_ble_eq_true rfl, (in6 189 rfl rfl)⟩
theorem gF_12_33 : PF 12 (133, (12, 11)) := ⟨Nat.le_of_ble_eq_true rfl, Nat.le_of_ble_eq_true rfl, (in6 190 rfl rfl)⟩
theorem gF_12_34 : PF 12 (136, (12, 14)) := ⟨Nat.le_of_ble_eq_true rfl, Nat.le_of_ble_eq_true rfl, (in6 193 rfl rfl)⟩
theorem gF_12_35 : PF 12 (140, (12, 12)) := ⟨Nat.le_of_ble_eq_true rfl, Nat.le_of_ble_eq_true rfl, (in6 191 rfl rfl)⟩
theorem gF_12_36 : PF 12 (143, (12, 13)) := ⟨Nat.le_of_ble_eq_true rfl, Nat.le_of_ble_eq_true rfl, (in6 192 rfl rfl)⟩
theorem gF_12_37 : PF 12 (146, (12, 15)) := ⟨Nat.le_of_ble_eq_true rfl, Nat.le_of_ble_eq_true rfl, (in6 194 rfl rfl)⟩
theorem gF_12_38 : PF 12 (149, (12, 16)) := ⟨Nat.le_of_ble_eq_true rfl, Nat.le_of_ble_eq_true rfl, (in6 195 rfl rfl)⟩
theorem gF_12_39 : PF 12 (152, (12, 17)) := ⟨Nat.le_of_ble_eq_true rfl, Nat.le_of_ble_eq_true rfl, (in6 196 rfl rfl)⟩
theorem gF_12_40 : PF 12 (163, (12, 22)) := ⟨Nat.le_of_ble_eq_true rfl, Nat.le_of_ble_eq_true rfl, (in6 201 rfl rfl)⟩
theorem gF_12_41 : PF 12 (173, (12, 20)) := ⟨Nat.le_of_ble_eq_true rfl, Nat.le_of_ble_eq_true rfl, (in6 199 rfl rfl)⟩
theorem gF_12_42 : PF 12 (180, (12, 21)) := ⟨Nat.le_of_ble_eq_true rfl, Nat.le_of_ble_eq_true rfl, (in6 200 rfl rfl)⟩
theorem gF_12_43 : PF 12 (264, (12, 23)) := ⟨Nat.le_of_ble_eq_true rfl, Nat.le_of_ble_eq_true rfl, (in6 202 rfl rfl)⟩
theorem gF_12_44 : PF 12 (271, (12, 24)) := ⟨Nat.le_of_ble_eq_true rfl, Nat.le_of_ble_eq_true rfl, (in6 203 rfl rfl)⟩
theorem gF_12_45 : PF 12 (274, (12, 25)) := ⟨Nat.le_of_ble_eq_true rfl, Nat.le_of_ble_eq_true rfl, (in6 204 rfl rfl)⟩
theorem gF_12_46 : PF 12 (277, (12, 26)) := ⟨Nat.le_of_ble_eq_true rfl, Nat.le_of_ble_eq_true rfl, (in6 205 rfl rfl)⟩
theorem gF_12_47 : PF 12 (301, (12, 32)) := ⟨Nat.le_of_ble_eq_true rfl, Nat.le_of_ble_eq_true rfl, (in6 211 rfl rfl)⟩
theorem gF_12_48 : PF 12 (313, (12, 33)) := ⟨Nat.le_of_ble_eq_true rfl, Nat.le_of_ble_eq_true rfl, (in6 212 rfl rfl)⟩
theorem gF_12_49 : PF 12 (316, (12, 34)) := ⟨Nat.le_of_ble_eq_true rfl, Nat.le_of_ble_eq_true rfl, (in6 213 rfl rfl)⟩
theorem gF_12_50 : PF 12 (319, (12, 35)) := ⟨Nat.le_of_ble_eq_true rfl, Nat.le_of_ble_eq_true rfl, (in6 214 rfl rfl)⟩
theorem gF_12_51 : PF 12 (322, (12, 36)) := ⟨Nat.le_of_ble_eq_true rfl, Nat.le_of_ble_eq_true rfl, (in6 215 rfl rfl)⟩
theorem gF_12_52 : PF 12 (325, (12, 37)) := ⟨Nat.le_of_ble_eq_true rfl, Nat.le_of_ble_eq_true rfl, (in6 216 rfl rfl)⟩
theorem gF_12_53 : PF 12 (328, (12, 38)) := ⟨Nat.le_of_ble_eq_true rfl, Nat.le_of_ble_eq_true rfl, (in6 217 rfl rfl)⟩
theorem gF_12_54 : PF 12 (419, (12, 45)) := ⟨Nat.le_of_ble_eq_true rfl, Nat.le_of_ble_eq_true rfl, (in6 224 rfl rfl)⟩
theorem gF_12_55 : PF 12 (422, (12, 46)) := ⟨Nat.le_of_ble_eq_true rfl, Nat.le_of_ble_eq_true rfl, (in6 225 rfl rfl)⟩
theorem gF_12_56 : PF 12 (445, (12, 48)) := ⟨Nat.le_of_ble_eq_true rfl, Nat.le_of_ble_eq_true rfl, (in6 227 rfl rfl)⟩
theorem gF_12_57 : PF 12 (451, (12, 49)) := ⟨Nat.le_of_ble_eq_true rfl, Nat.le_of_ble_eq_true rfl, (in6 228 rfl rfl)⟩
theorem gF_12_58 : PF 12 (502, (12, 54)) := ⟨Nat.le_of_ble_eq_true rfl, Nat.le_of_ble_eq_true rfl, (in6 233 rfl rfl)⟩
theorem gF_12_59 : PF 12 (514, (12, 56)) := ⟨Nat.le_of_ble_eq_true rfl, Nat.le_of_ble_eq_true rfl, (in6 235 rfl rfl)⟩
theorem gF_12_60 : PF 12 (534, (12, 57)) := ⟨Nat.le_of_ble_eq_true rfl, Nat.le_of_ble_eq_true rfl, (in6 236 rfl rfl)⟩
theorem gF_12 : ∀ e ∈ tbF_12, PF 12 e := List.forall_mem_cons.mpr ⟨gF_12_0, List.forall_mem_cons.mpr ⟨gF_12_1, List.forall_mem_cons.mpr ⟨gF_12_2, List.forall_mem_cons.mpr ⟨gF_12_3, List.forall_mem_cons.mpr ⟨gF_12_4, List.forall_mem_cons.mpr ⟨gF_12_5, List.forall_mem_cons.mpr ⟨gF_12_6, List.forall_mem_cons.mpr ⟨gF_12_7, List.forall_mem_cons.mpr ⟨gF_12_8, List.forall_mem_cons.mpr ⟨gF_12_9, List.forall_mem_cons.mpr ⟨gF_12_10, List.forall_mem_cons.mpr ⟨gF_12_11, List.forall_mem_cons.mpr ⟨gF_12_12, List.forall_mem_cons.mpr ⟨gF_12_13, List.forall_mem_cons.mpr ⟨gF_12_14, List.forall_mem_cons.mpr ⟨gF_12_15, List.forall_mem_cons.mpr ⟨gF_12_16, List.forall_mem_cons.mpr ⟨gF_12_17, List.forall_mem_cons.mpr ⟨gF_12_18, List.forall_mem_cons.mpr ⟨gF_12_19, List.forall_mem_cons.mpr ⟨gF_12_20, List.forall_mem_cons.mpr ⟨gF_12_21, List.forall_mem_cons.mpr ⟨gF_12_22, List.forall_mem_cons.mpr ⟨gF_12_23, List.forall_mem_cons.mpr ⟨gF_12_24, List.forall_mem_cons.mpr ⟨gF_12_25, List.forall_mem_cons.mpr ⟨gF_12_26, List.forall_mem_cons.mpr ⟨gF_12_27, List.forall_mem_cons.mpr ⟨gF_12_28, List.forall_mem_cons.mpr ⟨gF_12_29, List.forall_mem_cons.mpr ⟨gF_12_30, List.forall_mem_cons.mpr ⟨gF_12_31, List.forall_mem_cons.mpr ⟨gF_12_32, List.forall_mem_cons.mpr ⟨gF_12_33, List.forall_mem_cons.mpr ⟨gF_12_34, List.forall_mem_cons.mpr ⟨gF_12_35, List.forall_mem_cons.mpr ⟨gF_12_36, List.forall_mem_cons.mpr ⟨gF_12_37, List.forall_mem_cons.mpr ⟨gF_12_38, List.forall_mem_cons.mpr ⟨gF_12_39, List.forall_mem_cons.mpr ⟨gF_12_40, List.forall_mem_cons.mpr ⟨gF_12_41, List.forall_mem_cons.mpr ⟨gF_12_42, List.forall_mem_cons.mpr ⟨gF_12_43, List.forall_mem_cons.mpr ⟨gF_12_44, List.forall_mem_cons.mpr ⟨gF_12_45, List.forall_mem_cons.mpr ⟨gF_12_46, List.forall_mem_cons.mpr ⟨gF_12_47, List.forall_mem_cons.mpr ⟨gF_12_48, List.forall_mem_cons.mpr ⟨gF_12_49, List.forall_mem_cons.mpr ⟨gF_12_50, List.forall_mem_cons.mpr ⟨gF_12_51, List.forall_mem_cons.mpr ⟨gF_12_52, List.forall_mem_cons.mpr ⟨gF_12_53, List.forall_mem_cons.mpr ⟨gF_12_54, List.forall_mem_cons.mpr ⟨gF_12_55, List.forall_mem_cons.mpr ⟨gF_12_56, List.forall_mem_cons.mpr ⟨gF_12_57, List.forall_mem_cons.mpr ⟨gF_12_58, List.forall_mem_cons.mpr ⟨gF_12_59, List.forall_mem_cons.mpr ⟨gF_12_60, fun _ h => absurd h List.not_mem_nil⟩⟩⟩⟩⟩⟩⟩⟩⟩⟩⟩⟩⟩⟩⟩⟩⟩⟩⟩⟩⟩⟩⟩⟩⟩⟩⟩⟩⟩⟩⟩⟩⟩⟩⟩⟩⟩⟩⟩⟩⟩⟩⟩⟩⟩⟩⟩⟩⟩⟩⟩⟩⟩⟩⟩⟩⟩⟩⟩⟩⟩
theorem gF (o : Nat) : ∀ e ∈ tbF o, PF o e := by
  unfold tbF
  split
  · exact gF_0
  · exact gF_1
  · exact gF_2
  · exact gF_3
  · exact gF_4
  · exact gF_5
  · exact gF_6
  · exact gF_7
  · exact gF_8
  · exact gF_9
  · exact gF_10
  · exact gF_11
  · exact gF_12
  · intro e he; cases he
theorem gD_6_0 : PD 6 (121, .inr 5) := ⟨rfl, Nat.le_of_ble_eq_true rfl, Nat.le_of_ble_eq_true rfl, rfl⟩
theorem gD_6_1 : PD 6 (131, .inr 6) := ⟨rfl, Nat.le_of_ble_eq_true rfl, Nat.le_of_ble_eq_true rfl, rfl⟩
theorem gD_6_2 : PD 6 (133, .inr 7) := ⟨rfl, Nat.le_of_ble_eq_true rfl, Nat.le_of_ble_eq_true rfl, rfl⟩
theorem gD_6_3 : PD 6 (138, .inr 8) := ⟨rfl, Nat.le_of_ble_eq_true rfl, Nat.le_of_ble_eq_true rfl, rfl⟩
theorem gD_6_4 : PD 6 (193, .inr 9) := ⟨rfl, Nat.le_of_ble_eq_true rfl, Nat.le_of_ble_eq_true rfl, rfl⟩
theorem gD_6_5 : PD 6 (195, .inr 10) := ⟨rfl, Nat.le_of_ble_eq_true rfl, Nat.le_of_ble_eq_true rfl, rfl⟩
theorem gD_6_6 : PD 6 (197, .inr 11) := ⟨rfl, Nat.le_of_ble_eq_true rfl, Nat.le_of_ble_eq_true rfl, rfl⟩
theorem gD_6_7 : PD 6 (199, .inr 12) := ⟨rfl, Nat.le_of_ble_eq_true rfl, Nat.le_of_ble_eq_true rfl, rfl⟩
theorem gD_6_8 : PD 6 (201, .inr 13) := ⟨rfl, Nat.le_of_ble_eq_true rfl, Nat.le_of_ble_eq_true rfl, rfl⟩
theorem gD_6_9 : PD 6 (203, .inr 14) := ⟨rfl, Nat.le_of_ble_eq_true rfl, Nat.le_of_ble_eq_true rfl, rfl⟩
theorem gD_6_10 : PD 6 (211, .inr 15) := ⟨rfl, Nat.le_of_ble_eq_true rfl, Nat.le_of_ble_eq_true rfl, rfl⟩
theorem gD_6_11 : PD 6 (219, .inr 16) := ⟨rfl, Nat.le_of_ble_eq_true rfl, Nat.le_of_ble_eq_true rfl, rfl⟩
theorem gD_6_12 : PD 6 (221, .inr 17) := ⟨rfl, Nat.le_of_ble_eq_true rfl, Nat.le_of_ble_eq_true rfl, rfl⟩
theorem gD_6_13 : PD 6 (223, .inr 18) := ⟨rfl, Nat.le_of_ble_eq_true rfl, Nat.le_of_ble_eq_true rfl, rfl⟩
theorem gD_6_14 : PD 6 (225, .inr 19) := ⟨rfl, Nat.le_of_ble_eq_true rfl, Nat.le_of_ble_eq_true rfl, rfl⟩
theorem gD_6 : ∀ e ∈ tbD_6, PD 6 e := List.forall_mem_cons.mpr ⟨gD_6_0, List.forall_mem_cons.mpr ⟨gD_6_1, List.forall_mem_cons.mpr ⟨gD_6_2, List.forall_mem_cons.mpr ⟨gD_6_3, List.forall_mem_cons.mpr ⟨gD_6_4, List.forall_mem_cons.mpr ⟨gD_6_5, List.forall_mem_cons.mpr ⟨gD_6_6, List.forall_mem_cons.mpr ⟨gD_6_7, List.forall_mem_cons.mpr ⟨gD_6_8, List.forall_mem_cons.mpr ⟨gD_6_9, List.forall_mem_cons.mpr ⟨gD_6_10, List.forall_mem_cons.mpr ⟨gD_6_11, List.forall_mem_cons.mpr ⟨gD_6_12, List.forall_mem_cons.mpr ⟨gD_6_13, List.forall_mem_cons.mpr ⟨gD_6_14, fun _ h => absurd h List.not_mem_nil⟩⟩⟩⟩⟩⟩⟩⟩⟩⟩⟩⟩⟩⟩⟩
theorem gD_7_0 : PD 7 (120, .inl (1103515245)) := (in5 239 rfl rfl)
theorem gD_7 : ∀ e ∈ tbD_7, PD 7 e := List.forall_mem_cons.mpr ⟨gD_7_0, fun _ h => absurd h List.not_mem_nil⟩
theorem gD_12_0 : PD 12 (402, .inl (1000000)) := (in8 211 rfl rfl)
theorem gD_12_1 : PD 12 (406, .inl (-1000000)) := (in8 173 rfl rfl)
theorem gD_12_2 : PD 12 (425, .inl (117649)) := (in8 174 rfl rfl)
theorem gD_12_3 : PD 12 (537, .inl (1103515245)) := (in9 105 rfl rfl)
theorem gD_12 : ∀ e ∈ tbD_12, PD 12 e := List.forall_mem_cons.mpr ⟨gD_12_0, List.forall_mem_cons.mpr ⟨gD_12_1, List.forall_mem_cons.mpr ⟨gD_12_2, List.forall_mem_cons.mpr ⟨gD_12_3, fun _ h => absurd h List.not_mem_nil⟩⟩⟩⟩
theorem gD_16_0 : PD 16 (265, .inl (1431655765)) := (in6 15 rfl rfl)
theorem gD_16_1 : PD 16 (266, .inl (858993459)) := (in6 16 rfl rfl)
theorem gD_16_2 : PD 16 (267, .inl (252645135)) := (in6 17 rfl rfl)
theorem gD_16 : ∀ e ∈ tbD_16, PD 16 e := List.forall_mem_cons.mpr ⟨gD_16_0, List.forall_mem_cons.mpr ⟨gD_16_1, List.forall_mem_cons.mpr ⟨gD_16_2, fun _ h => absurd h List.not_mem_nil⟩⟩⟩
theorem gD (o : Nat) : ∀ e ∈ tbD o, PD o e := by
  unfold tbD
  split
  · exact gD_6
  · exact gD_7
  · exact gD_12
  · exact gD_16
  · intro e he; cases he
theorem gJ_3_0 : PJ 3 (57, (10)) := (in5 133 rfl rfl)
theorem gJ_3 : ∀ e ∈ tbJ_3, PJ 3 e := List.forall_mem_cons.mpr ⟨gJ_3_0, fun _ h => absurd h List.not_mem_nil⟩
theorem gJ_11_0 : PJ 11 (189, (-1)) := (in5 128 rfl rfl)
theorem gJ_11_1 : PJ 11 (307, (60)) := (in6 116 rfl rfl)
theorem gJ_11 : ∀ e ∈ tbJ_11, PJ 11 e := List.forall_mem_cons.mpr ⟨gJ_11_0, List.forall_mem_cons.mpr ⟨gJ_11_1, fun _ h => absurd h List.not_mem_nil⟩⟩
theorem gJ_12_0 : PJ 12 (183, (1685026670)) := (in7 171 rfl rfl)
theorem gJ_12_1 : PJ 12 (185, (30064)) := (in7 172 rfl rfl)
theorem gJ_12_2 : PJ 12 (187, (491395638644)) := (in7 173 rfl rfl)
theorem gJ_12_3 : PJ 12 (189, (427021005928)) := (in7 174 rfl rfl)
theorem gJ_12_4 : PJ 12 (205, (1751474548)) := (in7 213 rfl rfl)
theorem gJ_12_5 : PJ 12 (207, (1885434484)) := (in7 214 rfl rfl)
theorem gJ_12_6 : PJ 12 (209, (6518132)) := (in7 215 rfl rfl)
theorem gJ_12_7 : PJ 12 (211, (444301143652)) := (in7 216 rfl rfl)
theorem gJ_12_8 : PJ 12 (213, (7301484)) := (in7 217 rfl rfl)
theorem gJ_12_9 : PJ 12 (215, (6578553)) := (in7 218 rfl rfl)
theorem gJ_12_10 : PJ 12 (227, (1819242087)) := (in7 231 rfl rfl)
theorem gJ_12_11 : PJ 12 (229, (418497262196)) := (in7 232 rfl rfl)
theorem gJ_12_12 : PJ 12 (231, (491496236904)) := (in7 233 rfl rfl)
theorem gJ_12_13 : PJ 12 (233, (1818584692)) := (in7 234 rfl rfl)
theorem gJ_12_14 : PJ 12 (235, (28271)) := (in7 235 rfl rfl)
theorem gJ_12_15 : PJ 12 (475, (10)) := (in9 35 rfl rfl)
theorem gJ_12_16 : PJ 12 (481, (-1)) := (in9 28 rfl rfl)
theorem gJ_12_17 : PJ 12 (553, (60)) := (in9 161 rfl rfl)
theorem gJ_12 : ∀ e ∈ tbJ_12, PJ 12 e := List.forall_mem_cons.mpr ⟨gJ_12_0, List.forall_mem_cons.mpr ⟨gJ_12_1, List.forall_mem_cons.mpr ⟨gJ_12_2, List.forall_mem_cons.mpr ⟨gJ_12_3, List.forall_mem_cons.mpr ⟨gJ_12_4, List.forall_mem_cons.mpr ⟨gJ_12_5, List.forall_mem_cons.mpr ⟨gJ_12_6, List.forall_mem_cons.mpr ⟨gJ_12_7, List.forall_mem_cons.mpr ⟨gJ_12_8, List.forall_mem_cons.mpr ⟨gJ_12_9, List.forall_mem_cons.mpr ⟨gJ_12_10, List.forall_mem_cons.mpr ⟨gJ_12_11, List.forall_mem_cons.mpr ⟨gJ_12_12, List.forall_mem_cons.mpr ⟨gJ_12_13, List.forall_mem_cons.mpr ⟨gJ_12_14, List.forall_mem_cons.mpr ⟨gJ_12_15, List.forall_mem_cons.mpr ⟨gJ_12_16, List.forall_mem_cons.mpr ⟨gJ_12_17, fun _ h => absurd h List.not_mem_nil⟩⟩⟩⟩⟩⟩⟩⟩⟩⟩⟩⟩⟩⟩⟩⟩⟩⟩
theorem gJ_17_0 : PJ 17 (314, (6148914691236517205)) := (in5 208 rfl rfl)
theorem gJ_17_1 : PJ 17 (316, (3689348814741910323)) := (in5 209 rfl rfl)
theorem gJ_17_2 : PJ 17 (318, (1085102592571150095)) := (in5 210 rfl rfl)
theorem gJ_17 : ∀ e ∈ tbJ_17, PJ 17 e := List.forall_mem_cons.mpr ⟨gJ_17_0, List.forall_mem_cons.mpr ⟨gJ_17_1, List.forall_mem_cons.mpr ⟨gJ_17_2, fun _ h => absurd h List.not_mem_nil⟩⟩⟩
theorem gJ (o : Nat) : ∀ e ∈ tbJ o, PJ o e := by
  unfold tbJ
  split
  · exact gJ_3
  · exact gJ_11
  · exact gJ_12
  · exact gJ_17
  · intro e he; cases he
theorem gC_2_0 : PC 2 (9, 0) := ⟨Nat.le_of_ble_eq_true rfl, (in1 48 rfl rfl), (in1 49 rfl rfl), (in1 4 rfl rfl)⟩
theorem gC_2 : ∀ e ∈ tbC_2, PC 2 e := List.forall_mem_cons.mpr ⟨gC_2_0, fun _ h => absurd h List.not_mem_nil⟩
theorem gC_5_0 : PC 5 (9, 2) := ⟨Nat.le_of_ble_eq_true rfl, (in2 78 rfl rfl), (in1 43 rfl rfl), (in1 3 rfl rfl)⟩
theorem gC_5 : ∀ e ∈ tbC_5, PC 5 e := List.forall_mem_cons.mpr ⟨gC_5_0, fun _ h => absurd h List.not_mem_nil⟩
theorem gC_6_0 : PC 6 (9, 2) := ⟨Nat.le_of_ble_eq_true rfl, (in1 219 rfl rfl), (in1 43 rfl rfl), (in1 3 rfl rfl)⟩
theorem gC_6_1 : PC 6 (18, 10) := ⟨Nat.le_of_ble_eq_true rfl, (in1 221 rfl rfl), (in1 139 rfl rfl), (in1 6 rfl rfl)⟩
theorem gC_6_2 : PC 6 (25, 1) := ⟨Nat.le_of_ble_eq_true rfl, (in1 223 rfl rfl), (in1 163 rfl rfl), (in1 7 rfl rfl)⟩
theorem gC_6 : ∀ e ∈ tbC_6, PC 6 e := List.forall_mem_cons.mpr ⟨gC_6_0, List.forall_mem_cons.mpr ⟨gC_6_1, List.forall_mem_cons.mpr ⟨gC_6_2, fun _ h => absurd h List.not_mem_nil⟩⟩⟩
theorem gC_7_0 : PC 7 (9, 2) := ⟨Nat.le_of_ble_eq_true rfl, (in2 39 rfl rfl), (in1 43 rfl rfl), (in1 3 rfl rfl)⟩
theorem gC_7 : ∀ e ∈ tbC_7, PC 7 e := List.forall_mem_cons.mpr ⟨gC_7_0, fun _ h => absurd h List.not_mem_nil⟩
theorem gC_8_0 : PC 8 (15, 2) := ⟨Nat.le_of_ble_eq_true rfl, (in1 37 rfl rfl), (in1 43 rfl rfl), (in1 3 rfl rfl)⟩
theorem gC_8_1 : PC 8 (21, 10) := ⟨Nat.le_of_ble_eq_true rfl, (in1 39 rfl rfl), (in1 139 rfl rfl), (in1 6 rfl rfl)⟩
theorem gC_8_2 : PC 8 (27, 1) := ⟨Nat.le_of_ble_eq_true rfl, (in1 41 rfl rfl), (in1 163 rfl rfl), (in1 7 rfl rfl)⟩
theorem gC_8 : ∀ e ∈ tbC_8, PC 8 e := List.forall_mem_cons.mpr ⟨gC_8_0, List.forall_mem_cons.mpr ⟨gC_8_1, List.forall_mem_cons.mpr ⟨gC_8_2, fun _ h => absurd h List.not_mem_nil⟩⟩⟩
theorem gC_11_0 : PC 11 (7, 8) := ⟨Nat.le_of_ble_eq_true rfl, (in1 31 rfl rfl), (in1 32 rfl rfl), (in1 2 rfl rfl)⟩
theorem gC_11_1 : PC 11 (20, 6) := ⟨Nat.le_of_ble_eq_true rfl, (in1 213 rfl rfl), (in1 214 rfl rfl), (in1 8 rfl rfl)⟩
theorem gC_11_2 : PC 11 (27, 7) := ⟨Nat.le_of_ble_eq_true rfl, (in2 33 rfl rfl), (in2 34 rfl rfl), (in1 9 rfl rfl)⟩
theorem gC_11_3 : PC 11 (34, 5) := ⟨Nat.le_of_ble_eq_true rfl, (in2 72 rfl rfl), (in2 73 rfl rfl), (in1 10 rfl rfl)⟩
theorem gC_11_4 : PC 11 (41, 4) := ⟨Nat.le_of_ble_eq_true rfl, (in2 114 rfl rfl), (in2 115 rfl rfl), (in1 11 rfl rfl)⟩
theorem gC_11_5 : PC 11 (48, 9) := ⟨Nat.le_of_ble_eq_true rfl, (in2 139 rfl rfl), (in2 140 rfl rfl), (in1 12 rfl rfl)⟩
theorem gC_11_6 : PC 11 (55, 3) := ⟨Nat.le_of_ble_eq_true rfl, (in2 170 rfl rfl), (in2 171 rfl rfl), (in1 13 rfl rfl)⟩
theorem gC_11 : ∀ e ∈ tbC_11, PC 11 e := List.forall_mem_cons.mpr ⟨gC_11_0, List.forall_mem_cons.mpr ⟨gC_11_1, List.forall_mem_cons.mpr ⟨gC_11_2, List.forall_mem_cons.mpr ⟨gC_11_3, List.forall_mem_cons.mpr ⟨gC_11_4, List.forall_mem_cons.mpr ⟨gC_11_5, List.forall_mem_cons.mpr ⟨gC_11_6, fun _ h => absurd h List.not_mem_nil⟩⟩⟩⟩⟩⟩⟩
theorem gC_13_0 : PC 13 (7, 11) := ⟨Nat.le_of_ble_eq_true rfl, (in1 23 rfl rfl), (in1 24 rfl rfl), (in1 1 rfl rfl)⟩
theorem gC_13_1 : PC 13 (10, 12) := ⟨Nat.le_of_ble_eq_true rfl, (in6 173 rfl rfl), (in6 174 rfl rfl), (in1 14 rfl rfl)⟩
theorem gC_13 : ∀ e ∈ tbC_13, PC 13 e := List.forall_mem_cons.mpr ⟨gC_13_0, List.forall_mem_cons.mpr ⟨gC_13_1, fun _ h => absurd h List.not_mem_nil⟩⟩
theorem gC (o : Nat) : ∀ e ∈ tbC o, PC o e := by
  unfold tbC
  split
  · exact gC_2
  · exact gC_5
  · exact gC_6
  · exact gC_7
  · exact gC_8
  · exact gC_11
  · exact gC_13
  · intro e he; cases he
theorem gA_8_0 : PA 8 (15, 18) := ⟨Nat.le_of_ble_eq_true rfl, Nat.le_of_ble_eq_true rfl, RX2, rfl, (in1 37 rfl rfl)⟩
theorem gA_8_1 : PA 8 (21, 20) := ⟨Nat.le_of_ble_eq_true rfl, Nat.le_of_ble_eq_true rfl, RX10, rfl, (in1 39 rfl rfl)⟩
theorem gA_8_2 : PA 8 (27, 17) := ⟨Nat.le_of_ble_eq_true rfl, Nat.le_of_ble_eq_true rfl, RX1, rfl, (in1 41 rfl rfl)⟩
theorem gA_8 : ∀ e ∈ tbA_8, PA 8 e := List.forall_mem_cons.mpr ⟨gA_8_0, List.forall_mem_cons.mpr ⟨gA_8_1, List.forall_mem_cons.mpr ⟨gA_8_2, fun _ h => absurd h List.not_mem_nil⟩⟩⟩
theorem gA_11_0 : PA 11 (7, 19) := ⟨Nat.le_of_ble_eq_true rfl, Nat.le_of_ble_eq_true rfl, RX8, rfl, (in1 31 rfl rfl)⟩
theorem gA_11 : ∀ e ∈ tbA_11, PA 11 e := List.forall_mem_cons.mpr ⟨gA_11_0, fun _ h => absurd h List.not_mem_nil⟩
theorem gA (o : Nat) : ∀ e ∈ tbA o, PA o e := by
  unfold tbA
  split
  · exact gA_8
  · exact gA_11
  · intro e he; cases he
theorem gS_6_0 : PS 6 (150, 0) := ⟨Nat.le_of_ble_eq_true rfl, (in3 122 rfl rfl)⟩
theorem gS_6_1 : PS 6 (153, 1) := ⟨Nat.le_of_ble_eq_true rfl, (in3 124 rfl rfl)⟩
theorem gS_6_2 : PS 6 (170, 2) := ⟨Nat.le_of_ble_eq_true rfl, (in3 148 rfl rfl)⟩
theorem gS_6_3 : PS 6 (173, 3) := ⟨Nat.le_of_ble_eq_true rfl, (in3 150 rfl rfl)⟩
theorem gS_6_4 : PS 6 (213, 4) := ⟨Nat.le_of_ble_eq_true rfl, (in3 207 rfl rfl)⟩
theorem gS_6 : ∀ e ∈ tbS_6, PS 6 e := List.forall_mem_cons.mpr ⟨gS_6_0, List.forall_mem_cons.mpr ⟨gS_6_1, List.forall_mem_cons.mpr ⟨gS_6_2, List.forall_mem_cons.mpr ⟨gS_6_3, List.forall_mem_cons.mpr ⟨gS_6_4, fun _ h => absurd h List.not_mem_nil⟩⟩⟩⟩⟩
theorem gS (o : Nat) : ∀ e ∈ tbS o, PS o e := by
  unfold tbS
  split
  · exact gS_6
  · intro e he; cases he

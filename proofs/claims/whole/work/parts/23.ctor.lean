/-! CONSTRUCTORS (written by program: wip/whole/ctor.py, gen23.py) -/
theorem dX0_init_0 : decode cX0_init 0 = .ok (.aload_n 0, 1) := by decide +kernel
theorem dX0_init_1 : decode cX0_init 1 = .ok (.invokespecial 3, 3) := by decide +kernel
theorem dX0_init_4 : decode cX0_init 4 = .ok (.aload_n 0, 1) := by decide +kernel
theorem dX0_init_5 : decode cX0_init 5 = .ok (.bipush 6, 2) := by decide +kernel
theorem dX0_init_7 : decode cX0_init 7 = .ok (.newarray .int, 2) := by decide +kernel
theorem dX0_init_9 : decode cX0_init 9 = .ok (.putfield 9, 3) := by decide +kernel
theorem dX0_init_12 : decode cX0_init 12 = .ok (.aload_n 0, 1) := by decide +kernel
theorem dX0_init_13 : decode cX0_init 13 = .ok (.bipush 6, 2) := by decide +kernel
theorem dX0_init_15 : decode cX0_init 15 = .ok (.newarray .int, 2) := by decide +kernel
theorem dX0_init_17 : decode cX0_init 17 = .ok (.putfield 15, 3) := by decide +kernel
theorem dX0_init_20 : decode cX0_init 20 = .ok (.aload_n 0, 1) := by decide +kernel
theorem dX0_init_21 : decode cX0_init 21 = .ok (.bipush 6, 2) := by decide +kernel
theorem dX0_init_23 : decode cX0_init 23 = .ok (.newarray .int, 2) := by decide +kernel
theorem dX0_init_25 : decode cX0_init 25 = .ok (.putfield 18, 3) := by decide +kernel
theorem dX0_init_28 : decode cX0_init 28 = .ok (.aload_n 0, 1) := by decide +kernel
theorem dX0_init_29 : decode cX0_init 29 = .ok (.bipush 6, 2) := by decide +kernel
theorem dX0_init_31 : decode cX0_init 31 = .ok (.newarray .int, 2) := by decide +kernel
theorem dX0_init_33 : decode cX0_init 33 = .ok (.putfield 21, 3) := by decide +kernel
theorem dX0_init_36 : decode cX0_init 36 = .ok (.aload_n 0, 1) := by decide +kernel
theorem dX0_init_37 : decode cX0_init 37 = .ok (.bipush 6, 2) := by decide +kernel
theorem dX0_init_39 : decode cX0_init 39 = .ok (.newarray .int, 2) := by decide +kernel
theorem dX0_init_41 : decode cX0_init 41 = .ok (.putfield 24, 3) := by decide +kernel
theorem dX0_init_44 : decode cX0_init 44 = .ok (.aload_n 0, 1) := by decide +kernel
theorem dX0_init_45 : decode cX0_init 45 = .ok (.iconst 0, 1) := by decide +kernel
theorem dX0_init_46 : decode cX0_init 46 = .ok (.putfield 27, 3) := by decide +kernel
theorem dX0_init_49 : decode cX0_init 49 = .ok (.aload_n 0, 1) := by decide +kernel
theorem dX0_init_50 : decode cX0_init 50 = .ok (.getfield 24, 3) := by decide +kernel
theorem dX0_init_53 : decode cX0_init 53 = .ok (.iconst (-1), 1) := by decide +kernel
theorem dX0_init_54 : decode cX0_init 54 = .ok (.invokestatic 31, 3) := by decide +kernel
theorem dX0_init_57 : decode cX0_init 57 = .ok (.return_, 1) := by decide +kernel
theorem dX2_init_0 : decode cX2_init 0 = .ok (.aload_n 0, 1) := by decide +kernel
theorem dX2_init_1 : decode cX2_init 1 = .ok (.invokespecial 3, 3) := by decide +kernel
theorem dX2_init_4 : decode cX2_init 4 = .ok (.aload_n 0, 1) := by decide +kernel
theorem dX2_init_5 : decode cX2_init 5 = .ok (.new 9, 3) := by decide +kernel
theorem dX2_init_8 : decode cX2_init 8 = .ok (.dup, 1) := by decide +kernel
theorem dX2_init_9 : decode cX2_init 9 = .ok (.invokespecial 11, 3) := by decide +kernel
theorem dX2_init_12 : decode cX2_init 12 = .ok (.putfield 12, 3) := by decide +kernel
theorem dX2_init_15 : decode cX2_init 15 = .ok (.aload_n 0, 1) := by decide +kernel
theorem dX2_init_16 : decode cX2_init 16 = .ok (.new 9, 3) := by decide +kernel
theorem dX2_init_19 : decode cX2_init 19 = .ok (.dup, 1) := by decide +kernel
theorem dX2_init_20 : decode cX2_init 20 = .ok (.invokespecial 11, 3) := by decide +kernel
theorem dX2_init_23 : decode cX2_init 23 = .ok (.putfield 18, 3) := by decide +kernel
theorem dX2_init_26 : decode cX2_init 26 = .ok (.aload_n 0, 1) := by decide +kernel
theorem dX2_init_27 : decode cX2_init 27 = .ok (.bipush 6, 2) := by decide +kernel
theorem dX2_init_29 : decode cX2_init 29 = .ok (.newarray .int, 2) := by decide +kernel
theorem dX2_init_31 : decode cX2_init 31 = .ok (.putfield 21, 3) := by decide +kernel
theorem dX2_init_34 : decode cX2_init 34 = .ok (.aload_n 0, 1) := by decide +kernel
theorem dX2_init_35 : decode cX2_init 35 = .ok (.bipush 6, 2) := by decide +kernel
theorem dX2_init_37 : decode cX2_init 37 = .ok (.newarray .int, 2) := by decide +kernel
theorem dX2_init_39 : decode cX2_init 39 = .ok (.putfield 25, 3) := by decide +kernel
theorem dX2_init_42 : decode cX2_init 42 = .ok (.aload_n 0, 1) := by decide +kernel
theorem dX2_init_43 : decode cX2_init 43 = .ok (.bipush 6, 2) := by decide +kernel
theorem dX2_init_45 : decode cX2_init 45 = .ok (.newarray .int, 2) := by decide +kernel
theorem dX2_init_47 : decode cX2_init 47 = .ok (.putfield 28, 3) := by decide +kernel
theorem dX2_init_50 : decode cX2_init 50 = .ok (.aload_n 0, 1) := by decide +kernel
theorem dX2_init_51 : decode cX2_init 51 = .ok (.iconst 0, 1) := by decide +kernel
theorem dX2_init_52 : decode cX2_init 52 = .ok (.putfield 31, 3) := by decide +kernel
theorem dX2_init_55 : decode cX2_init 55 = .ok (.return_, 1) := by decide +kernel
theorem tf_0_9 : tFld TB0 0 9 = some (0, 0) := rfl
theorem tf_0_15 : tFld TB0 0 15 = some (0, 1) := rfl
theorem tf_0_18 : tFld TB0 0 18 = some (0, 2) := rfl
theorem tf_0_21 : tFld TB0 0 21 = some (0, 3) := rfl
theorem tf_0_24 : tFld TB0 0 24 = some (0, 4) := rfl
theorem tf_0_27 : tFld TB0 0 27 = some (0, 5) := rfl
theorem tf_2_12 : tFld TB0 2 12 = some (2, 0) := rfl
theorem tf_2_18 : tFld TB0 2 18 = some (2, 1) := rfl
theorem tf_2_21 : tFld TB0 2 21 = some (2, 2) := rfl
theorem tf_2_25 : tFld TB0 2 25 = some (2, 3) := rfl
theorem tf_2_28 : tFld TB0 2 28 = some (2, 4) := rfl
theorem tf_2_31 : tFld TB0 2 31 = some (2, 5) := rfl
set_option maxRecDepth 20000 in
theorem tm_0_3 : tMet TB0 0 3 = some (4, M_none) := rfl
set_option maxRecDepth 20000 in
theorem tm_0_31 : tMet TB0 0 31 = some (1, M_J7_fill_53178) := rfl
set_option maxRecDepth 20000 in
theorem tm_2_3 : tMet TB0 2 3 = some (4, M_none) := rfl
set_option maxRecDepth 20000 in
theorem tm_2_11 : tMet TB0 2 11 = some (2, M_X0_init) := rfl
theorem tc_2_9 : tCls TB0 2 9 = some 0 := rfl
def R_X0_init (p : Nat) : List mCe := [(0, 0, 0, [0, 0, 0, 0, 0, 0], [], [some (p + 1), some (p + 2), some (p + 3), some (p + 4), some (p + 5)]), (14, 6, 0, [], [], []), (14, 6, 0, [], [], []), (14, 6, 0, [], [], []), (14, 6, 0, [], [], []), (14, 6, (-1), [], [], [])]
set_option maxHeartbeats 4000000 in
set_option maxRecDepth 20000 in
theorem ko_X0_init (ad : mA) (d B : Nat) : mKo ad (d + 2) B M_X0_init 0 5 30 R_X0_init := by
  intro P h Q hh kq
  refine ⟨Nat.le_of_ble_eq_true rfl, ?_⟩
  show mEv _ _ _ _ _ _ _ 0 [some (.ref (B + (P.length + 0)))] [] _ _
  refine e_aload_n dX0_init_0 rfl ?_
  refine e_obj dX0_init_1 tm_0_3 (Nat.le_of_ble_eq_true rfl) ?_
  refine e_aload_n dX0_init_4 rfl ?_
  refine e_bipush 6 dX0_init_5 rfl ?_
  refine k_newa 14 6 hh dX0_init_7 rfl (by decide) (by decide) (Nat.le_of_ble_eq_true rfl) (Nat.le_of_ble_eq_true rfl) (Nat.le_of_ble_eq_true rfl) (fun h hh => ?_)
  refine k_putR (q := 0) hh dX0_init_9 tf_0_9 rfl rfl (Or.inr ⟨_, rfl⟩) (Or.inr ⟨rfl, rfl⟩) (fun h hh => ?_)
  refine e_aload_n dX0_init_12 rfl ?_
  refine e_bipush 6 dX0_init_13 rfl ?_
  refine k_newa 14 6 hh dX0_init_15 rfl (by decide) (by decide) (Nat.le_of_ble_eq_true rfl) (Nat.le_of_ble_eq_true rfl) (Nat.le_of_ble_eq_true rfl) (fun h hh => ?_)
  refine k_putR (q := 0) hh dX0_init_17 tf_0_15 rfl rfl (Or.inr ⟨_, rfl⟩) (Or.inr ⟨rfl, rfl⟩) (fun h hh => ?_)
  refine e_aload_n dX0_init_20 rfl ?_
  refine e_bipush 6 dX0_init_21 rfl ?_
  refine k_newa 14 6 hh dX0_init_23 rfl (by decide) (by decide) (Nat.le_of_ble_eq_true rfl) (Nat.le_of_ble_eq_true rfl) (Nat.le_of_ble_eq_true rfl) (fun h hh => ?_)
  refine k_putR (q := 0) hh dX0_init_25 tf_0_18 rfl rfl (Or.inr ⟨_, rfl⟩) (Or.inr ⟨rfl, rfl⟩) (fun h hh => ?_)
  refine e_aload_n dX0_init_28 rfl ?_
  refine e_bipush 6 dX0_init_29 rfl ?_
  refine k_newa 14 6 hh dX0_init_31 rfl (by decide) (by decide) (Nat.le_of_ble_eq_true rfl) (Nat.le_of_ble_eq_true rfl) (Nat.le_of_ble_eq_true rfl) (fun h hh => ?_)
  refine k_putR (q := 0) hh dX0_init_33 tf_0_21 rfl rfl (Or.inr ⟨_, rfl⟩) (Or.inr ⟨rfl, rfl⟩) (fun h hh => ?_)
  refine e_aload_n dX0_init_36 rfl ?_
  refine e_bipush 6 dX0_init_37 rfl ?_
  refine k_newa 14 6 hh dX0_init_39 rfl (by decide) (by decide) (Nat.le_of_ble_eq_true rfl) (Nat.le_of_ble_eq_true rfl) (Nat.le_of_ble_eq_true rfl) (fun h hh => ?_)
  refine k_putR (q := 0) hh dX0_init_41 tf_0_24 rfl rfl (Or.inr ⟨_, rfl⟩) (Or.inr ⟨rfl, rfl⟩) (fun h hh => ?_)
  refine e_aload_n dX0_init_44 rfl ?_
  refine e_iconst 0 dX0_init_45 rfl ?_
  refine k_putI (q := 0) hh dX0_init_46 tf_0_27 rfl rfl (Or.inl rfl) (fun h hh => ?_)
  refine e_aload_n dX0_init_49 rfl ?_
  refine k_getR (q := 0) hh dX0_init_50 tf_0_24 rfl rfl rfl ?_
  refine e_iconst (-1) dX0_init_53 rfl ?_
  refine k_fill (q := 5) hh dX0_init_54 tm_0_31 (Nat.le_of_ble_eq_true rfl) rfl (by decide) (Nat.le_of_ble_eq_true rfl) (Nat.le_of_ble_eq_true rfl) (fun h hh => ?_)
  exact e_vret dX0_init_57 rfl ⟨rfl, kq _ hh⟩
def R_X2_init (p : Nat) : List mCe := [(2, 0, 0, [0, 0, 0, 0, 0, 0], [], [some (p + 1), some (p + 7), some (p + 13), some (p + 14), some (p + 15)]), (0, 0, 0, [0, 0, 0, 0, 0, 0], [], [some (p + 2), some (p + 3), some (p + 4), some (p + 5), some (p + 6)]), (14, 6, 0, [], [], []), (14, 6, 0, [], [], []), (14, 6, 0, [], [], []), (14, 6, 0, [], [], []), (14, 6, (-1), [], [], []), (0, 0, 0, [0, 0, 0, 0, 0, 0], [], [some (p + 8), some (p + 9), some (p + 10), some (p + 11), some (p + 12)]), (14, 6, 0, [], [], []), (14, 6, 0, [], [], []), (14, 6, 0, [], [], []), (14, 6, 0, [], [], []), (14, 6, (-1), [], [], []), (14, 6, 0, [], [], []), (14, 6, 0, [], [], []), (14, 6, 0, [], [], [])]
set_option maxHeartbeats 4000000 in
set_option maxRecDepth 20000 in
theorem ko_X2_init (ad : mA) (d B : Nat) : mKo ad (d + 3) B M_X2_init 2 15 90 R_X2_init := by
  intro P h Q hh kq
  refine ⟨Nat.le_of_ble_eq_true rfl, ?_⟩
  show mEv _ _ _ _ _ _ _ 0 [some (.ref (B + (P.length + 0)))] [] _ _
  refine e_aload_n dX2_init_0 rfl ?_
  refine e_obj dX2_init_1 tm_2_3 (Nat.le_of_ble_eq_true rfl) ?_
  refine e_aload_n dX2_init_4 rfl ?_
  refine k_new hh dX2_init_5 tc_2_9 (Nat.le_of_ble_eq_true rfl) (Nat.le_of_ble_eq_true rfl) (fun h hh => ?_)
  refine e_dup dX2_init_8 rfl ?_
  refine k_ctor hh dX2_init_9 (Or.inl tm_2_11) rfl (Nat.le_of_ble_eq_true rfl) (Nat.le_of_ble_eq_true rfl) (Nat.le_of_ble_eq_true rfl) (ko_X0_init ad _ B) (fun h hh => ?_)
  refine k_putR (q := 0) hh dX2_init_12 tf_2_12 rfl rfl (Or.inl ⟨_, rfl⟩) (Or.inr ⟨rfl, rfl⟩) (fun h hh => ?_)
  refine e_aload_n dX2_init_15 rfl ?_
  refine k_new hh dX2_init_16 tc_2_9 (Nat.le_of_ble_eq_true rfl) (Nat.le_of_ble_eq_true rfl) (fun h hh => ?_)
  refine e_dup dX2_init_19 rfl ?_
  refine k_ctor hh dX2_init_20 (Or.inl tm_2_11) rfl (Nat.le_of_ble_eq_true rfl) (Nat.le_of_ble_eq_true rfl) (Nat.le_of_ble_eq_true rfl) (ko_X0_init ad _ B) (fun h hh => ?_)
  refine k_putR (q := 0) hh dX2_init_23 tf_2_18 rfl rfl (Or.inl ⟨_, rfl⟩) (Or.inr ⟨rfl, rfl⟩) (fun h hh => ?_)
  refine e_aload_n dX2_init_26 rfl ?_
  refine e_bipush 6 dX2_init_27 rfl ?_
  refine k_newa 14 6 hh dX2_init_29 rfl (by decide) (by decide) (Nat.le_of_ble_eq_true rfl) (Nat.le_of_ble_eq_true rfl) (Nat.le_of_ble_eq_true rfl) (fun h hh => ?_)
  refine k_putR (q := 0) hh dX2_init_31 tf_2_21 rfl rfl (Or.inr ⟨_, rfl⟩) (Or.inr ⟨rfl, rfl⟩) (fun h hh => ?_)
  refine e_aload_n dX2_init_34 rfl ?_
  refine e_bipush 6 dX2_init_35 rfl ?_
  refine k_newa 14 6 hh dX2_init_37 rfl (by decide) (by decide) (Nat.le_of_ble_eq_true rfl) (Nat.le_of_ble_eq_true rfl) (Nat.le_of_ble_eq_true rfl) (fun h hh => ?_)
  refine k_putR (q := 0) hh dX2_init_39 tf_2_25 rfl rfl (Or.inr ⟨_, rfl⟩) (Or.inr ⟨rfl, rfl⟩) (fun h hh => ?_)
  refine e_aload_n dX2_init_42 rfl ?_
  refine e_bipush 6 dX2_init_43 rfl ?_
  refine k_newa 14 6 hh dX2_init_45 rfl (by decide) (by decide) (Nat.le_of_ble_eq_true rfl) (Nat.le_of_ble_eq_true rfl) (Nat.le_of_ble_eq_true rfl) (fun h hh => ?_)
  refine k_putR (q := 0) hh dX2_init_47 tf_2_28 rfl rfl (Or.inr ⟨_, rfl⟩) (Or.inr ⟨rfl, rfl⟩) (fun h hh => ?_)
  refine e_aload_n dX2_init_50 rfl ?_
  refine e_iconst 0 dX2_init_51 rfl ?_
  refine k_putI (q := 0) hh dX2_init_52 tf_2_31 rfl rfl (Or.inl rfl) (fun h hh => ?_)
  exact e_vret dX2_init_55 rfl ⟨rfl, kq _ hh⟩

/-! CONSTRUCTORS (written by program: wip/whole/ctor.py, gen23.py) -/
theorem dX0_init_0 : decode cX0_init 0 = .ok (.aload_n 0, 1) := by decide +kernel
theorem dX0_init_1 : decode cX0_init 1 = .ok (.invokespecial 3, 3) := by decide +kernel
theorem dX0_init_4 : decode cX0_init 4 = .ok (.aload_n 0, 1) := by decide +kernel
theorem dX0_init_5 : decode cX0_init 5 = .ok (.bipush 6, 2) := by decide +kernel
theorem dX0_init_7 : decode cX0_init 7 = .ok (.newarray .int, 2) := by decide +kernel
theorem dX0_init_9 : decode cX0_init 9 = .ok (.putfield 9, 3) := by decide +kernel
theorem dX0_init_12 : decode cX0_init 12 = .ok (.aload_n 0, 1) := by decide +kernel
theorem dX0_init_13 : decode cX0_init 13 = .ok (.bipush 6, 2) := by decide +kernel
theorem dX0_init_15 : decode cX0_init 15 = .ok (.newarray .int, 2) := by decide +kernel
theorem dX0_init_17 : decode cX0_init 17 = .ok (.putfield 15, 3) := by decide +kernel
theorem dX0_init_20 : decode cX0_init 20 = .ok (.aload_n 0, 1) := by decide +kernel
theorem dX0_init_21 : decode cX0_init 21 = .ok (.bipush 6, 2) := by decide +kernel
theorem dX0_init_23 : decode cX0_init 23 = .ok (.newarray .int, 2) := by decide +kernel
theorem dX0_init_25 : decode cX0_init 25 = .ok (.putfield 18, 3) := by decide +kernel
theorem dX0_init_28 : decode cX0_init 28 = .ok (.aload_n 0, 1) := by decide +kernel
theorem dX0_init_29 : decode cX0_init 29 = .ok (.bipush 6, 2) := by decide +kernel
theorem dX0_init_31 : decode cX0_init 31 = .ok (.newarray .int, 2) := by decide +kernel
theorem dX0_init_33 : decode cX0_init 33 = .ok (.putfield 21, 3) := by decide +kernel
theorem dX0_init_36 : decode cX0_init 36 = .ok (.aload_n 0, 1) := by decide +kernel
theorem dX0_init_37 : decode cX0_init 37 = .ok (.bipush 6, 2) := by decide +kernel
theorem dX0_init_39 : decode cX0_init 39 = .ok (.newarray .int, 2) := by decide +kernel
theorem dX0_init_41 : decode cX0_init 41 = .ok (.putfield 24, 3) := by decide +kernel
theorem dX0_init_44 : decode cX0_init 44 = .ok (.aload_n 0, 1) := by decide +kernel
theorem dX0_init_45 : decode cX0_init 45 = .ok (.iconst 0, 1) := by decide +kernel
theorem dX0_init_46 : decode cX0_init 46 = .ok (.putfield 27, 3) := by decide +kernel
theorem dX0_init_49 : decode cX0_init 49 = .ok (.aload_n 0, 1) := by decide +kernel
theorem dX0_init_50 : decode cX0_init 50 = .ok (.getfield 24, 3) := by decide +kernel
theorem dX0_init_53 : decode cX0_init 53 = .ok (.iconst (-1), 1) := by decide +kernel
theorem dX0_init_54 : decode cX0_init 54 = .ok (.invokestatic 31, 3) := by decide +kernel
theorem dX0_init_57 : decode cX0_init 57 = .ok (.return_, 1) := by decide +kernel
theorem dX1_init_0 : decode cX1_init 0 = .ok (.aload_n 0, 1) := by decide +kernel
theorem dX1_init_1 : decode cX1_init 1 = .ok (.invokespecial 3, 3) := by decide +kernel
theorem dX1_init_4 : decode cX1_init 4 = .ok (.aload_n 0, 1) := by decide +kernel
theorem dX1_init_5 : decode cX1_init 5 = .ok (.bipush 8, 2) := by decide +kernel
theorem dX1_init_7 : decode cX1_init 7 = .ok (.newarray .int, 2) := by decide +kernel
theorem dX1_init_9 : decode cX1_init 9 = .ok (.putfield 9, 3) := by decide +kernel
theorem dX1_init_12 : decode cX1_init 12 = .ok (.aload_n 0, 1) := by decide +kernel
theorem dX1_init_13 : decode cX1_init 13 = .ok (.bipush 8, 2) := by decide +kernel
theorem dX1_init_15 : decode cX1_init 15 = .ok (.newarray .int, 2) := by decide +kernel
theorem dX1_init_17 : decode cX1_init 17 = .ok (.putfield 15, 3) := by decide +kernel
theorem dX1_init_20 : decode cX1_init 20 = .ok (.aload_n 0, 1) := by decide +kernel
theorem dX1_init_21 : decode cX1_init 21 = .ok (.bipush 8, 2) := by decide +kernel
theorem dX1_init_23 : decode cX1_init 23 = .ok (.newarray .int, 2) := by decide +kernel
theorem dX1_init_25 : decode cX1_init 25 = .ok (.putfield 18, 3) := by decide +kernel
theorem dX1_init_28 : decode cX1_init 28 = .ok (.aload_n 0, 1) := by decide +kernel
theorem dX1_init_29 : decode cX1_init 29 = .ok (.iconst 0, 1) := by decide +kernel
theorem dX1_init_30 : decode cX1_init 30 = .ok (.putfield 21, 3) := by decide +kernel
theorem dX1_init_33 : decode cX1_init 33 = .ok (.return_, 1) := by decide +kernel
theorem dX2_init_0 : decode cX2_init 0 = .ok (.aload_n 0, 1) := by decide +kernel
theorem dX2_init_1 : decode cX2_init 1 = .ok (.invokespecial 3, 3) := by decide +kernel
theorem dX2_init_4 : decode cX2_init 4 = .ok (.aload_n 0, 1) := by decide +kernel
theorem dX2_init_5 : decode cX2_init 5 = .ok (.new 9, 3) := by decide +kernel
theorem dX2_init_8 : decode cX2_init 8 = .ok (.dup, 1) := by decide +kernel
theorem dX2_init_9 : decode cX2_init 9 = .ok (.invokespecial 11, 3) := by decide +kernel
theorem dX2_init_12 : decode cX2_init 12 = .ok (.putfield 12, 3) := by decide +kernel
theorem dX2_init_15 : decode cX2_init 15 = .ok (.aload_n 0, 1) := by decide +kernel
theorem dX2_init_16 : decode cX2_init 16 = .ok (.new 9, 3) := by decide +kernel
theorem dX2_init_19 : decode cX2_init 19 = .ok (.dup, 1) := by decide +kernel
theorem dX2_init_20 : decode cX2_init 20 = .ok (.invokespecial 11, 3) := by decide +kernel
theorem dX2_init_23 : decode cX2_init 23 = .ok (.putfield 18, 3) := by decide +kernel
theorem dX2_init_26 : decode cX2_init 26 = .ok (.aload_n 0, 1) := by decide +kernel
theorem dX2_init_27 : decode cX2_init 27 = .ok (.bipush 6, 2) := by decide +kernel
theorem dX2_init_29 : decode cX2_init 29 = .ok (.newarray .int, 2) := by decide +kernel
theorem dX2_init_31 : decode cX2_init 31 = .ok (.putfield 21, 3) := by decide +kernel
theorem dX2_init_34 : decode cX2_init 34 = .ok (.aload_n 0, 1) := by decide +kernel
theorem dX2_init_35 : decode cX2_init 35 = .ok (.bipush 6, 2) := by decide +kernel
theorem dX2_init_37 : decode cX2_init 37 = .ok (.newarray .int, 2) := by decide +kernel
theorem dX2_init_39 : decode cX2_init 39 = .ok (.putfield 25, 3) := by decide +kernel
theorem dX2_init_42 : decode cX2_init 42 = .ok (.aload_n 0, 1) := by decide +kernel
theorem dX2_init_43 : decode cX2_init 43 = .ok (.bipush 6, 2) := by decide +kernel
theorem dX2_init_45 : decode cX2_init 45 = .ok (.newarray .int, 2) := by decide +kernel
theorem dX2_init_47 : decode cX2_init 47 = .ok (.putfield 28, 3) := by decide +kernel
theorem dX2_init_50 : decode cX2_init 50 = .ok (.aload_n 0, 1) := by decide +kernel
theorem dX2_init_51 : decode cX2_init 51 = .ok (.iconst 0, 1) := by decide +kernel
theorem dX2_init_52 : decode cX2_init 52 = .ok (.putfield 31, 3) := by decide +kernel
theorem dX2_init_55 : decode cX2_init 55 = .ok (.return_, 1) := by decide +kernel
theorem dX3_init_0 : decode cX3_init 0 = .ok (.aload_n 0, 1) := by decide +kernel
theorem dX3_init_1 : decode cX3_init 1 = .ok (.invokespecial 3, 3) := by decide +kernel
theorem dX3_init_4 : decode cX3_init 4 = .ok (.aload_n 0, 1) := by decide +kernel
theorem dX3_init_5 : decode cX3_init 5 = .ok (.sipush 651, 3) := by decide +kernel
theorem dX3_init_8 : decode cX3_init 8 = .ok (.newarray .int, 2) := by decide +kernel
theorem dX3_init_10 : decode cX3_init 10 = .ok (.putfield 11, 3) := by decide +kernel
theorem dX3_init_13 : decode cX3_init 13 = .ok (.aload_n 0, 1) := by decide +kernel
theorem dX3_init_14 : decode cX3_init 14 = .ok (.lconst 0, 1) := by decide +kernel
theorem dX3_init_15 : decode cX3_init 15 = .ok (.putfield 15, 3) := by decide +kernel
theorem dX3_init_18 : decode cX3_init 18 = .ok (.aload_n 0, 1) := by decide +kernel
theorem dX3_init_19 : decode cX3_init 19 = .ok (.lconst 1, 1) := by decide +kernel
theorem dX3_init_20 : decode cX3_init 20 = .ok (.putfield 19, 3) := by decide +kernel
theorem dX3_init_23 : decode cX3_init 23 = .ok (.aload_n 0, 1) := by decide +kernel
theorem dX3_init_24 : decode cX3_init 24 = .ok (.iconst 0, 1) := by decide +kernel
theorem dX3_init_25 : decode cX3_init 25 = .ok (.putfield 22, 3) := by decide +kernel
theorem dX3_init_28 : decode cX3_init 28 = .ok (.aload_n 0, 1) := by decide +kernel
theorem dX3_init_29 : decode cX3_init 29 = .ok (.bipush 21, 2) := by decide +kernel
theorem dX3_init_31 : decode cX3_init 31 = .ok (.newarray .int, 2) := by decide +kernel
theorem dX3_init_33 : decode cX3_init 33 = .ok (.putfield 26, 3) := by decide +kernel
theorem dX3_init_36 : decode cX3_init 36 = .ok (.aload_n 0, 1) := by decide +kernel
theorem dX3_init_37 : decode cX3_init 37 = .ok (.bipush 21, 2) := by decide +kernel
theorem dX3_init_39 : decode cX3_init 39 = .ok (.newarray .int, 2) := by decide +kernel
theorem dX3_init_41 : decode cX3_init 41 = .ok (.putfield 29, 3) := by decide +kernel
theorem dX3_init_44 : decode cX3_init 44 = .ok (.aload_n 0, 1) := by decide +kernel
theorem dX3_init_45 : decode cX3_init 45 = .ok (.iconst 0, 1) := by decide +kernel
theorem dX3_init_46 : decode cX3_init 46 = .ok (.putfield 32, 3) := by decide +kernel
theorem dX3_init_49 : decode cX3_init 49 = .ok (.aload_n 0, 1) := by decide +kernel
theorem dX3_init_50 : decode cX3_init 50 = .ok (.iconst 0, 1) := by decide +kernel
theorem dX3_init_51 : decode cX3_init 51 = .ok (.putfield 36, 3) := by decide +kernel
theorem dX3_init_54 : decode cX3_init 54 = .ok (.return_, 1) := by decide +kernel
theorem dX4_init_0 : decode cX4_init 0 = .ok (.aload_n 0, 1) := by decide +kernel
theorem dX4_init_1 : decode cX4_init 1 = .ok (.invokespecial 3, 3) := by decide +kernel
theorem dX4_init_4 : decode cX4_init 4 = .ok (.aload_n 0, 1) := by decide +kernel
theorem dX4_init_5 : decode cX4_init 5 = .ok (.bipush 6, 2) := by decide +kernel
theorem dX4_init_7 : decode cX4_init 7 = .ok (.newarray .int, 2) := by decide +kernel
theorem dX4_init_9 : decode cX4_init 9 = .ok (.putfield 9, 3) := by decide +kernel
theorem dX4_init_12 : decode cX4_init 12 = .ok (.aload_n 0, 1) := by decide +kernel
theorem dX4_init_13 : decode cX4_init 13 = .ok (.bipush 6, 2) := by decide +kernel
theorem dX4_init_15 : decode cX4_init 15 = .ok (.newarray .int, 2) := by decide +kernel
theorem dX4_init_17 : decode cX4_init 17 = .ok (.putfield 15, 3) := by decide +kernel
theorem dX4_init_20 : decode cX4_init 20 = .ok (.aload_n 0, 1) := by decide +kernel
theorem dX4_init_21 : decode cX4_init 21 = .ok (.iconst 0, 1) := by decide +kernel
theorem dX4_init_22 : decode cX4_init 22 = .ok (.putfield 18, 3) := by decide +kernel
theorem dX4_init_25 : decode cX4_init 25 = .ok (.aload_n 0, 1) := by decide +kernel
theorem dX4_init_26 : decode cX4_init 26 = .ok (.bipush 6, 2) := by decide +kernel
theorem dX4_init_28 : decode cX4_init 28 = .ok (.newarray .int, 2) := by decide +kernel
theorem dX4_init_30 : decode cX4_init 30 = .ok (.putfield 22, 3) := by decide +kernel
theorem dX4_init_33 : decode cX4_init 33 = .ok (.aload_n 0, 1) := by decide +kernel
theorem dX4_init_34 : decode cX4_init 34 = .ok (.iconst 0, 1) := by decide +kernel
theorem dX4_init_35 : decode cX4_init 35 = .ok (.putfield 25, 3) := by decide +kernel
theorem dX4_init_38 : decode cX4_init 38 = .ok (.return_, 1) := by decide +kernel
theorem dX7_init_0 : decode cX7_init 0 = .ok (.aload_n 0, 1) := by decide +kernel
theorem dX7_init_1 : decode cX7_init 1 = .ok (.invokespecial 3, 3) := by decide +kernel
theorem dX7_init_4 : decode cX7_init 4 = .ok (.aload_n 0, 1) := by decide +kernel
theorem dX7_init_5 : decode cX7_init 5 = .ok (.new 9, 3) := by decide +kernel
theorem dX7_init_8 : decode cX7_init 8 = .ok (.dup, 1) := by decide +kernel
theorem dX7_init_9 : decode cX7_init 9 = .ok (.invokespecial 11, 3) := by decide +kernel
theorem dX7_init_12 : decode cX7_init 12 = .ok (.putfield 12, 3) := by decide +kernel
theorem dX7_init_15 : decode cX7_init 15 = .ok (.aload_n 0, 1) := by decide +kernel
theorem dX7_init_16 : decode cX7_init 16 = .ok (.iconst 0, 1) := by decide +kernel
theorem dX7_init_17 : decode cX7_init 17 = .ok (.putfield 18, 3) := by decide +kernel
theorem dX7_init_20 : decode cX7_init 20 = .ok (.aload_n 0, 1) := by decide +kernel
theorem dX7_init_21 : decode cX7_init 21 = .ok (.iconst 0, 1) := by decide +kernel
theorem dX7_init_22 : decode cX7_init 22 = .ok (.putfield 22, 3) := by decide +kernel
theorem dX7_init_25 : decode cX7_init 25 = .ok (.aload_n 0, 1) := by decide +kernel
theorem dX7_init_26 : decode cX7_init 26 = .ok (.iconst 0, 1) := by decide +kernel
theorem dX7_init_27 : decode cX7_init 27 = .ok (.putfield 25, 3) := by decide +kernel
theorem dX7_init_30 : decode cX7_init 30 = .ok (.aload_n 0, 1) := by decide +kernel
theorem dX7_init_31 : decode cX7_init 31 = .ok (.iconst 0, 1) := by decide +kernel
theorem dX7_init_32 : decode cX7_init 32 = .ok (.putfield 28, 3) := by decide +kernel
theorem dX7_init_35 : decode cX7_init 35 = .ok (.aload_n 0, 1) := by decide +kernel
theorem dX7_init_36 : decode cX7_init 36 = .ok (.iconst 0, 1) := by decide +kernel
theorem dX7_init_37 : decode cX7_init 37 = .ok (.putfield 31, 3) := by decide +kernel
theorem dX7_init_40 : decode cX7_init 40 = .ok (.aload_n 0, 1) := by decide +kernel
theorem dX7_init_41 : decode cX7_init 41 = .ok (.iconst 0, 1) := by decide +kernel
theorem dX7_init_42 : decode cX7_init 42 = .ok (.putfield 34, 3) := by decide +kernel
theorem dX7_init_45 : decode cX7_init 45 = .ok (.aload_n 0, 1) := by decide +kernel
theorem dX7_init_46 : decode cX7_init 46 = .ok (.iconst 0, 1) := by decide +kernel
theorem dX7_init_47 : decode cX7_init 47 = .ok (.putfield 37, 3) := by decide +kernel
theorem dX7_init_50 : decode cX7_init 50 = .ok (.aload_n 0, 1) := by decide +kernel
theorem dX7_init_51 : decode cX7_init 51 = .ok (.iconst 0, 1) := by decide +kernel
theorem dX7_init_52 : decode cX7_init 52 = .ok (.putfield 40, 3) := by decide +kernel
theorem dX7_init_55 : decode cX7_init 55 = .ok (.aload_n 0, 1) := by decide +kernel
theorem dX7_init_56 : decode cX7_init 56 = .ok (.iconst 0, 1) := by decide +kernel
theorem dX7_init_57 : decode cX7_init 57 = .ok (.putfield 43, 3) := by decide +kernel
theorem dX7_init_60 : decode cX7_init 60 = .ok (.return_, 1) := by decide +kernel
theorem dX9_init_0 : decode cX9_init 0 = .ok (.aload_n 0, 1) := by decide +kernel
theorem dX9_init_1 : decode cX9_init 1 = .ok (.invokespecial 3, 3) := by decide +kernel
theorem dX9_init_4 : decode cX9_init 4 = .ok (.aload_n 0, 1) := by decide +kernel
theorem dX9_init_5 : decode cX9_init 5 = .ok (.bipush 6, 2) := by decide +kernel
theorem dX9_init_7 : decode cX9_init 7 = .ok (.newarray .int, 2) := by decide +kernel
theorem dX9_init_9 : decode cX9_init 9 = .ok (.putfield 9, 3) := by decide +kernel
theorem dX9_init_12 : decode cX9_init 12 = .ok (.aload_n 0, 1) := by decide +kernel
theorem dX9_init_13 : decode cX9_init 13 = .ok (.iconst 0, 1) := by decide +kernel
theorem dX9_init_14 : decode cX9_init 14 = .ok (.putfield 15, 3) := by decide +kernel
theorem dX9_init_17 : decode cX9_init 17 = .ok (.aload_n 0, 1) := by decide +kernel
theorem dX9_init_18 : decode cX9_init 18 = .ok (.bipush 6, 2) := by decide +kernel
theorem dX9_init_20 : decode cX9_init 20 = .ok (.newarray .int, 2) := by decide +kernel
theorem dX9_init_22 : decode cX9_init 22 = .ok (.putfield 19, 3) := by decide +kernel
theorem dX9_init_25 : decode cX9_init 25 = .ok (.aload_n 0, 1) := by decide +kernel
theorem dX9_init_26 : decode cX9_init 26 = .ok (.bipush 6, 2) := by decide +kernel
theorem dX9_init_28 : decode cX9_init 28 = .ok (.newarray .int, 2) := by decide +kernel
theorem dX9_init_30 : decode cX9_init 30 = .ok (.putfield 22, 3) := by decide +kernel
theorem dX9_init_33 : decode cX9_init 33 = .ok (.aload_n 0, 1) := by decide +kernel
theorem dX9_init_34 : decode cX9_init 34 = .ok (.sipush 384, 3) := by decide +kernel
theorem dX9_init_37 : decode cX9_init 37 = .ok (.newarray .boolean, 2) := by decide +kernel
theorem dX9_init_39 : decode cX9_init 39 = .ok (.putfield 25, 3) := by decide +kernel
theorem dX9_init_42 : decode cX9_init 42 = .ok (.aload_n 0, 1) := by decide +kernel
theorem dX9_init_43 : decode cX9_init 43 = .ok (.bipush 6, 2) := by decide +kernel
theorem dX9_init_45 : decode cX9_init 45 = .ok (.newarray .int, 2) := by decide +kernel
theorem dX9_init_47 : decode cX9_init 47 = .ok (.putfield 29, 3) := by decide +kernel
theorem dX9_init_50 : decode cX9_init 50 = .ok (.aload_n 0, 1) := by decide +kernel
theorem dX9_init_51 : decode cX9_init 51 = .ok (.bipush 7, 2) := by decide +kernel
theorem dX9_init_53 : decode cX9_init 53 = .ok (.newarray .int, 2) := by decide +kernel
theorem dX9_init_55 : decode cX9_init 55 = .ok (.putfield 32, 3) := by decide +kernel
theorem dX9_init_58 : decode cX9_init 58 = .ok (.return_, 1) := by decide +kernel
theorem dX10_init_0 : decode cX10_init 0 = .ok (.aload_n 0, 1) := by decide +kernel
theorem dX10_init_1 : decode cX10_init 1 = .ok (.invokespecial 3, 3) := by decide +kernel
theorem dX10_init_4 : decode cX10_init 4 = .ok (.aload_n 0, 1) := by decide +kernel
theorem dX10_init_5 : decode cX10_init 5 = .ok (.bipush 40, 2) := by decide +kernel
theorem dX10_init_7 : decode cX10_init 7 = .ok (.newarray .int, 2) := by decide +kernel
theorem dX10_init_9 : decode cX10_init 9 = .ok (.putfield 9, 3) := by decide +kernel
theorem dX10_init_12 : decode cX10_init 12 = .ok (.aload_n 0, 1) := by decide +kernel
theorem dX10_init_13 : decode cX10_init 13 = .ok (.bipush 40, 2) := by decide +kernel
theorem dX10_init_15 : decode cX10_init 15 = .ok (.newarray .int, 2) := by decide +kernel
theorem dX10_init_17 : decode cX10_init 17 = .ok (.putfield 15, 3) := by decide +kernel
theorem dX10_init_20 : decode cX10_init 20 = .ok (.aload_n 0, 1) := by decide +kernel
theorem dX10_init_21 : decode cX10_init 21 = .ok (.bipush 40, 2) := by decide +kernel
theorem dX10_init_23 : decode cX10_init 23 = .ok (.newarray .int, 2) := by decide +kernel
theorem dX10_init_25 : decode cX10_init 25 = .ok (.putfield 18, 3) := by decide +kernel
theorem dX10_init_28 : decode cX10_init 28 = .ok (.aload_n 0, 1) := by decide +kernel
theorem dX10_init_29 : decode cX10_init 29 = .ok (.iconst 0, 1) := by decide +kernel
theorem dX10_init_30 : decode cX10_init 30 = .ok (.putfield 21, 3) := by decide +kernel
theorem dX10_init_33 : decode cX10_init 33 = .ok (.return_, 1) := by decide +kernel
theorem tf_0_9 : tFld TB0 0 9 = some (0, 0) := rfl
theorem tf_0_15 : tFld TB0 0 15 = some (0, 1) := rfl
theorem tf_0_18 : tFld TB0 0 18 = some (0, 2) := rfl
theorem tf_0_21 : tFld TB0 0 21 = some (0, 3) := rfl
theorem tf_0_24 : tFld TB0 0 24 = some (0, 4) := rfl
theorem tf_0_27 : tFld TB0 0 27 = some (0, 5) := rfl
theorem tf_1_9 : tFld TB0 1 9 = some (1, 0) := rfl
theorem tf_1_15 : tFld TB0 1 15 = some (1, 1) := rfl
theorem tf_1_18 : tFld TB0 1 18 = some (1, 2) := rfl
theorem tf_1_21 : tFld TB0 1 21 = some (1, 3) := rfl
theorem tf_2_12 : tFld TB0 2 12 = some (2, 0) := rfl
theorem tf_2_18 : tFld TB0 2 18 = some (2, 1) := rfl
theorem tf_2_21 : tFld TB0 2 21 = some (2, 2) := rfl
theorem tf_2_25 : tFld TB0 2 25 = some (2, 3) := rfl
theorem tf_2_28 : tFld TB0 2 28 = some (2, 4) := rfl
theorem tf_2_31 : tFld TB0 2 31 = some (2, 5) := rfl
theorem tf_3_11 : tFld TB0 3 11 = some (3, 0) := rfl
theorem tf_3_15 : tFld TB0 3 15 = some (3, 1) := rfl
theorem tf_3_19 : tFld TB0 3 19 = some (3, 2) := rfl
theorem tf_3_22 : tFld TB0 3 22 = some (3, 3) := rfl
theorem tf_3_26 : tFld TB0 3 26 = some (3, 4) := rfl
theorem tf_3_29 : tFld TB0 3 29 = some (3, 5) := rfl
theorem tf_3_32 : tFld TB0 3 32 = some (3, 6) := rfl
theorem tf_3_36 : tFld TB0 3 36 = some (3, 7) := rfl
theorem tf_4_9 : tFld TB0 4 9 = some (4, 0) := rfl
theorem tf_4_15 : tFld TB0 4 15 = some (4, 1) := rfl
theorem tf_4_18 : tFld TB0 4 18 = some (4, 2) := rfl
theorem tf_4_22 : tFld TB0 4 22 = some (4, 3) := rfl
theorem tf_4_25 : tFld TB0 4 25 = some (4, 4) := rfl
theorem tf_7_12 : tFld TB0 7 12 = some (7, 0) := rfl
theorem tf_7_18 : tFld TB0 7 18 = some (7, 1) := rfl
theorem tf_7_22 : tFld TB0 7 22 = some (7, 2) := rfl
theorem tf_7_25 : tFld TB0 7 25 = some (7, 3) := rfl
theorem tf_7_28 : tFld TB0 7 28 = some (7, 4) := rfl
theorem tf_7_31 : tFld TB0 7 31 = some (7, 5) := rfl
theorem tf_7_34 : tFld TB0 7 34 = some (7, 6) := rfl
theorem tf_7_37 : tFld TB0 7 37 = some (7, 7) := rfl
theorem tf_7_40 : tFld TB0 7 40 = some (7, 8) := rfl
theorem tf_7_43 : tFld TB0 7 43 = some (7, 9) := rfl
theorem tf_9_9 : tFld TB0 9 9 = some (9, 0) := rfl
theorem tf_9_15 : tFld TB0 9 15 = some (9, 1) := rfl
theorem tf_9_19 : tFld TB0 9 19 = some (9, 2) := rfl
theorem tf_9_22 : tFld TB0 9 22 = some (9, 3) := rfl
theorem tf_9_25 : tFld TB0 9 25 = some (9, 4) := rfl
theorem tf_9_29 : tFld TB0 9 29 = some (9, 5) := rfl
theorem tf_9_32 : tFld TB0 9 32 = some (9, 6) := rfl
theorem tf_10_9 : tFld TB0 10 9 = some (10, 0) := rfl
theorem tf_10_15 : tFld TB0 10 15 = some (10, 1) := rfl
theorem tf_10_18 : tFld TB0 10 18 = some (10, 2) := rfl
theorem tf_10_21 : tFld TB0 10 21 = some (10, 3) := rfl
set_option maxRecDepth 20000 in
theorem tm_0_3 : tMet TB0 0 3 = some (4, M_none) := rfl
set_option maxRecDepth 20000 in
theorem tm_0_31 : tMet TB0 0 31 = some (1, M_J7_fill_53178) := rfl
set_option maxRecDepth 20000 in
theorem tm_1_3 : tMet TB0 1 3 = some (4, M_none) := rfl
set_option maxRecDepth 20000 in
theorem tm_2_3 : tMet TB0 2 3 = some (4, M_none) := rfl
set_option maxRecDepth 20000 in
theorem tm_2_11 : tMet TB0 2 11 = some (2, M_X0_init) := rfl
set_option maxRecDepth 20000 in
theorem tm_3_3 : tMet TB0 3 3 = some (4, M_none) := rfl
set_option maxRecDepth 20000 in
theorem tm_4_3 : tMet TB0 4 3 = some (4, M_none) := rfl
set_option maxRecDepth 20000 in
theorem tm_7_3 : tMet TB0 7 3 = some (4, M_none) := rfl
set_option maxRecDepth 20000 in
theorem tm_7_11 : tMet TB0 7 11 = some (3, M_X2_init) := rfl
set_option maxRecDepth 20000 in
theorem tm_9_3 : tMet TB0 9 3 = some (4, M_none) := rfl
set_option maxRecDepth 20000 in
theorem tm_10_3 : tMet TB0 10 3 = some (4, M_none) := rfl
theorem tc_2_9 : tCls TB0 2 9 = some 0 := rfl
theorem tc_7_9 : tCls TB0 7 9 = some 2 := rfl
def R_X0_init (p : Nat) : List mCe := [(0, 0, 0, [0, 0, 0, 0, 0, 0], [], [some (p + 1), some (p + 2), some (p + 3), some (p + 4), some (p + 5)]), (14, 6, 0, [], [], []), (14, 6, 0, [], [], []), (14, 6, 0, [], [], []), (14, 6, 0, [], [], []), (14, 6, (-1), [], [], [])]
set_option maxHeartbeats 4000000 in
set_option maxRecDepth 20000 in
theorem ko_X0_init (ad : mA) (d B : Nat) : mKo ad (d + 2) B M_X0_init 0 5 30 R_X0_init := by
  intro P h Q hh kq
  refine ⟨Nat.le_of_ble_eq_true rfl, ?_⟩
  show mEv _ _ _ _ _ _ _ 0 [some (.ref (B + (P.length + 0)))] [] _ _
  refine e_aload_n dX0_init_0 rfl ?_
  refine e_obj dX0_init_1 tm_0_3 (Nat.le_of_ble_eq_true rfl) ?_
  refine e_aload_n dX0_init_4 rfl ?_
  refine e_bipush 6 dX0_init_5 rfl ?_
  refine k_newa 14 6 hh dX0_init_7 rfl (by decide) (by decide) (Nat.le_of_ble_eq_true rfl) (Nat.le_of_ble_eq_true rfl) (Nat.le_of_ble_eq_true rfl) (fun h hh => ?_)
  have hh : hp h B P [(0, 0, 0, [], [], []), (14, 6, 0, [], [], [])] := hh
  refine k_putR (q := 0) hh dX0_init_9 tf_0_9 rfl rfl (Or.inr ⟨_, rfl⟩) (Or.inr ⟨rfl, rfl⟩) (fun h hh => ?_)
  have hh : hp h B P [(0, 0, 0, [], [], [some (P.length + 1)]), (14, 6, 0, [], [], [])] := hh
  refine e_aload_n dX0_init_12 rfl ?_
  refine e_bipush 6 dX0_init_13 rfl ?_
  refine k_newa 14 6 hh dX0_init_15 rfl (by decide) (by decide) (Nat.le_of_ble_eq_true rfl) (Nat.le_of_ble_eq_true rfl) (Nat.le_of_ble_eq_true rfl) (fun h hh => ?_)
  have hh : hp h B P [(0, 0, 0, [], [], [some (P.length + 1)]), (14, 6, 0, [], [], []), (14, 6, 0, [], [], [])] := hh
  refine k_putR (q := 0) hh dX0_init_17 tf_0_15 rfl rfl (Or.inr ⟨_, rfl⟩) (Or.inr ⟨rfl, rfl⟩) (fun h hh => ?_)
  have hh : hp h B P [(0, 0, 0, [], [], [some (P.length + 1), some (P.length + 2)]), (14, 6, 0, [], [], []), (14, 6, 0, [], [], [])] := hh
  refine e_aload_n dX0_init_20 rfl ?_
  refine e_bipush 6 dX0_init_21 rfl ?_
  refine k_newa 14 6 hh dX0_init_23 rfl (by decide) (by decide) (Nat.le_of_ble_eq_true rfl) (Nat.le_of_ble_eq_true rfl) (Nat.le_of_ble_eq_true rfl) (fun h hh => ?_)
  have hh : hp h B P [(0, 0, 0, [], [], [some (P.length + 1), some (P.length + 2)]), (14, 6, 0, [], [], []), (14, 6, 0, [], [], []), (14, 6, 0, [], [], [])] := hh
  refine k_putR (q := 0) hh dX0_init_25 tf_0_18 rfl rfl (Or.inr ⟨_, rfl⟩) (Or.inr ⟨rfl, rfl⟩) (fun h hh => ?_)
  have hh : hp h B P [(0, 0, 0, [], [], [some (P.length + 1), some (P.length + 2), some (P.length + 3)]), (14, 6, 0, [], [], []), (14, 6, 0, [], [], []), (14, 6, 0, [], [], [])] := hh
  refine e_aload_n dX0_init_28 rfl ?_
  refine e_bipush 6 dX0_init_29 rfl ?_
  refine k_newa 14 6 hh dX0_init_31 rfl (by decide) (by decide) (Nat.le_of_ble_eq_true rfl) (Nat.le_of_ble_eq_true rfl) (Nat.le_of_ble_eq_true rfl) (fun h hh => ?_)
  have hh : hp h B P [(0, 0, 0, [], [], [some (P.length + 1), some (P.length + 2), some (P.length + 3)]), (14, 6, 0, [], [], []), (14, 6, 0, [], [], []), (14, 6, 0, [], [], []), (14, 6, 0, [], [], [])] := hh
  refine k_putR (q := 0) hh dX0_init_33 tf_0_21 rfl rfl (Or.inr ⟨_, rfl⟩) (Or.inr ⟨rfl, rfl⟩) (fun h hh => ?_)
  have hh : hp h B P [(0, 0, 0, [], [], [some (P.length + 1), some (P.length + 2), some (P.length + 3), some (P.length + 4)]), (14, 6, 0, [], [], []), (14, 6, 0, [], [], []), (14, 6, 0, [], [], []), (14, 6, 0, [], [], [])] := hh
  refine e_aload_n dX0_init_36 rfl ?_
  refine e_bipush 6 dX0_init_37 rfl ?_
  refine k_newa 14 6 hh dX0_init_39 rfl (by decide) (by decide) (Nat.le_of_ble_eq_true rfl) (Nat.le_of_ble_eq_true rfl) (Nat.le_of_ble_eq_true rfl) (fun h hh => ?_)
  have hh : hp h B P [(0, 0, 0, [], [], [some (P.length + 1), some (P.length + 2), some (P.length + 3), some (P.length + 4)]), (14, 6, 0, [], [], []), (14, 6, 0, [], [], []), (14, 6, 0, [], [], []), (14, 6, 0, [], [], []), (14, 6, 0, [], [], [])] := hh
  refine k_putR (q := 0) hh dX0_init_41 tf_0_24 rfl rfl (Or.inr ⟨_, rfl⟩) (Or.inr ⟨rfl, rfl⟩) (fun h hh => ?_)
  have hh : hp h B P [(0, 0, 0, [], [], [some (P.length + 1), some (P.length + 2), some (P.length + 3), some (P.length + 4), some (P.length + 5)]), (14, 6, 0, [], [], []), (14, 6, 0, [], [], []), (14, 6, 0, [], [], []), (14, 6, 0, [], [], []), (14, 6, 0, [], [], [])] := hh
  refine e_aload_n dX0_init_44 rfl ?_
  refine e_iconst 0 dX0_init_45 rfl ?_
  refine k_putI (q := 0) hh dX0_init_46 tf_0_27 rfl rfl (Or.inl rfl) (fun h hh => ?_)
  have hh : hp h B P [(0, 0, 0, [0, 0, 0, 0, 0, 0], [], [some (P.length + 1), some (P.length + 2), some (P.length + 3), some (P.length + 4), some (P.length + 5)]), (14, 6, 0, [], [], []), (14, 6, 0, [], [], []), (14, 6, 0, [], [], []), (14, 6, 0, [], [], []), (14, 6, 0, [], [], [])] := hh
  refine e_aload_n dX0_init_49 rfl ?_
  refine k_getR (q := 0) hh dX0_init_50 tf_0_24 rfl rfl rfl ?_
  refine e_iconst (-1) dX0_init_53 rfl ?_
  refine k_fill (q := 5) hh dX0_init_54 tm_0_31 (Nat.le_of_ble_eq_true rfl) rfl (by decide) (Nat.le_of_ble_eq_true rfl) (Nat.le_of_ble_eq_true rfl) (fun h hh => ?_)
  have hh : hp h B P [(0, 0, 0, [0, 0, 0, 0, 0, 0], [], [some (P.length + 1), some (P.length + 2), some (P.length + 3), some (P.length + 4), some (P.length + 5)]), (14, 6, 0, [], [], []), (14, 6, 0, [], [], []), (14, 6, 0, [], [], []), (14, 6, 0, [], [], []), (14, 6, (-1), [], [], [])] := hh
  exact e_vret dX0_init_57 rfl ⟨rfl, kq _ hh⟩
def R_X2_init (p : Nat) : List mCe := [(2, 0, 0, [0, 0, 0, 0, 0, 0], [], [some (p + 1), some (p + 7), some (p + 13), some (p + 14), some (p + 15)]), (0, 0, 0, [0, 0, 0, 0, 0, 0], [], [some (p + 2), some (p + 3), some (p + 4), some (p + 5), some (p + 6)]), (14, 6, 0, [], [], []), (14, 6, 0, [], [], []), (14, 6, 0, [], [], []), (14, 6, 0, [], [], []), (14, 6, (-1), [], [], []), (0, 0, 0, [0, 0, 0, 0, 0, 0], [], [some (p + 8), some (p + 9), some (p + 10), some (p + 11), some (p + 12)]), (14, 6, 0, [], [], []), (14, 6, 0, [], [], []), (14, 6, 0, [], [], []), (14, 6, 0, [], [], []), (14, 6, (-1), [], [], []), (14, 6, 0, [], [], []), (14, 6, 0, [], [], []), (14, 6, 0, [], [], [])]
set_option maxHeartbeats 4000000 in
set_option maxRecDepth 20000 in
theorem ko_X2_init (ad : mA) (d B : Nat) : mKo ad (d + 3) B M_X2_init 2 15 90 R_X2_init := by
  intro P h Q hh kq
  refine ⟨Nat.le_of_ble_eq_true rfl, ?_⟩
  show mEv _ _ _ _ _ _ _ 0 [some (.ref (B + (P.length + 0)))] [] _ _
  refine e_aload_n dX2_init_0 rfl ?_
  refine e_obj dX2_init_1 tm_2_3 (Nat.le_of_ble_eq_true rfl) ?_
  refine e_aload_n dX2_init_4 rfl ?_
  refine k_new hh dX2_init_5 tc_2_9 (Nat.le_of_ble_eq_true rfl) (Nat.le_of_ble_eq_true rfl) (fun h hh => ?_)
  have hh : hp h B P [(2, 0, 0, [], [], []), (0, 0, 0, [], [], [])] := hh
  refine e_dup dX2_init_8 rfl ?_
  refine k_ctor hh dX2_init_9 (Or.inl tm_2_11) rfl (Nat.le_of_ble_eq_true rfl) (Nat.le_of_ble_eq_true rfl) (Nat.le_of_ble_eq_true rfl) (ko_X0_init ad _ B) (fun h hh => ?_)
  have hh : hp h B P [(2, 0, 0, [], [], []), (0, 0, 0, [0, 0, 0, 0, 0, 0], [], [some (P.length + 2), some (P.length + 3), some (P.length + 4), some (P.length + 5), some (P.length + 6)]), (14, 6, 0, [], [], []), (14, 6, 0, [], [], []), (14, 6, 0, [], [], []), (14, 6, 0, [], [], []), (14, 6, (-1), [], [], [])] := hh
  refine k_putR (q := 0) hh dX2_init_12 tf_2_12 rfl rfl (Or.inl ⟨_, rfl⟩) (Or.inr ⟨rfl, rfl⟩) (fun h hh => ?_)
  have hh : hp h B P [(2, 0, 0, [], [], [some (P.length + 1)]), (0, 0, 0, [0, 0, 0, 0, 0, 0], [], [some (P.length + 2), some (P.length + 3), some (P.length + 4), some (P.length + 5), some (P.length + 6)]), (14, 6, 0, [], [], []), (14, 6, 0, [], [], []), (14, 6, 0, [], [], []), (14, 6, 0, [], [], []), (14, 6, (-1), [], [], [])] := hh
  refine e_aload_n dX2_init_15 rfl ?_
  refine k_new hh dX2_init_16 tc_2_9 (Nat.le_of_ble_eq_true rfl) (Nat.le_of_ble_eq_true rfl) (fun h hh => ?_)
  have hh : hp h B P [(2, 0, 0, [], [], [some (P.length + 1)]), (0, 0, 0, [0, 0, 0, 0, 0, 0], [], [some (P.length + 2), some (P.length + 3), some (P.length + 4), some (P.length + 5), some (P.length + 6)]), (14, 6, 0, [], [], []), (14, 6, 0, [], [], []), (14, 6, 0, [], [], []), (14, 6, 0, [], [], []), (14, 6, (-1), [], [], []), (0, 0, 0, [], [], [])] := hh
  refine e_dup dX2_init_19 rfl ?_
  refine k_ctor hh dX2_init_20 (Or.inl tm_2_11) rfl (Nat.le_of_ble_eq_true rfl) (Nat.le_of_ble_eq_true rfl) (Nat.le_of_ble_eq_true rfl) (ko_X0_init ad _ B) (fun h hh => ?_)
  have hh : hp h B P [(2, 0, 0, [], [], [some (P.length + 1)]), (0, 0, 0, [0, 0, 0, 0, 0, 0], [], [some (P.length + 2), some (P.length + 3), some (P.length + 4), some (P.length + 5), some (P.length + 6)]), (14, 6, 0, [], [], []), (14, 6, 0, [], [], []), (14, 6, 0, [], [], []), (14, 6, 0, [], [], []), (14, 6, (-1), [], [], []), (0, 0, 0, [0, 0, 0, 0, 0, 0], [], [some (P.length + 8), some (P.length + 9), some (P.length + 10), some (P.length + 11), some (P.length + 12)]), (14, 6, 0, [], [], []), (14, 6, 0, [], [], []), (14, 6, 0, [], [], []), (14, 6, 0, [], [], []), (14, 6, (-1), [], [], [])] := hh
  refine k_putR (q := 0) hh dX2_init_23 tf_2_18 rfl rfl (Or.inl ⟨_, rfl⟩) (Or.inr ⟨rfl, rfl⟩) (fun h hh => ?_)
  have hh : hp h B P [(2, 0, 0, [], [], [some (P.length + 1), some (P.length + 7)]), (0, 0, 0, [0, 0, 0, 0, 0, 0], [], [some (P.length + 2), some (P.length + 3), some (P.length + 4), some (P.length + 5), some (P.length + 6)]), (14, 6, 0, [], [], []), (14, 6, 0, [], [], []), (14, 6, 0, [], [], []), (14, 6, 0, [], [], []), (14, 6, (-1), [], [], []), (0, 0, 0, [0, 0, 0, 0, 0, 0], [], [some (P.length + 8), some (P.length + 9), some (P.length + 10), some (P.length + 11), some (P.length + 12)]), (14, 6, 0, [], [], []), (14, 6, 0, [], [], []), (14, 6, 0, [], [], []), (14, 6, 0, [], [], []), (14, 6, (-1), [], [], [])] := hh
  refine e_aload_n dX2_init_26 rfl ?_
  refine e_bipush 6 dX2_init_27 rfl ?_
  refine k_newa 14 6 hh dX2_init_29 rfl (by decide) (by decide) (Nat.le_of_ble_eq_true rfl) (Nat.le_of_ble_eq_true rfl) (Nat.le_of_ble_eq_true rfl) (fun h hh => ?_)
  have hh : hp h B P [(2, 0, 0, [], [], [some (P.length + 1), some (P.length + 7)]), (0, 0, 0, [0, 0, 0, 0, 0, 0], [], [some (P.length + 2), some (P.length + 3), some (P.length + 4), some (P.length + 5), some (P.length + 6)]), (14, 6, 0, [], [], []), (14, 6, 0, [], [], []), (14, 6, 0, [], [], []), (14, 6, 0, [], [], []), (14, 6, (-1), [], [], []), (0, 0, 0, [0, 0, 0, 0, 0, 0], [], [some (P.length + 8), some (P.length + 9), some (P.length + 10), some (P.length + 11), some (P.length + 12)]), (14, 6, 0, [], [], []), (14, 6, 0, [], [], []), (14, 6, 0, [], [], []), (14, 6, 0, [], [], []), (14, 6, (-1), [], [], []), (14, 6, 0, [], [], [])] := hh
  refine k_putR (q := 0) hh dX2_init_31 tf_2_21 rfl rfl (Or.inr ⟨_, rfl⟩) (Or.inr ⟨rfl, rfl⟩) (fun h hh => ?_)
  have hh : hp h B P [(2, 0, 0, [], [], [some (P.length + 1), some (P.length + 7), some (P.length + 13)]), (0, 0, 0, [0, 0, 0, 0, 0, 0], [], [some (P.length + 2), some (P.length + 3), some (P.length + 4), some (P.length + 5), some (P.length + 6)]), (14, 6, 0, [], [], []), (14, 6, 0, [], [], []), (14, 6, 0, [], [], []), (14, 6, 0, [], [], []), (14, 6, (-1), [], [], []), (0, 0, 0, [0, 0, 0, 0, 0, 0], [], [some (P.length + 8), some (P.length + 9), some (P.length + 10), some (P.length + 11), some (P.length + 12)]), (14, 6, 0, [], [], []), (14, 6, 0, [], [], []), (14, 6, 0, [], [], []), (14, 6, 0, [], [], []), (14, 6, (-1), [], [], []), (14, 6, 0, [], [], [])] := hh
  refine e_aload_n dX2_init_34 rfl ?_
  refine e_bipush 6 dX2_init_35 rfl ?_
  refine k_newa 14 6 hh dX2_init_37 rfl (by decide) (by decide) (Nat.le_of_ble_eq_true rfl) (Nat.le_of_ble_eq_true rfl) (Nat.le_of_ble_eq_true rfl) (fun h hh => ?_)
  have hh : hp h B P [(2, 0, 0, [], [], [some (P.length + 1), some (P.length + 7), some (P.length + 13)]), (0, 0, 0, [0, 0, 0, 0, 0, 0], [], [some (P.length + 2), some (P.length + 3), some (P.length + 4), some (P.length + 5), some (P.length + 6)]), (14, 6, 0, [], [], []), (14, 6, 0, [], [], []), (14, 6, 0, [], [], []), (14, 6, 0, [], [], []), (14, 6, (-1), [], [], []), (0, 0, 0, [0, 0, 0, 0, 0, 0], [], [some (P.length + 8), some (P.length + 9), some (P.length + 10), some (P.length + 11), some (P.length + 12)]), (14, 6, 0, [], [], []), (14, 6, 0, [], [], []), (14, 6, 0, [], [], []), (14, 6, 0, [], [], []), (14, 6, (-1), [], [], []), (14, 6, 0, [], [], []), (14, 6, 0, [], [], [])] := hh
  refine k_putR (q := 0) hh dX2_init_39 tf_2_25 rfl rfl (Or.inr ⟨_, rfl⟩) (Or.inr ⟨rfl, rfl⟩) (fun h hh => ?_)
  have hh : hp h B P [(2, 0, 0, [], [], [some (P.length + 1), some (P.length + 7), some (P.length + 13), some (P.length + 14)]), (0, 0, 0, [0, 0, 0, 0, 0, 0], [], [some (P.length + 2), some (P.length + 3), some (P.length + 4), some (P.length + 5), some (P.length + 6)]), (14, 6, 0, [], [], []), (14, 6, 0, [], [], []), (14, 6, 0, [], [], []), (14, 6, 0, [], [], []), (14, 6, (-1), [], [], []), (0, 0, 0, [0, 0, 0, 0, 0, 0], [], [some (P.length + 8), some (P.length + 9), some (P.length + 10), some (P.length + 11), some (P.length + 12)]), (14, 6, 0, [], [], []), (14, 6, 0, [], [], []), (14, 6, 0, [], [], []), (14, 6, 0, [], [], []), (14, 6, (-1), [], [], []), (14, 6, 0, [], [], []), (14, 6, 0, [], [], [])] := hh
  refine e_aload_n dX2_init_42 rfl ?_
  refine e_bipush 6 dX2_init_43 rfl ?_
  refine k_newa 14 6 hh dX2_init_45 rfl (by decide) (by decide) (Nat.le_of_ble_eq_true rfl) (Nat.le_of_ble_eq_true rfl) (Nat.le_of_ble_eq_true rfl) (fun h hh => ?_)
  have hh : hp h B P [(2, 0, 0, [], [], [some (P.length + 1), some (P.length + 7), some (P.length + 13), some (P.length + 14)]), (0, 0, 0, [0, 0, 0, 0, 0, 0], [], [some (P.length + 2), some (P.length + 3), some (P.length + 4), some (P.length + 5), some (P.length + 6)]), (14, 6, 0, [], [], []), (14, 6, 0, [], [], []), (14, 6, 0, [], [], []), (14, 6, 0, [], [], []), (14, 6, (-1), [], [], []), (0, 0, 0, [0, 0, 0, 0, 0, 0], [], [some (P.length + 8), some (P.length + 9), some (P.length + 10), some (P.length + 11), some (P.length + 12)]), (14, 6, 0, [], [], []), (14, 6, 0, [], [], []), (14, 6, 0, [], [], []), (14, 6, 0, [], [], []), (14, 6, (-1), [], [], []), (14, 6, 0, [], [], []), (14, 6, 0, [], [], []), (14, 6, 0, [], [], [])] := hh
  refine k_putR (q := 0) hh dX2_init_47 tf_2_28 rfl rfl (Or.inr ⟨_, rfl⟩) (Or.inr ⟨rfl, rfl⟩) (fun h hh => ?_)
  have hh : hp h B P [(2, 0, 0, [], [], [some (P.length + 1), some (P.length + 7), some (P.length + 13), some (P.length + 14), some (P.length + 15)]), (0, 0, 0, [0, 0, 0, 0, 0, 0], [], [some (P.length + 2), some (P.length + 3), some (P.length + 4), some (P.length + 5), some (P.length + 6)]), (14, 6, 0, [], [], []), (14, 6, 0, [], [], []), (14, 6, 0, [], [], []), (14, 6, 0, [], [], []), (14, 6, (-1), [], [], []), (0, 0, 0, [0, 0, 0, 0, 0, 0], [], [some (P.length + 8), some (P.length + 9), some (P.length + 10), some (P.length + 11), some (P.length + 12)]), (14, 6, 0, [], [], []), (14, 6, 0, [], [], []), (14, 6, 0, [], [], []), (14, 6, 0, [], [], []), (14, 6, (-1), [], [], []), (14, 6, 0, [], [], []), (14, 6, 0, [], [], []), (14, 6, 0, [], [], [])] := hh
  refine e_aload_n dX2_init_50 rfl ?_
  refine e_iconst 0 dX2_init_51 rfl ?_
  refine k_putI (q := 0) hh dX2_init_52 tf_2_31 rfl rfl (Or.inl rfl) (fun h hh => ?_)
  have hh : hp h B P [(2, 0, 0, [0, 0, 0, 0, 0, 0], [], [some (P.length + 1), some (P.length + 7), some (P.length + 13), some (P.length + 14), some (P.length + 15)]), (0, 0, 0, [0, 0, 0, 0, 0, 0], [], [some (P.length + 2), some (P.length + 3), some (P.length + 4), some (P.length + 5), some (P.length + 6)]), (14, 6, 0, [], [], []), (14, 6, 0, [], [], []), (14, 6, 0, [], [], []), (14, 6, 0, [], [], []), (14, 6, (-1), [], [], []), (0, 0, 0, [0, 0, 0, 0, 0, 0], [], [some (P.length + 8), some (P.length + 9), some (P.length + 10), some (P.length + 11), some (P.length + 12)]), (14, 6, 0, [], [], []), (14, 6, 0, [], [], []), (14, 6, 0, [], [], []), (14, 6, 0, [], [], []), (14, 6, (-1), [], [], []), (14, 6, 0, [], [], []), (14, 6, 0, [], [], []), (14, 6, 0, [], [], [])] := hh
  exact e_vret dX2_init_55 rfl ⟨rfl, kq _ hh⟩
def R_X10_init (p : Nat) : List mCe := [(10, 0, 0, [0, 0, 0, 0], [], [some (p + 1), some (p + 2), some (p + 3)]), (14, 40, 0, [], [], []), (14, 40, 0, [], [], []), (14, 40, 0, [], [], [])]
set_option maxHeartbeats 4000000 in
set_option maxRecDepth 20000 in
theorem ko_X10_init (ad : mA) (d B : Nat) : mKo ad (d + 1) B M_X10_init 10 3 120 R_X10_init := by
  intro P h Q hh kq
  refine ⟨Nat.le_of_ble_eq_true rfl, ?_⟩
  show mEv _ _ _ _ _ _ _ 0 [some (.ref (B + (P.length + 0)))] [] _ _
  refine e_aload_n dX10_init_0 rfl ?_
  refine e_obj dX10_init_1 tm_10_3 (Nat.le_of_ble_eq_true rfl) ?_
  refine e_aload_n dX10_init_4 rfl ?_
  refine e_bipush 40 dX10_init_5 rfl ?_
  refine k_newa 14 40 hh dX10_init_7 rfl (by decide) (by decide) (Nat.le_of_ble_eq_true rfl) (Nat.le_of_ble_eq_true rfl) (Nat.le_of_ble_eq_true rfl) (fun h hh => ?_)
  have hh : hp h B P [(10, 0, 0, [], [], []), (14, 40, 0, [], [], [])] := hh
  refine k_putR (q := 0) hh dX10_init_9 tf_10_9 rfl rfl (Or.inr ⟨_, rfl⟩) (Or.inr ⟨rfl, rfl⟩) (fun h hh => ?_)
  have hh : hp h B P [(10, 0, 0, [], [], [some (P.length + 1)]), (14, 40, 0, [], [], [])] := hh
  refine e_aload_n dX10_init_12 rfl ?_
  refine e_bipush 40 dX10_init_13 rfl ?_
  refine k_newa 14 40 hh dX10_init_15 rfl (by decide) (by decide) (Nat.le_of_ble_eq_true rfl) (Nat.le_of_ble_eq_true rfl) (Nat.le_of_ble_eq_true rfl) (fun h hh => ?_)
  have hh : hp h B P [(10, 0, 0, [], [], [some (P.length + 1)]), (14, 40, 0, [], [], []), (14, 40, 0, [], [], [])] := hh
  refine k_putR (q := 0) hh dX10_init_17 tf_10_15 rfl rfl (Or.inr ⟨_, rfl⟩) (Or.inr ⟨rfl, rfl⟩) (fun h hh => ?_)
  have hh : hp h B P [(10, 0, 0, [], [], [some (P.length + 1), some (P.length + 2)]), (14, 40, 0, [], [], []), (14, 40, 0, [], [], [])] := hh
  refine e_aload_n dX10_init_20 rfl ?_
  refine e_bipush 40 dX10_init_21 rfl ?_
  refine k_newa 14 40 hh dX10_init_23 rfl (by decide) (by decide) (Nat.le_of_ble_eq_true rfl) (Nat.le_of_ble_eq_true rfl) (Nat.le_of_ble_eq_true rfl) (fun h hh => ?_)
  have hh : hp h B P [(10, 0, 0, [], [], [some (P.length + 1), some (P.length + 2)]), (14, 40, 0, [], [], []), (14, 40, 0, [], [], []), (14, 40, 0, [], [], [])] := hh
  refine k_putR (q := 0) hh dX10_init_25 tf_10_18 rfl rfl (Or.inr ⟨_, rfl⟩) (Or.inr ⟨rfl, rfl⟩) (fun h hh => ?_)
  have hh : hp h B P [(10, 0, 0, [], [], [some (P.length + 1), some (P.length + 2), some (P.length + 3)]), (14, 40, 0, [], [], []), (14, 40, 0, [], [], []), (14, 40, 0, [], [], [])] := hh
  refine e_aload_n dX10_init_28 rfl ?_
  refine e_iconst 0 dX10_init_29 rfl ?_
  refine k_putI (q := 0) hh dX10_init_30 tf_10_21 rfl rfl (Or.inl rfl) (fun h hh => ?_)
  have hh : hp h B P [(10, 0, 0, [0, 0, 0, 0], [], [some (P.length + 1), some (P.length + 2), some (P.length + 3)]), (14, 40, 0, [], [], []), (14, 40, 0, [], [], []), (14, 40, 0, [], [], [])] := hh
  exact e_vret dX10_init_33 rfl ⟨rfl, kq _ hh⟩
def R_X1_init (p : Nat) : List mCe := [(1, 0, 0, [0, 0, 0, 0], [], [some (p + 1), some (p + 2), some (p + 3)]), (14, 8, 0, [], [], []), (14, 8, 0, [], [], []), (14, 8, 0, [], [], [])]
set_option maxHeartbeats 4000000 in
set_option maxRecDepth 20000 in
theorem ko_X1_init (ad : mA) (d B : Nat) : mKo ad (d + 1) B M_X1_init 1 3 24 R_X1_init := by
  intro P h Q hh kq
  refine ⟨Nat.le_of_ble_eq_true rfl, ?_⟩
  show mEv _ _ _ _ _ _ _ 0 [some (.ref (B + (P.length + 0)))] [] _ _
  refine e_aload_n dX1_init_0 rfl ?_
  refine e_obj dX1_init_1 tm_1_3 (Nat.le_of_ble_eq_true rfl) ?_
  refine e_aload_n dX1_init_4 rfl ?_
  refine e_bipush 8 dX1_init_5 rfl ?_
  refine k_newa 14 8 hh dX1_init_7 rfl (by decide) (by decide) (Nat.le_of_ble_eq_true rfl) (Nat.le_of_ble_eq_true rfl) (Nat.le_of_ble_eq_true rfl) (fun h hh => ?_)
  have hh : hp h B P [(1, 0, 0, [], [], []), (14, 8, 0, [], [], [])] := hh
  refine k_putR (q := 0) hh dX1_init_9 tf_1_9 rfl rfl (Or.inr ⟨_, rfl⟩) (Or.inr ⟨rfl, rfl⟩) (fun h hh => ?_)
  have hh : hp h B P [(1, 0, 0, [], [], [some (P.length + 1)]), (14, 8, 0, [], [], [])] := hh
  refine e_aload_n dX1_init_12 rfl ?_
  refine e_bipush 8 dX1_init_13 rfl ?_
  refine k_newa 14 8 hh dX1_init_15 rfl (by decide) (by decide) (Nat.le_of_ble_eq_true rfl) (Nat.le_of_ble_eq_true rfl) (Nat.le_of_ble_eq_true rfl) (fun h hh => ?_)
  have hh : hp h B P [(1, 0, 0, [], [], [some (P.length + 1)]), (14, 8, 0, [], [], []), (14, 8, 0, [], [], [])] := hh
  refine k_putR (q := 0) hh dX1_init_17 tf_1_15 rfl rfl (Or.inr ⟨_, rfl⟩) (Or.inr ⟨rfl, rfl⟩) (fun h hh => ?_)
  have hh : hp h B P [(1, 0, 0, [], [], [some (P.length + 1), some (P.length + 2)]), (14, 8, 0, [], [], []), (14, 8, 0, [], [], [])] := hh
  refine e_aload_n dX1_init_20 rfl ?_
  refine e_bipush 8 dX1_init_21 rfl ?_
  refine k_newa 14 8 hh dX1_init_23 rfl (by decide) (by decide) (Nat.le_of_ble_eq_true rfl) (Nat.le_of_ble_eq_true rfl) (Nat.le_of_ble_eq_true rfl) (fun h hh => ?_)
  have hh : hp h B P [(1, 0, 0, [], [], [some (P.length + 1), some (P.length + 2)]), (14, 8, 0, [], [], []), (14, 8, 0, [], [], []), (14, 8, 0, [], [], [])] := hh
  refine k_putR (q := 0) hh dX1_init_25 tf_1_18 rfl rfl (Or.inr ⟨_, rfl⟩) (Or.inr ⟨rfl, rfl⟩) (fun h hh => ?_)
  have hh : hp h B P [(1, 0, 0, [], [], [some (P.length + 1), some (P.length + 2), some (P.length + 3)]), (14, 8, 0, [], [], []), (14, 8, 0, [], [], []), (14, 8, 0, [], [], [])] := hh
  refine e_aload_n dX1_init_28 rfl ?_
  refine e_iconst 0 dX1_init_29 rfl ?_
  refine k_putI (q := 0) hh dX1_init_30 tf_1_21 rfl rfl (Or.inl rfl) (fun h hh => ?_)
  have hh : hp h B P [(1, 0, 0, [0, 0, 0, 0], [], [some (P.length + 1), some (P.length + 2), some (P.length + 3)]), (14, 8, 0, [], [], []), (14, 8, 0, [], [], []), (14, 8, 0, [], [], [])] := hh
  exact e_vret dX1_init_33 rfl ⟨rfl, kq _ hh⟩
def R_X4_init (p : Nat) : List mCe := [(4, 0, 0, [0, 0, 0, 0, 0], [], [some (p + 1), some (p + 2), none, some (p + 3)]), (14, 6, 0, [], [], []), (14, 6, 0, [], [], []), (14, 6, 0, [], [], [])]
set_option maxHeartbeats 4000000 in
set_option maxRecDepth 20000 in
theorem ko_X4_init (ad : mA) (d B : Nat) : mKo ad (d + 1) B M_X4_init 4 3 18 R_X4_init := by
  intro P h Q hh kq
  refine ⟨Nat.le_of_ble_eq_true rfl, ?_⟩
  show mEv _ _ _ _ _ _ _ 0 [some (.ref (B + (P.length + 0)))] [] _ _
  refine e_aload_n dX4_init_0 rfl ?_
  refine e_obj dX4_init_1 tm_4_3 (Nat.le_of_ble_eq_true rfl) ?_
  refine e_aload_n dX4_init_4 rfl ?_
  refine e_bipush 6 dX4_init_5 rfl ?_
  refine k_newa 14 6 hh dX4_init_7 rfl (by decide) (by decide) (Nat.le_of_ble_eq_true rfl) (Nat.le_of_ble_eq_true rfl) (Nat.le_of_ble_eq_true rfl) (fun h hh => ?_)
  have hh : hp h B P [(4, 0, 0, [], [], []), (14, 6, 0, [], [], [])] := hh
  refine k_putR (q := 0) hh dX4_init_9 tf_4_9 rfl rfl (Or.inr ⟨_, rfl⟩) (Or.inr ⟨rfl, rfl⟩) (fun h hh => ?_)
  have hh : hp h B P [(4, 0, 0, [], [], [some (P.length + 1)]), (14, 6, 0, [], [], [])] := hh
  refine e_aload_n dX4_init_12 rfl ?_
  refine e_bipush 6 dX4_init_13 rfl ?_
  refine k_newa 14 6 hh dX4_init_15 rfl (by decide) (by decide) (Nat.le_of_ble_eq_true rfl) (Nat.le_of_ble_eq_true rfl) (Nat.le_of_ble_eq_true rfl) (fun h hh => ?_)
  have hh : hp h B P [(4, 0, 0, [], [], [some (P.length + 1)]), (14, 6, 0, [], [], []), (14, 6, 0, [], [], [])] := hh
  refine k_putR (q := 0) hh dX4_init_17 tf_4_15 rfl rfl (Or.inr ⟨_, rfl⟩) (Or.inr ⟨rfl, rfl⟩) (fun h hh => ?_)
  have hh : hp h B P [(4, 0, 0, [], [], [some (P.length + 1), some (P.length + 2)]), (14, 6, 0, [], [], []), (14, 6, 0, [], [], [])] := hh
  refine e_aload_n dX4_init_20 rfl ?_
  refine e_iconst 0 dX4_init_21 rfl ?_
  refine k_putI (q := 0) hh dX4_init_22 tf_4_18 rfl rfl (Or.inl rfl) (fun h hh => ?_)
  have hh : hp h B P [(4, 0, 0, [0, 0, 0], [], [some (P.length + 1), some (P.length + 2)]), (14, 6, 0, [], [], []), (14, 6, 0, [], [], [])] := hh
  refine e_aload_n dX4_init_25 rfl ?_
  refine e_bipush 6 dX4_init_26 rfl ?_
  refine k_newa 14 6 hh dX4_init_28 rfl (by decide) (by decide) (Nat.le_of_ble_eq_true rfl) (Nat.le_of_ble_eq_true rfl) (Nat.le_of_ble_eq_true rfl) (fun h hh => ?_)
  have hh : hp h B P [(4, 0, 0, [0, 0, 0], [], [some (P.length + 1), some (P.length + 2)]), (14, 6, 0, [], [], []), (14, 6, 0, [], [], []), (14, 6, 0, [], [], [])] := hh
  refine k_putR (q := 0) hh dX4_init_30 tf_4_22 rfl rfl (Or.inr ⟨_, rfl⟩) (Or.inr ⟨rfl, rfl⟩) (fun h hh => ?_)
  have hh : hp h B P [(4, 0, 0, [0, 0, 0], [], [some (P.length + 1), some (P.length + 2), none, some (P.length + 3)]), (14, 6, 0, [], [], []), (14, 6, 0, [], [], []), (14, 6, 0, [], [], [])] := hh
  refine e_aload_n dX4_init_33 rfl ?_
  refine e_iconst 0 dX4_init_34 rfl ?_
  refine k_putI (q := 0) hh dX4_init_35 tf_4_25 rfl rfl (Or.inl rfl) (fun h hh => ?_)
  have hh : hp h B P [(4, 0, 0, [0, 0, 0, 0, 0], [], [some (P.length + 1), some (P.length + 2), none, some (P.length + 3)]), (14, 6, 0, [], [], []), (14, 6, 0, [], [], []), (14, 6, 0, [], [], [])] := hh
  exact e_vret dX4_init_38 rfl ⟨rfl, kq _ hh⟩
def R_X9_init (p : Nat) : List mCe := [(9, 0, 0, [0, 0], [], [some (p + 1), none, some (p + 2), some (p + 3), some (p + 4), some (p + 5), some (p + 6)]), (14, 6, 0, [], [], []), (14, 6, 0, [], [], []), (14, 6, 0, [], [], []), (16, 384, 0, [], [], []), (14, 6, 0, [], [], []), (14, 7, 0, [], [], [])]
set_option maxHeartbeats 4000000 in
set_option maxRecDepth 20000 in
theorem ko_X9_init (ad : mA) (d B : Nat) : mKo ad (d + 1) B M_X9_init 9 6 415 R_X9_init := by
  intro P h Q hh kq
  refine ⟨Nat.le_of_ble_eq_true rfl, ?_⟩
  show mEv _ _ _ _ _ _ _ 0 [some (.ref (B + (P.length + 0)))] [] _ _
  refine e_aload_n dX9_init_0 rfl ?_
  refine e_obj dX9_init_1 tm_9_3 (Nat.le_of_ble_eq_true rfl) ?_
  refine e_aload_n dX9_init_4 rfl ?_
  refine e_bipush 6 dX9_init_5 rfl ?_
  refine k_newa 14 6 hh dX9_init_7 rfl (by decide) (by decide) (Nat.le_of_ble_eq_true rfl) (Nat.le_of_ble_eq_true rfl) (Nat.le_of_ble_eq_true rfl) (fun h hh => ?_)
  have hh : hp h B P [(9, 0, 0, [], [], []), (14, 6, 0, [], [], [])] := hh
  refine k_putR (q := 0) hh dX9_init_9 tf_9_9 rfl rfl (Or.inr ⟨_, rfl⟩) (Or.inr ⟨rfl, rfl⟩) (fun h hh => ?_)
  have hh : hp h B P [(9, 0, 0, [], [], [some (P.length + 1)]), (14, 6, 0, [], [], [])] := hh
  refine e_aload_n dX9_init_12 rfl ?_
  refine e_iconst 0 dX9_init_13 rfl ?_
  refine k_putI (q := 0) hh dX9_init_14 tf_9_15 rfl rfl (Or.inl rfl) (fun h hh => ?_)
  have hh : hp h B P [(9, 0, 0, [0, 0], [], [some (P.length + 1)]), (14, 6, 0, [], [], [])] := hh
  refine e_aload_n dX9_init_17 rfl ?_
  refine e_bipush 6 dX9_init_18 rfl ?_
  refine k_newa 14 6 hh dX9_init_20 rfl (by decide) (by decide) (Nat.le_of_ble_eq_true rfl) (Nat.le_of_ble_eq_true rfl) (Nat.le_of_ble_eq_true rfl) (fun h hh => ?_)
  have hh : hp h B P [(9, 0, 0, [0, 0], [], [some (P.length + 1)]), (14, 6, 0, [], [], []), (14, 6, 0, [], [], [])] := hh
  refine k_putR (q := 0) hh dX9_init_22 tf_9_19 rfl rfl (Or.inr ⟨_, rfl⟩) (Or.inr ⟨rfl, rfl⟩) (fun h hh => ?_)
  have hh : hp h B P [(9, 0, 0, [0, 0], [], [some (P.length + 1), none, some (P.length + 2)]), (14, 6, 0, [], [], []), (14, 6, 0, [], [], [])] := hh
  refine e_aload_n dX9_init_25 rfl ?_
  refine e_bipush 6 dX9_init_26 rfl ?_
  refine k_newa 14 6 hh dX9_init_28 rfl (by decide) (by decide) (Nat.le_of_ble_eq_true rfl) (Nat.le_of_ble_eq_true rfl) (Nat.le_of_ble_eq_true rfl) (fun h hh => ?_)
  have hh : hp h B P [(9, 0, 0, [0, 0], [], [some (P.length + 1), none, some (P.length + 2)]), (14, 6, 0, [], [], []), (14, 6, 0, [], [], []), (14, 6, 0, [], [], [])] := hh
  refine k_putR (q := 0) hh dX9_init_30 tf_9_22 rfl rfl (Or.inr ⟨_, rfl⟩) (Or.inr ⟨rfl, rfl⟩) (fun h hh => ?_)
  have hh : hp h B P [(9, 0, 0, [0, 0], [], [some (P.length + 1), none, some (P.length + 2), some (P.length + 3)]), (14, 6, 0, [], [], []), (14, 6, 0, [], [], []), (14, 6, 0, [], [], [])] := hh
  refine e_aload_n dX9_init_33 rfl ?_
  refine e_sipush 384 dX9_init_34 rfl ?_
  refine k_newa 16 384 hh dX9_init_37 rfl (by decide) (by decide) (Nat.le_of_ble_eq_true rfl) (Nat.le_of_ble_eq_true rfl) (Nat.le_of_ble_eq_true rfl) (fun h hh => ?_)
  have hh : hp h B P [(9, 0, 0, [0, 0], [], [some (P.length + 1), none, some (P.length + 2), some (P.length + 3)]), (14, 6, 0, [], [], []), (14, 6, 0, [], [], []), (14, 6, 0, [], [], []), (16, 384, 0, [], [], [])] := hh
  refine k_putR (q := 0) hh dX9_init_39 tf_9_25 rfl rfl (Or.inr ⟨_, rfl⟩) (Or.inr ⟨rfl, rfl⟩) (fun h hh => ?_)
  have hh : hp h B P [(9, 0, 0, [0, 0], [], [some (P.length + 1), none, some (P.length + 2), some (P.length + 3), some (P.length + 4)]), (14, 6, 0, [], [], []), (14, 6, 0, [], [], []), (14, 6, 0, [], [], []), (16, 384, 0, [], [], [])] := hh
  refine e_aload_n dX9_init_42 rfl ?_
  refine e_bipush 6 dX9_init_43 rfl ?_
  refine k_newa 14 6 hh dX9_init_45 rfl (by decide) (by decide) (Nat.le_of_ble_eq_true rfl) (Nat.le_of_ble_eq_true rfl) (Nat.le_of_ble_eq_true rfl) (fun h hh => ?_)
  have hh : hp h B P [(9, 0, 0, [0, 0], [], [some (P.length + 1), none, some (P.length + 2), some (P.length + 3), some (P.length + 4)]), (14, 6, 0, [], [], []), (14, 6, 0, [], [], []), (14, 6, 0, [], [], []), (16, 384, 0, [], [], []), (14, 6, 0, [], [], [])] := hh
  refine k_putR (q := 0) hh dX9_init_47 tf_9_29 rfl rfl (Or.inr ⟨_, rfl⟩) (Or.inr ⟨rfl, rfl⟩) (fun h hh => ?_)
  have hh : hp h B P [(9, 0, 0, [0, 0], [], [some (P.length + 1), none, some (P.length + 2), some (P.length + 3), some (P.length + 4), some (P.length + 5)]), (14, 6, 0, [], [], []), (14, 6, 0, [], [], []), (14, 6, 0, [], [], []), (16, 384, 0, [], [], []), (14, 6, 0, [], [], [])] := hh
  refine e_aload_n dX9_init_50 rfl ?_
  refine e_bipush 7 dX9_init_51 rfl ?_
  refine k_newa 14 7 hh dX9_init_53 rfl (by decide) (by decide) (Nat.le_of_ble_eq_true rfl) (Nat.le_of_ble_eq_true rfl) (Nat.le_of_ble_eq_true rfl) (fun h hh => ?_)
  have hh : hp h B P [(9, 0, 0, [0, 0], [], [some (P.length + 1), none, some (P.length + 2), some (P.length + 3), some (P.length + 4), some (P.length + 5)]), (14, 6, 0, [], [], []), (14, 6, 0, [], [], []), (14, 6, 0, [], [], []), (16, 384, 0, [], [], []), (14, 6, 0, [], [], []), (14, 7, 0, [], [], [])] := hh
  refine k_putR (q := 0) hh dX9_init_55 tf_9_32 rfl rfl (Or.inr ⟨_, rfl⟩) (Or.inr ⟨rfl, rfl⟩) (fun h hh => ?_)
  have hh : hp h B P [(9, 0, 0, [0, 0], [], [some (P.length + 1), none, some (P.length + 2), some (P.length + 3), some (P.length + 4), some (P.length + 5), some (P.length + 6)]), (14, 6, 0, [], [], []), (14, 6, 0, [], [], []), (14, 6, 0, [], [], []), (16, 384, 0, [], [], []), (14, 6, 0, [], [], []), (14, 7, 0, [], [], [])] := hh
  exact e_vret dX9_init_58 rfl ⟨rfl, kq _ hh⟩
def R_X3_init (p : Nat) : List mCe := [(3, 0, 0, [0, 0, 0, 0, 0, 0, 0, 0], [0, 0, 1], [some (p + 1), none, none, none, some (p + 2), some (p + 3)]), (14, 651, 0, [], [], []), (14, 21, 0, [], [], []), (14, 21, 0, [], [], [])]
set_option maxHeartbeats 4000000 in
set_option maxRecDepth 20000 in
theorem ko_X3_init (ad : mA) (d B : Nat) : mKo ad (d + 1) B M_X3_init 3 3 693 R_X3_init := by
  intro P h Q hh kq
  refine ⟨Nat.le_of_ble_eq_true rfl, ?_⟩
  show mEv _ _ _ _ _ _ _ 0 [some (.ref (B + (P.length + 0)))] [] _ _
  refine e_aload_n dX3_init_0 rfl ?_
  refine e_obj dX3_init_1 tm_3_3 (Nat.le_of_ble_eq_true rfl) ?_
  refine e_aload_n dX3_init_4 rfl ?_
  refine e_sipush 651 dX3_init_5 rfl ?_
  refine k_newa 14 651 hh dX3_init_8 rfl (by decide) (by decide) (Nat.le_of_ble_eq_true rfl) (Nat.le_of_ble_eq_true rfl) (Nat.le_of_ble_eq_true rfl) (fun h hh => ?_)
  have hh : hp h B P [(3, 0, 0, [], [], []), (14, 651, 0, [], [], [])] := hh
  refine k_putR (q := 0) hh dX3_init_10 tf_3_11 rfl rfl (Or.inr ⟨_, rfl⟩) (Or.inr ⟨rfl, rfl⟩) (fun h hh => ?_)
  have hh : hp h B P [(3, 0, 0, [], [], [some (P.length + 1)]), (14, 651, 0, [], [], [])] := hh
  refine e_aload_n dX3_init_13 rfl ?_
  refine e_lconst 0 dX3_init_14 rfl ?_
  refine k_putJ (q := 0) hh dX3_init_15 tf_3_15 rfl rfl (Or.inl rfl) (fun h hh => ?_)
  have hh : hp h B P [(3, 0, 0, [], [0, 0], [some (P.length + 1)]), (14, 651, 0, [], [], [])] := hh
  refine e_aload_n dX3_init_18 rfl ?_
  refine e_lconst 1 dX3_init_19 rfl ?_
  refine k_putJ (q := 0) hh dX3_init_20 tf_3_19 rfl rfl (Or.inl rfl) (fun h hh => ?_)
  have hh : hp h B P [(3, 0, 0, [], [0, 0, 1], [some (P.length + 1)]), (14, 651, 0, [], [], [])] := hh
  refine e_aload_n dX3_init_23 rfl ?_
  refine e_iconst 0 dX3_init_24 rfl ?_
  refine k_putZ (q := 0) hh dX3_init_25 tf_3_22 rfl rfl (Or.inl rfl) (Or.inl rfl) (fun h hh => ?_)
  have hh : hp h B P [(3, 0, 0, [0, 0, 0, 0], [0, 0, 1], [some (P.length + 1)]), (14, 651, 0, [], [], [])] := hh
  refine e_aload_n dX3_init_28 rfl ?_
  refine e_bipush 21 dX3_init_29 rfl ?_
  refine k_newa 14 21 hh dX3_init_31 rfl (by decide) (by decide) (Nat.le_of_ble_eq_true rfl) (Nat.le_of_ble_eq_true rfl) (Nat.le_of_ble_eq_true rfl) (fun h hh => ?_)
  have hh : hp h B P [(3, 0, 0, [0, 0, 0, 0], [0, 0, 1], [some (P.length + 1)]), (14, 651, 0, [], [], []), (14, 21, 0, [], [], [])] := hh
  refine k_putR (q := 0) hh dX3_init_33 tf_3_26 rfl rfl (Or.inr ⟨_, rfl⟩) (Or.inr ⟨rfl, rfl⟩) (fun h hh => ?_)
  have hh : hp h B P [(3, 0, 0, [0, 0, 0, 0], [0, 0, 1], [some (P.length + 1), none, none, none, some (P.length + 2)]), (14, 651, 0, [], [], []), (14, 21, 0, [], [], [])] := hh
  refine e_aload_n dX3_init_36 rfl ?_
  refine e_bipush 21 dX3_init_37 rfl ?_
  refine k_newa 14 21 hh dX3_init_39 rfl (by decide) (by decide) (Nat.le_of_ble_eq_true rfl) (Nat.le_of_ble_eq_true rfl) (Nat.le_of_ble_eq_true rfl) (fun h hh => ?_)
  have hh : hp h B P [(3, 0, 0, [0, 0, 0, 0], [0, 0, 1], [some (P.length + 1), none, none, none, some (P.length + 2)]), (14, 651, 0, [], [], []), (14, 21, 0, [], [], []), (14, 21, 0, [], [], [])] := hh
  refine k_putR (q := 0) hh dX3_init_41 tf_3_29 rfl rfl (Or.inr ⟨_, rfl⟩) (Or.inr ⟨rfl, rfl⟩) (fun h hh => ?_)
  have hh : hp h B P [(3, 0, 0, [0, 0, 0, 0], [0, 0, 1], [some (P.length + 1), none, none, none, some (P.length + 2), some (P.length + 3)]), (14, 651, 0, [], [], []), (14, 21, 0, [], [], []), (14, 21, 0, [], [], [])] := hh
  refine e_aload_n dX3_init_44 rfl ?_
  refine e_iconst 0 dX3_init_45 rfl ?_
  refine k_putI (q := 0) hh dX3_init_46 tf_3_32 rfl rfl (Or.inl rfl) (fun h hh => ?_)
  have hh : hp h B P [(3, 0, 0, [0, 0, 0, 0, 0, 0, 0], [0, 0, 1], [some (P.length + 1), none, none, none, some (P.length + 2), some (P.length + 3)]), (14, 651, 0, [], [], []), (14, 21, 0, [], [], []), (14, 21, 0, [], [], [])] := hh
  refine e_aload_n dX3_init_49 rfl ?_
  refine e_iconst 0 dX3_init_50 rfl ?_
  refine k_putI (q := 0) hh dX3_init_51 tf_3_36 rfl rfl (Or.inl rfl) (fun h hh => ?_)
  have hh : hp h B P [(3, 0, 0, [0, 0, 0, 0, 0, 0, 0, 0], [0, 0, 1], [some (P.length + 1), none, none, none, some (P.length + 2), some (P.length + 3)]), (14, 651, 0, [], [], []), (14, 21, 0, [], [], []), (14, 21, 0, [], [], [])] := hh
  exact e_vret dX3_init_54 rfl ⟨rfl, kq _ hh⟩
def R_X7_init (p : Nat) : List mCe := [(7, 0, 0, [0, 0, 0, 0, 0, 0, 0, 0, 0, 0], [], [some (p + 1)]), (2, 0, 0, [0, 0, 0, 0, 0, 0], [], [some (p + 2), some (p + 8), some (p + 14), some (p + 15), some (p + 16)]), (0, 0, 0, [0, 0, 0, 0, 0, 0], [], [some (p + 3), some (p + 4), some (p + 5), some (p + 6), some (p + 7)]), (14, 6, 0, [], [], []), (14, 6, 0, [], [], []), (14, 6, 0, [], [], []), (14, 6, 0, [], [], []), (14, 6, (-1), [], [], []), (0, 0, 0, [0, 0, 0, 0, 0, 0], [], [some (p + 9), some (p + 10), some (p + 11), some (p + 12), some (p + 13)]), (14, 6, 0, [], [], []), (14, 6, 0, [], [], []), (14, 6, 0, [], [], []), (14, 6, 0, [], [], []), (14, 6, (-1), [], [], []), (14, 6, 0, [], [], []), (14, 6, 0, [], [], []), (14, 6, 0, [], [], [])]
set_option maxHeartbeats 4000000 in
set_option maxRecDepth 20000 in
theorem ko_X7_init (ad : mA) (d B : Nat) : mKo ad (d + 4) B M_X7_init 7 16 96 R_X7_init := by
  intro P h Q hh kq
  refine ⟨Nat.le_of_ble_eq_true rfl, ?_⟩
  show mEv _ _ _ _ _ _ _ 0 [some (.ref (B + (P.length + 0)))] [] _ _
  refine e_aload_n dX7_init_0 rfl ?_
  refine e_obj dX7_init_1 tm_7_3 (Nat.le_of_ble_eq_true rfl) ?_
  refine e_aload_n dX7_init_4 rfl ?_
  refine k_new hh dX7_init_5 tc_7_9 (Nat.le_of_ble_eq_true rfl) (Nat.le_of_ble_eq_true rfl) (fun h hh => ?_)
  have hh : hp h B P [(7, 0, 0, [], [], []), (2, 0, 0, [], [], [])] := hh
  refine e_dup dX7_init_8 rfl ?_
  refine k_ctor hh dX7_init_9 (Or.inr tm_7_11) rfl (Nat.le_of_ble_eq_true rfl) (Nat.le_of_ble_eq_true rfl) (Nat.le_of_ble_eq_true rfl) (ko_X2_init ad _ B) (fun h hh => ?_)
  have hh : hp h B P [(7, 0, 0, [], [], []), (2, 0, 0, [0, 0, 0, 0, 0, 0], [], [some (P.length + 2), some (P.length + 8), some (P.length + 14), some (P.length + 15), some (P.length + 16)]), (0, 0, 0, [0, 0, 0, 0, 0, 0], [], [some (P.length + 3), some (P.length + 4), some (P.length + 5), some (P.length + 6), some (P.length + 7)]), (14, 6, 0, [], [], []), (14, 6, 0, [], [], []), (14, 6, 0, [], [], []), (14, 6, 0, [], [], []), (14, 6, (-1), [], [], []), (0, 0, 0, [0, 0, 0, 0, 0, 0], [], [some (P.length + 9), some (P.length + 10), some (P.length + 11), some (P.length + 12), some (P.length + 13)]), (14, 6, 0, [], [], []), (14, 6, 0, [], [], []), (14, 6, 0, [], [], []), (14, 6, 0, [], [], []), (14, 6, (-1), [], [], []), (14, 6, 0, [], [], []), (14, 6, 0, [], [], []), (14, 6, 0, [], [], [])] := hh
  refine k_putR (q := 0) hh dX7_init_12 tf_7_12 rfl rfl (Or.inl ⟨_, rfl⟩) (Or.inr ⟨rfl, rfl⟩) (fun h hh => ?_)
  have hh : hp h B P [(7, 0, 0, [], [], [some (P.length + 1)]), (2, 0, 0, [0, 0, 0, 0, 0, 0], [], [some (P.length + 2), some (P.length + 8), some (P.length + 14), some (P.length + 15), some (P.length + 16)]), (0, 0, 0, [0, 0, 0, 0, 0, 0], [], [some (P.length + 3), some (P.length + 4), some (P.length + 5), some (P.length + 6), some (P.length + 7)]), (14, 6, 0, [], [], []), (14, 6, 0, [], [], []), (14, 6, 0, [], [], []), (14, 6, 0, [], [], []), (14, 6, (-1), [], [], []), (0, 0, 0, [0, 0, 0, 0, 0, 0], [], [some (P.length + 9), some (P.length + 10), some (P.length + 11), some (P.length + 12), some (P.length + 13)]), (14, 6, 0, [], [], []), (14, 6, 0, [], [], []), (14, 6, 0, [], [], []), (14, 6, 0, [], [], []), (14, 6, (-1), [], [], []), (14, 6, 0, [], [], []), (14, 6, 0, [], [], []), (14, 6, 0, [], [], [])] := hh
  refine e_aload_n dX7_init_15 rfl ?_
  refine e_iconst 0 dX7_init_16 rfl ?_
  refine k_putI (q := 0) hh dX7_init_17 tf_7_18 rfl rfl (Or.inl rfl) (fun h hh => ?_)
  have hh : hp h B P [(7, 0, 0, [0, 0], [], [some (P.length + 1)]), (2, 0, 0, [0, 0, 0, 0, 0, 0], [], [some (P.length + 2), some (P.length + 8), some (P.length + 14), some (P.length + 15), some (P.length + 16)]), (0, 0, 0, [0, 0, 0, 0, 0, 0], [], [some (P.length + 3), some (P.length + 4), some (P.length + 5), some (P.length + 6), some (P.length + 7)]), (14, 6, 0, [], [], []), (14, 6, 0, [], [], []), (14, 6, 0, [], [], []), (14, 6, 0, [], [], []), (14, 6, (-1), [], [], []), (0, 0, 0, [0, 0, 0, 0, 0, 0], [], [some (P.length + 9), some (P.length + 10), some (P.length + 11), some (P.length + 12), some (P.length + 13)]), (14, 6, 0, [], [], []), (14, 6, 0, [], [], []), (14, 6, 0, [], [], []), (14, 6, 0, [], [], []), (14, 6, (-1), [], [], []), (14, 6, 0, [], [], []), (14, 6, 0, [], [], []), (14, 6, 0, [], [], [])] := hh
  refine e_aload_n dX7_init_20 rfl ?_
  refine e_iconst 0 dX7_init_21 rfl ?_
  refine k_putI (q := 0) hh dX7_init_22 tf_7_22 rfl rfl (Or.inl rfl) (fun h hh => ?_)
  have hh : hp h B P [(7, 0, 0, [0, 0, 0], [], [some (P.length + 1)]), (2, 0, 0, [0, 0, 0, 0, 0, 0], [], [some (P.length + 2), some (P.length + 8), some (P.length + 14), some (P.length + 15), some (P.length + 16)]), (0, 0, 0, [0, 0, 0, 0, 0, 0], [], [some (P.length + 3), some (P.length + 4), some (P.length + 5), some (P.length + 6), some (P.length + 7)]), (14, 6, 0, [], [], []), (14, 6, 0, [], [], []), (14, 6, 0, [], [], []), (14, 6, 0, [], [], []), (14, 6, (-1), [], [], []), (0, 0, 0, [0, 0, 0, 0, 0, 0], [], [some (P.length + 9), some (P.length + 10), some (P.length + 11), some (P.length + 12), some (P.length + 13)]), (14, 6, 0, [], [], []), (14, 6, 0, [], [], []), (14, 6, 0, [], [], []), (14, 6, 0, [], [], []), (14, 6, (-1), [], [], []), (14, 6, 0, [], [], []), (14, 6, 0, [], [], []), (14, 6, 0, [], [], [])] := hh
  refine e_aload_n dX7_init_25 rfl ?_
  refine e_iconst 0 dX7_init_26 rfl ?_
  refine k_putI (q := 0) hh dX7_init_27 tf_7_25 rfl rfl (Or.inl rfl) (fun h hh => ?_)
  have hh : hp h B P [(7, 0, 0, [0, 0, 0, 0], [], [some (P.length + 1)]), (2, 0, 0, [0, 0, 0, 0, 0, 0], [], [some (P.length + 2), some (P.length + 8), some (P.length + 14), some (P.length + 15), some (P.length + 16)]), (0, 0, 0, [0, 0, 0, 0, 0, 0], [], [some (P.length + 3), some (P.length + 4), some (P.length + 5), some (P.length + 6), some (P.length + 7)]), (14, 6, 0, [], [], []), (14, 6, 0, [], [], []), (14, 6, 0, [], [], []), (14, 6, 0, [], [], []), (14, 6, (-1), [], [], []), (0, 0, 0, [0, 0, 0, 0, 0, 0], [], [some (P.length + 9), some (P.length + 10), some (P.length + 11), some (P.length + 12), some (P.length + 13)]), (14, 6, 0, [], [], []), (14, 6, 0, [], [], []), (14, 6, 0, [], [], []), (14, 6, 0, [], [], []), (14, 6, (-1), [], [], []), (14, 6, 0, [], [], []), (14, 6, 0, [], [], []), (14, 6, 0, [], [], [])] := hh
  refine e_aload_n dX7_init_30 rfl ?_
  refine e_iconst 0 dX7_init_31 rfl ?_
  refine k_putI (q := 0) hh dX7_init_32 tf_7_28 rfl rfl (Or.inl rfl) (fun h hh => ?_)
  have hh : hp h B P [(7, 0, 0, [0, 0, 0, 0, 0], [], [some (P.length + 1)]), (2, 0, 0, [0, 0, 0, 0, 0, 0], [], [some (P.length + 2), some (P.length + 8), some (P.length + 14), some (P.length + 15), some (P.length + 16)]), (0, 0, 0, [0, 0, 0, 0, 0, 0], [], [some (P.length + 3), some (P.length + 4), some (P.length + 5), some (P.length + 6), some (P.length + 7)]), (14, 6, 0, [], [], []), (14, 6, 0, [], [], []), (14, 6, 0, [], [], []), (14, 6, 0, [], [], []), (14, 6, (-1), [], [], []), (0, 0, 0, [0, 0, 0, 0, 0, 0], [], [some (P.length + 9), some (P.length + 10), some (P.length + 11), some (P.length + 12), some (P.length + 13)]), (14, 6, 0, [], [], []), (14, 6, 0, [], [], []), (14, 6, 0, [], [], []), (14, 6, 0, [], [], []), (14, 6, (-1), [], [], []), (14, 6, 0, [], [], []), (14, 6, 0, [], [], []), (14, 6, 0, [], [], [])] := hh
  refine e_aload_n dX7_init_35 rfl ?_
  refine e_iconst 0 dX7_init_36 rfl ?_
  refine k_putI (q := 0) hh dX7_init_37 tf_7_31 rfl rfl (Or.inl rfl) (fun h hh => ?_)
  have hh : hp h B P [(7, 0, 0, [0, 0, 0, 0, 0, 0], [], [some (P.length + 1)]), (2, 0, 0, [0, 0, 0, 0, 0, 0], [], [some (P.length + 2), some (P.length + 8), some (P.length + 14), some (P.length + 15), some (P.length + 16)]), (0, 0, 0, [0, 0, 0, 0, 0, 0], [], [some (P.length + 3), some (P.length + 4), some (P.length + 5), some (P.length + 6), some (P.length + 7)]), (14, 6, 0, [], [], []), (14, 6, 0, [], [], []), (14, 6, 0, [], [], []), (14, 6, 0, [], [], []), (14, 6, (-1), [], [], []), (0, 0, 0, [0, 0, 0, 0, 0, 0], [], [some (P.length + 9), some (P.length + 10), some (P.length + 11), some (P.length + 12), some (P.length + 13)]), (14, 6, 0, [], [], []), (14, 6, 0, [], [], []), (14, 6, 0, [], [], []), (14, 6, 0, [], [], []), (14, 6, (-1), [], [], []), (14, 6, 0, [], [], []), (14, 6, 0, [], [], []), (14, 6, 0, [], [], [])] := hh
  refine e_aload_n dX7_init_40 rfl ?_
  refine e_iconst 0 dX7_init_41 rfl ?_
  refine k_putI (q := 0) hh dX7_init_42 tf_7_34 rfl rfl (Or.inl rfl) (fun h hh => ?_)
  have hh : hp h B P [(7, 0, 0, [0, 0, 0, 0, 0, 0, 0], [], [some (P.length + 1)]), (2, 0, 0, [0, 0, 0, 0, 0, 0], [], [some (P.length + 2), some (P.length + 8), some (P.length + 14), some (P.length + 15), some (P.length + 16)]), (0, 0, 0, [0, 0, 0, 0, 0, 0], [], [some (P.length + 3), some (P.length + 4), some (P.length + 5), some (P.length + 6), some (P.length + 7)]), (14, 6, 0, [], [], []), (14, 6, 0, [], [], []), (14, 6, 0, [], [], []), (14, 6, 0, [], [], []), (14, 6, (-1), [], [], []), (0, 0, 0, [0, 0, 0, 0, 0, 0], [], [some (P.length + 9), some (P.length + 10), some (P.length + 11), some (P.length + 12), some (P.length + 13)]), (14, 6, 0, [], [], []), (14, 6, 0, [], [], []), (14, 6, 0, [], [], []), (14, 6, 0, [], [], []), (14, 6, (-1), [], [], []), (14, 6, 0, [], [], []), (14, 6, 0, [], [], []), (14, 6, 0, [], [], [])] := hh
  refine e_aload_n dX7_init_45 rfl ?_
  refine e_iconst 0 dX7_init_46 rfl ?_
  refine k_putI (q := 0) hh dX7_init_47 tf_7_37 rfl rfl (Or.inl rfl) (fun h hh => ?_)
  have hh : hp h B P [(7, 0, 0, [0, 0, 0, 0, 0, 0, 0, 0], [], [some (P.length + 1)]), (2, 0, 0, [0, 0, 0, 0, 0, 0], [], [some (P.length + 2), some (P.length + 8), some (P.length + 14), some (P.length + 15), some (P.length + 16)]), (0, 0, 0, [0, 0, 0, 0, 0, 0], [], [some (P.length + 3), some (P.length + 4), some (P.length + 5), some (P.length + 6), some (P.length + 7)]), (14, 6, 0, [], [], []), (14, 6, 0, [], [], []), (14, 6, 0, [], [], []), (14, 6, 0, [], [], []), (14, 6, (-1), [], [], []), (0, 0, 0, [0, 0, 0, 0, 0, 0], [], [some (P.length + 9), some (P.length + 10), some (P.length + 11), some (P.length + 12), some (P.length + 13)]), (14, 6, 0, [], [], []), (14, 6, 0, [], [], []), (14, 6, 0, [], [], []), (14, 6, 0, [], [], []), (14, 6, (-1), [], [], []), (14, 6, 0, [], [], []), (14, 6, 0, [], [], []), (14, 6, 0, [], [], [])] := hh
  refine e_aload_n dX7_init_50 rfl ?_
  refine e_iconst 0 dX7_init_51 rfl ?_
  refine k_putI (q := 0) hh dX7_init_52 tf_7_40 rfl rfl (Or.inl rfl) (fun h hh => ?_)
  have hh : hp h B P [(7, 0, 0, [0, 0, 0, 0, 0, 0, 0, 0, 0], [], [some (P.length + 1)]), (2, 0, 0, [0, 0, 0, 0, 0, 0], [], [some (P.length + 2), some (P.length + 8), some (P.length + 14), some (P.length + 15), some (P.length + 16)]), (0, 0, 0, [0, 0, 0, 0, 0, 0], [], [some (P.length + 3), some (P.length + 4), some (P.length + 5), some (P.length + 6), some (P.length + 7)]), (14, 6, 0, [], [], []), (14, 6, 0, [], [], []), (14, 6, 0, [], [], []), (14, 6, 0, [], [], []), (14, 6, (-1), [], [], []), (0, 0, 0, [0, 0, 0, 0, 0, 0], [], [some (P.length + 9), some (P.length + 10), some (P.length + 11), some (P.length + 12), some (P.length + 13)]), (14, 6, 0, [], [], []), (14, 6, 0, [], [], []), (14, 6, 0, [], [], []), (14, 6, 0, [], [], []), (14, 6, (-1), [], [], []), (14, 6, 0, [], [], []), (14, 6, 0, [], [], []), (14, 6, 0, [], [], [])] := hh
  refine e_aload_n dX7_init_55 rfl ?_
  refine e_iconst 0 dX7_init_56 rfl ?_
  refine k_putI (q := 0) hh dX7_init_57 tf_7_43 rfl rfl (Or.inl rfl) (fun h hh => ?_)
  have hh : hp h B P [(7, 0, 0, [0, 0, 0, 0, 0, 0, 0, 0, 0, 0], [], [some (P.length + 1)]), (2, 0, 0, [0, 0, 0, 0, 0, 0], [], [some (P.length + 2), some (P.length + 8), some (P.length + 14), some (P.length + 15), some (P.length + 16)]), (0, 0, 0, [0, 0, 0, 0, 0, 0], [], [some (P.length + 3), some (P.length + 4), some (P.length + 5), some (P.length + 6), some (P.length + 7)]), (14, 6, 0, [], [], []), (14, 6, 0, [], [], []), (14, 6, 0, [], [], []), (14, 6, 0, [], [], []), (14, 6, (-1), [], [], []), (0, 0, 0, [0, 0, 0, 0, 0, 0], [], [some (P.length + 9), some (P.length + 10), some (P.length + 11), some (P.length + 12), some (P.length + 13)]), (14, 6, 0, [], [], []), (14, 6, 0, [], [], []), (14, 6, 0, [], [], []), (14, 6, 0, [], [], []), (14, 6, (-1), [], [], []), (14, 6, 0, [], [], []), (14, 6, 0, [], [], []), (14, 6, 0, [], [], [])] := hh
  exact e_vret dX7_init_60 rfl ⟨rfl, kq _ hh⟩

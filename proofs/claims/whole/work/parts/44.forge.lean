/-! THE CLASS'S FORGE: who is with whom, FIT -/
theorem dX0_has_0 : decode cX0_has 0 = .ok (.iload_n 1, 1) := by decide +kernel
theorem dX0_has_1 : decode cX0_has 1 = .ok (.ifCond .lt 21, 3) := by decide +kernel
theorem dX0_has_4 : decode cX0_has 4 = .ok (.iload_n 1, 1) := by decide +kernel
theorem dX0_has_5 : decode cX0_has 5 = .ok (.aload_n 0, 1) := by decide +kernel
theorem dX0_has_6 : decode cX0_has 6 = .ok (.getfield 27, 3) := by decide +kernel
theorem dX0_has_9 : decode cX0_has 9 = .ok (.if_icmp .ge 13, 3) := by decide +kernel
theorem dX0_has_12 : decode cX0_has 12 = .ok (.iload_n 1, 1) := by decide +kernel
theorem dX0_has_13 : decode cX0_has 13 = .ok (.bipush 6, 2) := by decide +kernel
theorem dX0_has_15 : decode cX0_has 15 = .ok (.if_icmp .ge 7, 3) := by decide +kernel
theorem dX0_has_18 : decode cX0_has 18 = .ok (.iconst 1, 1) := by decide +kernel
theorem dX0_has_19 : decode cX0_has 19 = .ok (.goto 4, 3) := by decide +kernel
theorem dX0_has_22 : decode cX0_has 22 = .ok (.iconst 0, 1) := by decide +kernel
theorem dX0_has_23 : decode cX0_has 23 = .ok (.ireturn, 1) := by decide +kernel
theorem dX2_hasCloth_0 : decode cX2_hasCloth 0 = .ok (.iload_n 1, 1) := by decide +kernel
theorem dX2_hasCloth_1 : decode cX2_hasCloth 1 = .ok (.ifCond .lt 21, 3) := by decide +kernel
theorem dX2_hasCloth_4 : decode cX2_hasCloth 4 = .ok (.iload_n 1, 1) := by decide +kernel
theorem dX2_hasCloth_5 : decode cX2_hasCloth 5 = .ok (.aload_n 0, 1) := by decide +kernel
theorem dX2_hasCloth_6 : decode cX2_hasCloth 6 = .ok (.getfield 31, 3) := by decide +kernel
theorem dX2_hasCloth_9 : decode cX2_hasCloth 9 = .ok (.if_icmp .ge 13, 3) := by decide +kernel
theorem dX2_hasCloth_12 : decode cX2_hasCloth 12 = .ok (.iload_n 1, 1) := by decide +kernel
theorem dX2_hasCloth_13 : decode cX2_hasCloth 13 = .ok (.bipush 6, 2) := by decide +kernel
theorem dX2_hasCloth_15 : decode cX2_hasCloth 15 = .ok (.if_icmp .ge 7, 3) := by decide +kernel
theorem dX2_hasCloth_18 : decode cX2_hasCloth 18 = .ok (.iconst 1, 1) := by decide +kernel
theorem dX2_hasCloth_19 : decode cX2_hasCloth 19 = .ok (.goto 4, 3) := by decide +kernel
theorem dX2_hasCloth_22 : decode cX2_hasCloth 22 = .ok (.iconst 0, 1) := by decide +kernel
theorem dX2_hasCloth_23 : decode cX2_hasCloth 23 = .ok (.ireturn, 1) := by decide +kernel
theorem dX2_upOf_0 : decode cX2_upOf 0 = .ok (.aload_n 0, 1) := by decide +kernel
theorem dX2_upOf_1 : decode cX2_upOf 1 = .ok (.getfield 12, 3) := by decide +kernel
theorem dX2_upOf_4 : decode cX2_upOf 4 = .ok (.iload_n 1, 1) := by decide +kernel
theorem dX2_upOf_5 : decode cX2_upOf 5 = .ok (.invokevirtual 45, 3) := by decide +kernel
theorem dX2_upOf_8 : decode cX2_upOf 8 = .ok (.ifCond .eq 34, 3) := by decide +kernel
theorem dX2_upOf_11 : decode cX2_upOf 11 = .ok (.aload_n 0, 1) := by decide +kernel
theorem dX2_upOf_12 : decode cX2_upOf 12 = .ok (.getfield 18, 3) := by decide +kernel
theorem dX2_upOf_15 : decode cX2_upOf 15 = .ok (.aload_n 0, 1) := by decide +kernel
theorem dX2_upOf_16 : decode cX2_upOf 16 = .ok (.getfield 12, 3) := by decide +kernel
theorem dX2_upOf_19 : decode cX2_upOf 19 = .ok (.getfield 42, 3) := by decide +kernel
theorem dX2_upOf_22 : decode cX2_upOf 22 = .ok (.iload_n 1, 1) := by decide +kernel
theorem dX2_upOf_23 : decode cX2_upOf 23 = .ok (.iaload, 1) := by decide +kernel
theorem dX2_upOf_24 : decode cX2_upOf 24 = .ok (.invokevirtual 45, 3) := by decide +kernel
theorem dX2_upOf_27 : decode cX2_upOf 27 = .ok (.ifCond .eq 15, 3) := by decide +kernel
theorem dX2_upOf_30 : decode cX2_upOf 30 = .ok (.aload_n 0, 1) := by decide +kernel
theorem dX2_upOf_31 : decode cX2_upOf 31 = .ok (.getfield 12, 3) := by decide +kernel
theorem dX2_upOf_34 : decode cX2_upOf 34 = .ok (.getfield 42, 3) := by decide +kernel
theorem dX2_upOf_37 : decode cX2_upOf 37 = .ok (.iload_n 1, 1) := by decide +kernel
theorem dX2_upOf_38 : decode cX2_upOf 38 = .ok (.iaload, 1) := by decide +kernel
theorem dX2_upOf_39 : decode cX2_upOf 39 = .ok (.goto 4, 3) := by decide +kernel
theorem dX2_upOf_42 : decode cX2_upOf 42 = .ok (.iconst (-1), 1) := by decide +kernel
theorem dX2_upOf_43 : decode cX2_upOf 43 = .ok (.ireturn, 1) := by decide +kernel
theorem dX2_fitOf_0 : decode cX2_fitOf 0 = .ok (.aload_n 0, 1) := by decide +kernel
theorem dX2_fitOf_1 : decode cX2_fitOf 1 = .ok (.getfield 12, 3) := by decide +kernel
theorem dX2_fitOf_4 : decode cX2_fitOf 4 = .ok (.iload_n 1, 1) := by decide +kernel
theorem dX2_fitOf_5 : decode cX2_fitOf 5 = .ok (.invokevirtual 45, 3) := by decide +kernel
theorem dX2_fitOf_8 : decode cX2_fitOf 8 = .ok (.ifCond .eq 14, 3) := by decide +kernel
theorem dX2_fitOf_11 : decode cX2_fitOf 11 = .ok (.aload_n 0, 1) := by decide +kernel
theorem dX2_fitOf_12 : decode cX2_fitOf 12 = .ok (.getfield 18, 3) := by decide +kernel
theorem dX2_fitOf_15 : decode cX2_fitOf 15 = .ok (.iload_n 2, 1) := by decide +kernel
theorem dX2_fitOf_16 : decode cX2_fitOf 16 = .ok (.invokevirtual 45, 3) := by decide +kernel
theorem dX2_fitOf_19 : decode cX2_fitOf 19 = .ok (.ifCond .ne 5, 3) := by decide +kernel
theorem dX2_fitOf_22 : decode cX2_fitOf 22 = .ok (.iconst (-1), 1) := by decide +kernel
theorem dX2_fitOf_23 : decode cX2_fitOf 23 = .ok (.ireturn, 1) := by decide +kernel
theorem dX2_fitOf_24 : decode cX2_fitOf 24 = .ok (.iconst 0, 1) := by decide +kernel
theorem dX2_fitOf_25 : decode cX2_fitOf 25 = .ok (.aload_n 0, 1) := by decide +kernel
theorem dX2_fitOf_26 : decode cX2_fitOf 26 = .ok (.iload_n 1, 1) := by decide +kernel
theorem dX2_fitOf_27 : decode cX2_fitOf 27 = .ok (.iload_n 2, 1) := by decide +kernel
theorem dX2_fitOf_28 : decode cX2_fitOf 28 = .ok (.invokevirtual 49, 3) := by decide +kernel
theorem dX2_fitOf_31 : decode cX2_fitOf 31 = .ok (.iconst 2, 1) := by decide +kernel
theorem dX2_fitOf_32 : decode cX2_fitOf 32 = .ok (.aload_n 0, 1) := by decide +kernel
theorem dX2_fitOf_33 : decode cX2_fitOf 33 = .ok (.getfield 12, 3) := by decide +kernel
theorem dX2_fitOf_36 : decode cX2_fitOf 36 = .ok (.getfield 53, 3) := by decide +kernel
theorem dX2_fitOf_39 : decode cX2_fitOf 39 = .ok (.iload_n 1, 1) := by decide +kernel
theorem dX2_fitOf_40 : decode cX2_fitOf 40 = .ok (.iaload, 1) := by decide +kernel
theorem dX2_fitOf_41 : decode cX2_fitOf 41 = .ok (.aload_n 0, 1) := by decide +kernel
theorem dX2_fitOf_42 : decode cX2_fitOf 42 = .ok (.getfield 18, 3) := by decide +kernel
theorem dX2_fitOf_45 : decode cX2_fitOf 45 = .ok (.getfield 53, 3) := by decide +kernel
theorem dX2_fitOf_48 : decode cX2_fitOf 48 = .ok (.iload_n 2, 1) := by decide +kernel
theorem dX2_fitOf_49 : decode cX2_fitOf 49 = .ok (.iaload, 1) := by decide +kernel
theorem dX2_fitOf_50 : decode cX2_fitOf 50 = .ok (.isub, 1) := by decide +kernel
theorem dX2_fitOf_51 : decode cX2_fitOf 51 = .ok (.invokestatic 56, 3) := by decide +kernel
theorem dX2_fitOf_54 : decode cX2_fitOf 54 = .ok (.imul, 1) := by decide +kernel
theorem dX2_fitOf_55 : decode cX2_fitOf 55 = .ok (.isub, 1) := by decide +kernel
theorem dX2_fitOf_56 : decode cX2_fitOf 56 = .ok (.invokestatic 62, 3) := by decide +kernel
theorem dX2_fitOf_59 : decode cX2_fitOf 59 = .ok (.ireturn, 1) := by decide +kernel
theorem dX2_levelFit_0 : decode cX2_levelFit 0 = .ok (.iconst 5, 1) := by decide +kernel
theorem dX2_levelFit_1 : decode cX2_levelFit 1 = .ok (.aload_n 0, 1) := by decide +kernel
theorem dX2_levelFit_2 : decode cX2_levelFit 2 = .ok (.getfield 12, 3) := by decide +kernel
theorem dX2_levelFit_5 : decode cX2_levelFit 5 = .ok (.getfield 65, 3) := by decide +kernel
theorem dX2_levelFit_8 : decode cX2_levelFit 8 = .ok (.iload_n 1, 1) := by decide +kernel
theorem dX2_levelFit_9 : decode cX2_levelFit 9 = .ok (.iaload, 1) := by decide +kernel
theorem dX2_levelFit_10 : decode cX2_levelFit 10 = .ok (.aload_n 0, 1) := by decide +kernel
theorem dX2_levelFit_11 : decode cX2_levelFit 11 = .ok (.getfield 18, 3) := by decide +kernel
theorem dX2_levelFit_14 : decode cX2_levelFit 14 = .ok (.getfield 65, 3) := by decide +kernel
theorem dX2_levelFit_17 : decode cX2_levelFit 17 = .ok (.iload_n 2, 1) := by decide +kernel
theorem dX2_levelFit_18 : decode cX2_levelFit 18 = .ok (.iaload, 1) := by decide +kernel
theorem dX2_levelFit_19 : decode cX2_levelFit 19 = .ok (.isub, 1) := by decide +kernel
theorem dX2_levelFit_20 : decode cX2_levelFit 20 = .ok (.invokestatic 56, 3) := by decide +kernel
theorem dX2_levelFit_23 : decode cX2_levelFit 23 = .ok (.imul, 1) := by decide +kernel
theorem dX2_levelFit_24 : decode cX2_levelFit 24 = .ok (.istore_n 3, 1) := by decide +kernel
theorem dX2_levelFit_25 : decode cX2_levelFit 25 = .ok (.bipush 30, 2) := by decide +kernel
theorem dX2_levelFit_27 : decode cX2_levelFit 27 = .ok (.iload_n 3, 1) := by decide +kernel
theorem dX2_levelFit_28 : decode cX2_levelFit 28 = .ok (.isub, 1) := by decide +kernel
theorem dX2_levelFit_29 : decode cX2_levelFit 29 = .ok (.aload_n 0, 1) := by decide +kernel
theorem dX2_levelFit_30 : decode cX2_levelFit 30 = .ok (.getfield 12, 3) := by decide +kernel
theorem dX2_levelFit_33 : decode cX2_levelFit 33 = .ok (.getfield 68, 3) := by decide +kernel
theorem dX2_levelFit_36 : decode cX2_levelFit 36 = .ok (.iload_n 1, 1) := by decide +kernel
theorem dX2_levelFit_37 : decode cX2_levelFit 37 = .ok (.iaload, 1) := by decide +kernel
theorem dX2_levelFit_38 : decode cX2_levelFit 38 = .ok (.aload_n 0, 1) := by decide +kernel
theorem dX2_levelFit_39 : decode cX2_levelFit 39 = .ok (.getfield 18, 3) := by decide +kernel
theorem dX2_levelFit_42 : decode cX2_levelFit 42 = .ok (.getfield 68, 3) := by decide +kernel
theorem dX2_levelFit_45 : decode cX2_levelFit 45 = .ok (.iload_n 2, 1) := by decide +kernel
theorem dX2_levelFit_46 : decode cX2_levelFit 46 = .ok (.iaload, 1) := by decide +kernel
theorem dX2_levelFit_47 : decode cX2_levelFit 47 = .ok (.if_icmp .ne 7, 3) := by decide +kernel
theorem dX2_levelFit_50 : decode cX2_levelFit 50 = .ok (.iconst 0, 1) := by decide +kernel
theorem dX2_levelFit_51 : decode cX2_levelFit 51 = .ok (.goto 5, 3) := by decide +kernel
theorem dX2_levelFit_54 : decode cX2_levelFit 54 = .ok (.bipush 12, 2) := by decide +kernel
theorem dX2_levelFit_56 : decode cX2_levelFit 56 = .ok (.isub, 1) := by decide +kernel
theorem dX2_levelFit_57 : decode cX2_levelFit 57 = .ok (.ireturn, 1) := by decide +kernel
theorem dX2_powerOf_0 : decode cX2_powerOf 0 = .ok (.aload_n 0, 1) := by decide +kernel
theorem dX2_powerOf_1 : decode cX2_powerOf 1 = .ok (.iload_n 1, 1) := by decide +kernel
theorem dX2_powerOf_2 : decode cX2_powerOf 2 = .ok (.iload_n 2, 1) := by decide +kernel
theorem dX2_powerOf_3 : decode cX2_powerOf 3 = .ok (.invokevirtual 71, 3) := by decide +kernel
theorem dX2_powerOf_6 : decode cX2_powerOf 6 = .ok (.istore 4, 2) := by decide +kernel
theorem dX2_powerOf_8 : decode cX2_powerOf 8 = .ok (.iload 4, 2) := by decide +kernel
theorem dX2_powerOf_10 : decode cX2_powerOf 10 = .ok (.iconst (-1), 1) := by decide +kernel
theorem dX2_powerOf_11 : decode cX2_powerOf 11 = .ok (.if_icmp .ne 5, 3) := by decide +kernel
theorem dX2_powerOf_14 : decode cX2_powerOf 14 = .ok (.iconst (-1), 1) := by decide +kernel
theorem dX2_powerOf_15 : decode cX2_powerOf 15 = .ok (.ireturn, 1) := by decide +kernel
theorem dX2_powerOf_16 : decode cX2_powerOf 16 = .ok (.iload 4, 2) := by decide +kernel
theorem dX2_powerOf_18 : decode cX2_powerOf 18 = .ok (.iconst 0, 1) := by decide +kernel
theorem dX2_powerOf_19 : decode cX2_powerOf 19 = .ok (.aload_n 0, 1) := by decide +kernel
theorem dX2_powerOf_20 : decode cX2_powerOf 20 = .ok (.getfield 12, 3) := by decide +kernel
theorem dX2_powerOf_23 : decode cX2_powerOf 23 = .ok (.getfield 74, 3) := by decide +kernel
theorem dX2_powerOf_26 : decode cX2_powerOf 26 = .ok (.iload_n 1, 1) := by decide +kernel
theorem dX2_powerOf_27 : decode cX2_powerOf 27 = .ok (.iaload, 1) := by decide +kernel
theorem dX2_powerOf_28 : decode cX2_powerOf 28 = .ok (.iload_n 3, 1) := by decide +kernel
theorem dX2_powerOf_29 : decode cX2_powerOf 29 = .ok (.isub, 1) := by decide +kernel
theorem dX2_powerOf_30 : decode cX2_powerOf 30 = .ok (.invokestatic 62, 3) := by decide +kernel
theorem dX2_powerOf_33 : decode cX2_powerOf 33 = .ok (.iadd, 1) := by decide +kernel
theorem dX2_powerOf_34 : decode cX2_powerOf 34 = .ok (.iconst 0, 1) := by decide +kernel
theorem dX2_powerOf_35 : decode cX2_powerOf 35 = .ok (.aload_n 0, 1) := by decide +kernel
theorem dX2_powerOf_36 : decode cX2_powerOf 36 = .ok (.getfield 18, 3) := by decide +kernel
theorem dX2_powerOf_39 : decode cX2_powerOf 39 = .ok (.getfield 74, 3) := by decide +kernel
theorem dX2_powerOf_42 : decode cX2_powerOf 42 = .ok (.iload_n 2, 1) := by decide +kernel
theorem dX2_powerOf_43 : decode cX2_powerOf 43 = .ok (.iaload, 1) := by decide +kernel
theorem dX2_powerOf_44 : decode cX2_powerOf 44 = .ok (.iload_n 3, 1) := by decide +kernel
theorem dX2_powerOf_45 : decode cX2_powerOf 45 = .ok (.isub, 1) := by decide +kernel
theorem dX2_powerOf_46 : decode cX2_powerOf 46 = .ok (.invokestatic 62, 3) := by decide +kernel
theorem dX2_powerOf_49 : decode cX2_powerOf 49 = .ok (.iadd, 1) := by decide +kernel
theorem dX2_powerOf_50 : decode cX2_powerOf 50 = .ok (.ireturn, 1) := by decide +kernel
theorem dX2_cutsWorn_0 : decode cX2_cutsWorn 0 = .ok (.aload_n 0, 1) := by decide +kernel
theorem dX2_cutsWorn_1 : decode cX2_cutsWorn 1 = .ok (.iload_n 1, 1) := by decide +kernel
theorem dX2_cutsWorn_2 : decode cX2_cutsWorn 2 = .ok (.invokevirtual 77, 3) := by decide +kernel
theorem dX2_cutsWorn_5 : decode cX2_cutsWorn 5 = .ok (.istore 4, 2) := by decide +kernel
theorem dX2_cutsWorn_7 : decode cX2_cutsWorn 7 = .ok (.iload 4, 2) := by decide +kernel
theorem dX2_cutsWorn_9 : decode cX2_cutsWorn 9 = .ok (.iconst (-1), 1) := by decide +kernel
theorem dX2_cutsWorn_10 : decode cX2_cutsWorn 10 = .ok (.if_icmp .eq 32, 3) := by decide +kernel
theorem dX2_cutsWorn_13 : decode cX2_cutsWorn 13 = .ok (.aload_n 0, 1) := by decide +kernel
theorem dX2_cutsWorn_14 : decode cX2_cutsWorn 14 = .ok (.iload_n 2, 1) := by decide +kernel
theorem dX2_cutsWorn_15 : decode cX2_cutsWorn 15 = .ok (.invokevirtual 80, 3) := by decide +kernel
theorem dX2_cutsWorn_18 : decode cX2_cutsWorn 18 = .ok (.ifCond .eq 24, 3) := by decide +kernel
theorem dX2_cutsWorn_21 : decode cX2_cutsWorn 21 = .ok (.aload_n 0, 1) := by decide +kernel
theorem dX2_cutsWorn_22 : decode cX2_cutsWorn 22 = .ok (.iload_n 1, 1) := by decide +kernel
theorem dX2_cutsWorn_23 : decode cX2_cutsWorn 23 = .ok (.iload 4, 2) := by decide +kernel
theorem dX2_cutsWorn_25 : decode cX2_cutsWorn 25 = .ok (.iload_n 3, 1) := by decide +kernel
theorem dX2_cutsWorn_26 : decode cX2_cutsWorn 26 = .ok (.invokevirtual 83, 3) := by decide +kernel
theorem dX2_cutsWorn_29 : decode cX2_cutsWorn 29 = .ok (.aload_n 0, 1) := by decide +kernel
theorem dX2_cutsWorn_30 : decode cX2_cutsWorn 30 = .ok (.getfield 21, 3) := by decide +kernel
theorem dX2_cutsWorn_33 : decode cX2_cutsWorn 33 = .ok (.iload_n 2, 1) := by decide +kernel
theorem dX2_cutsWorn_34 : decode cX2_cutsWorn 34 = .ok (.iaload, 1) := by decide +kernel
theorem dX2_cutsWorn_35 : decode cX2_cutsWorn 35 = .ok (.if_icmp .lt 7, 3) := by decide +kernel
theorem dX2_cutsWorn_38 : decode cX2_cutsWorn 38 = .ok (.iconst 1, 1) := by decide +kernel
theorem dX2_cutsWorn_39 : decode cX2_cutsWorn 39 = .ok (.goto 4, 3) := by decide +kernel
theorem dX2_cutsWorn_42 : decode cX2_cutsWorn 42 = .ok (.iconst 0, 1) := by decide +kernel
theorem dX2_cutsWorn_43 : decode cX2_cutsWorn 43 = .ok (.ireturn, 1) := by decide +kernel
theorem dX2_downLikesMore_0 : decode cX2_downLikesMore 0 = .ok (.aload_n 0, 1) := by decide +kernel
theorem dX2_downLikesMore_1 : decode cX2_downLikesMore 1 = .ok (.iload_n 1, 1) := by decide +kernel
theorem dX2_downLikesMore_2 : decode cX2_downLikesMore 2 = .ok (.iload_n 2, 1) := by decide +kernel
theorem dX2_downLikesMore_3 : decode cX2_downLikesMore 3 = .ok (.invokevirtual 71, 3) := by decide +kernel
theorem dX2_downLikesMore_6 : decode cX2_downLikesMore 6 = .ok (.aload_n 0, 1) := by decide +kernel
theorem dX2_downLikesMore_7 : decode cX2_downLikesMore 7 = .ok (.iload_n 1, 1) := by decide +kernel
theorem dX2_downLikesMore_8 : decode cX2_downLikesMore 8 = .ok (.iload_n 3, 1) := by decide +kernel
theorem dX2_downLikesMore_9 : decode cX2_downLikesMore 9 = .ok (.invokevirtual 71, 3) := by decide +kernel
theorem dX2_downLikesMore_12 : decode cX2_downLikesMore 12 = .ok (.isub, 1) := by decide +kernel
theorem dX2_downLikesMore_13 : decode cX2_downLikesMore 13 = .ok (.istore 4, 2) := by decide +kernel
theorem dX2_downLikesMore_15 : decode cX2_downLikesMore 15 = .ok (.iload 4, 2) := by decide +kernel
theorem dX2_downLikesMore_17 : decode cX2_downLikesMore 17 = .ok (.ifCond .gt 13, 3) := by decide +kernel
theorem dX2_downLikesMore_20 : decode cX2_downLikesMore 20 = .ok (.iload 4, 2) := by decide +kernel
theorem dX2_downLikesMore_22 : decode cX2_downLikesMore 22 = .ok (.ifCond .ne 12, 3) := by decide +kernel
theorem dX2_downLikesMore_25 : decode cX2_downLikesMore 25 = .ok (.iload_n 2, 1) := by decide +kernel
theorem dX2_downLikesMore_26 : decode cX2_downLikesMore 26 = .ok (.iload_n 3, 1) := by decide +kernel
theorem dX2_downLikesMore_27 : decode cX2_downLikesMore 27 = .ok (.if_icmp .ge 7, 3) := by decide +kernel
theorem dX2_downLikesMore_30 : decode cX2_downLikesMore 30 = .ok (.iconst 1, 1) := by decide +kernel
theorem dX2_downLikesMore_31 : decode cX2_downLikesMore 31 = .ok (.goto 4, 3) := by decide +kernel
theorem dX2_downLikesMore_34 : decode cX2_downLikesMore 34 = .ok (.iconst 0, 1) := by decide +kernel
theorem dX2_downLikesMore_35 : decode cX2_downLikesMore 35 = .ok (.ireturn, 1) := by decide +kernel
theorem tf_2_42 : tFld TB0 2 42 = some (0, 4) := rfl
theorem tf_2_53 : tFld TB0 2 53 = some (0, 0) := rfl
theorem tf_2_65 : tFld TB0 2 65 = some (0, 1) := rfl
theorem tf_2_68 : tFld TB0 2 68 = some (0, 3) := rfl
theorem tf_2_74 : tFld TB0 2 74 = some (0, 2) := rfl
set_option maxRecDepth 20000 in
theorem tm_2_45 : tMet TB0 2 45 = some (0, M_X0_has) := rfl
set_option maxRecDepth 20000 in
theorem tm_2_49 : tMet TB0 2 49 = some (0, M_X2_levelFit) := rfl
set_option maxRecDepth 20000 in
theorem tm_2_56 : tMet TB0 2 56 = some (12, M_none) := rfl
set_option maxRecDepth 20000 in
theorem tm_2_62 : tMet TB0 2 62 = some (10, M_none) := rfl
set_option maxRecDepth 20000 in
theorem tm_2_71 : tMet TB0 2 71 = some (0, M_X2_fitOf) := rfl
set_option maxRecDepth 20000 in
theorem tm_2_77 : tMet TB0 2 77 = some (0, M_X2_upOf) := rfl
set_option maxRecDepth 20000 in
theorem tm_2_80 : tMet TB0 2 80 = some (0, M_X2_hasCloth) := rfl
set_option maxRecDepth 20000 in
theorem tm_2_83 : tMet TB0 2 83 = some (0, M_X2_powerOf) := rfl
theorem rI_i (h : mH) (a : Nat) (z : Int) : -2147483648 ≤ rI h a z ∧ rI h a z < 2147483648 := rI_in h a z
theorem absI_s (x : Int) : (0 ≤ x ∧ absI x = x) ∨ (x < 0 ∧ absI x = -x) := by unfold absI; split <;> omega
def sumZ (f : Int → Int) : Nat → Int
  | 0 => 0
  | n + 1 => sumZ f n + f n
theorem sumZ_s {f : Int → Int} {i : Int} (h : 0 ≤ i) : sumZ f (i + 1).toNat = sumZ f i.toNat + f i := by
  rw [show (i + 1).toNat = i.toNat + 1 by omega]
  show _ + f (i.toNat : Int) = _
  rw [Int.toNat_of_nonneg h]
theorem sumZ_b {f : Int → Int} {lo hi : Int} {n : Nat} (h : ∀ i : Int, 0 ≤ i → i < n → lo ≤ f i ∧ f i ≤ hi) : lo * n ≤ sumZ f n ∧ sumZ f n ≤ hi * n := by
  induction n with
  | zero => simp [sumZ]
  | succ n ih =>
    have i1 := ih (fun i a b => h i a (by omega))
    have i2 := h n (by omega) (by omega)
    have e1 : lo * ((n + 1 : Nat) : Int) = lo * n + lo := by rw [Int.natCast_add, Int.mul_add]; simp
    have e2 : hi * ((n + 1 : Nat) : Int) = hi * n + hi := by rw [Int.natCast_add, Int.mul_add]; simp
    rw [e1, e2]
    show _ ≤ sumZ f n + f n ∧ sumZ f n + f n ≤ _
    omega
theorem sumZ_e {f f' : Int → Int} {n : Nat} (h : ∀ i : Int, 0 ≤ i → i < n → f i = f' i) : sumZ f n = sumZ f' n := by
  induction n with
  | zero => rfl
  | succ n ih =>
    show sumZ f n + f n = sumZ f' n + f' n
    rw [ih (fun i a b => h i a (by omega)), h n (by omega) (by omega)]
abbrev inF (g : Int → Int) (d u : Int) : Prop := (0 ≤ d ∧ d < nd g) ∧ (0 ≤ u ∧ u < nu g)
def lvZ (g : Int → Int) (d u : Int) : Int := 30 - 5 * absI (ds g d - us g u) - (if dh g d = uh g u then 0 else 12)
theorem lvZ_b {g : Int → Int} (w : wfF g) {d u : Int} (h0 : 0 ≤ d) (h1 : d < nd g) (h2 : 0 ≤ u) (h3 : u < nu g) : 3 ≤ lvZ g d u ∧ lvZ g d u ≤ 30 := by
  have a := wB_d w.1 h0 h1
  have b := wB_u w.1 h2 h3
  unfold lvZ absI
  split <;> split <;> omega
theorem fitZ_lv (g : Int → Int) (d u : Int) : fitZ g d u = max 0 (lvZ g d u - 2 * absI (dl g d - ul g u)) := rfl
def fitC (g : Int → Int) (d u : Int) : Int := if inF g d u then fitZ g d u else -1
theorem fitC_in {g : Int → Int} {d u : Int} (h : inF g d u) : fitC g d u = fitZ g d u := if_pos h
theorem fitC_out {g : Int → Int} {d u : Int} (h : ¬ inF g d u) : fitC g d u = -1 := if_neg h
theorem fitC_b (g : Int → Int) (d u : Int) : -1 ≤ fitC g d u ∧ fitC g d u ≤ 30 := by
  have := fitZ_b g d u
  unfold fitC
  split <;> omega
theorem fitC_n (g : Int → Int) (d u : Int) : fitC g d u = -1 ↔ ¬ inF g d u := by
  have := fitZ_b g d u
  unfold fitC
  split
  · constructor
    · intro q; omega
    · intro q; exact absurd ‹_› q
  · constructor
    · intro _; assumption
    · intro _; rfl
theorem fitC_s (g : Int → Int) (d u : Int) : (fitC g d u = -1 ∧ ¬ ((0 ≤ d ∧ d < nd g) ∧ (0 ≤ u ∧ u < nu g))) ∨ (fitC g d u = fitZ g d u ∧ (0 ≤ fitZ g d u ∧ fitZ g d u ≤ 30) ∧ (0 ≤ d ∧ d < nd g) ∧ (0 ≤ u ∧ u < nu g)) := by
  by_cases c : inF g d u
  · exact Or.inr ⟨fitC_in c, fitZ_b g d u, c⟩
  · exact Or.inl ⟨fitC_out c, c⟩
def powW (g : Int → Int) (d u w : Int) : Int := fitZ g d u + max 0 (de g d - w) + max 0 (ue g u - w)
theorem powW_b {g : Int → Int} (wf : wfF g) {d u w : Int} (h : inF g d u) (hw : 0 ≤ w) : 0 ≤ powW g d u w ∧ powW g d u w ≤ 70 := by
  have := fitZ_b g d u
  have a := wB_d wf.1 h.1.1 h.1.2
  have b := wB_u wf.1 h.2.1 h.2.2
  unfold powW
  omega
def powC (g : Int → Int) (d u w : Int) : Int := if inF g d u then powW g d u w else -1
theorem powC_in {g : Int → Int} {d u w : Int} (h : inF g d u) : powC g d u w = powW g d u w := if_pos h
theorem powC_out {g : Int → Int} {d u w : Int} (h : ¬ inF g d u) : powC g d u w = -1 := if_neg h
theorem powC_b {g : Int → Int} (wf : wfF g) {d u w : Int} (hw : 0 ≤ w) : -1 ≤ powC g d u w ∧ powC g d u w ≤ 70 := by
  unfold powC
  split
  · have := powW_b wf ‹_› hw; omega
  · omega
theorem powC_s {g : Int → Int} (wf : wfF g) (d u : Int) {w : Int} (hw : 0 ≤ w) : (powC g d u w = -1 ∧ ¬ ((0 ≤ d ∧ d < nd g) ∧ (0 ≤ u ∧ u < nu g))) ∨ (powC g d u w = powW g d u w ∧ (0 ≤ powW g d u w ∧ powW g d u w ≤ 70) ∧ (0 ≤ d ∧ d < nd g) ∧ (0 ≤ u ∧ u < nu g)) := by
  by_cases c : inF g d u
  · exact Or.inr ⟨powC_in c, powW_b wf c hw, c⟩
  · exact Or.inl ⟨powC_out c, c⟩
abbrev cutW (g : Int → Int) (d c w : Int) : Prop := upv g d ≠ -1 ∧ (0 ≤ c ∧ c < nc g) ∧ ha g c ≤ powW g d (upv g d) w
abbrev likZ (g : Int → Int) (d u o : Int) : Prop := fitZ g d o < fitZ g d u ∨ (fitZ g d u = fitZ g d o ∧ u < o)
set_option maxHeartbeats 400000 in
theorem zp_X0_has {ad : mA} {dd : Nat} {h : mH} {Q : mQ} {b : Nat}  (hk : blk h b)  (i : Int) (i_r : -2147483648 ≤ i ∧ i < 2147483648)  (kq : Q (some (.int (zI (bZ (0 ≤ i ∧ i < rI h b 5 ∧ i < 6))))) h) : mCal TB0 ad (dd + 1) M_X0_has [.ref b, .int (zI i)] h 0 0 Q := by
  refine ⟨Nat.le_of_ble_eq_true rfl, ?_⟩
  show mEv TB0 ad M_X0_has (dd + 1) (0, 0) (mCal TB0 ad (dd + 0)) (fun v h' z => z.1 = 0 ∧ Q v h') 0 [some (.ref b), some (.int (zI i))] [] h (0, 0)
  refine e_iload_n dX0_has_0 rfl ?_
  refine z_if_lt 22 dX0_has_1 rfl ⟨by omega, by omega⟩ (fun c1 => ?_) (fun c1 => ?_)
  · skip
    refine z_iconst (0) dX0_has_22 rfl ?_
    refine z_bret dX0_has_23 rfl (Or.inl rfl) ⟨rfl, ?_⟩
    refine z_q0 kq ?_
    omega
  · skip
    refine e_iload_n dX0_has_4 rfl ?_
    refine e_aload_n dX0_has_5 rfl ?_
    refine z_get (rI h b 5) dX0_has_6 tf_0_27 (congrArg Prod.fst (bl_s0 hk)) (Or.inl rfl) rfl ?_
    have y2 := rI_i h b 5
    refine z_icmp_ge 22 dX0_has_9 rfl ⟨by omega, by omega⟩ ⟨by omega, by omega⟩ (fun c3 => ?_) (fun c3 => ?_)
    · skip
      refine z_iconst (0) dX0_has_22 rfl ?_
      refine z_bret dX0_has_23 rfl (Or.inl rfl) ⟨rfl, ?_⟩
      refine z_q0 kq ?_
      omega
    · skip
      refine e_iload_n dX0_has_12 rfl ?_
      refine z_bipush (6) dX0_has_13 rfl ?_
      refine z_icmp_ge 22 dX0_has_15 rfl ⟨by omega, by omega⟩ ⟨by omega, by omega⟩ (fun c4 => ?_) (fun c4 => ?_)
      · skip
        refine z_iconst (0) dX0_has_22 rfl ?_
        refine z_bret dX0_has_23 rfl (Or.inl rfl) ⟨rfl, ?_⟩
        refine z_q0 kq ?_
        omega
      · skip
        refine z_iconst (1) dX0_has_18 rfl ?_
        refine e_goto 23 dX0_has_19 rfl ?_
        refine z_bret dX0_has_23 rfl (Or.inr rfl) ⟨rfl, ?_⟩
        refine z_q1 kq ?_
        omega
set_option maxHeartbeats 400000 in
theorem zp_X2_hasCloth {ad : mA} {dd : Nat} {h : mH} {Q : mQ} {f : Nat} {g : Int → Int} (hk : fgk h f) (HF : isF h f g)  (c : Int) (c_r : -2147483648 ≤ c ∧ c < 2147483648)  (kq : Q (some (.int (zI (bZ (0 ≤ c ∧ c < nc g))))) h) : mCal TB0 ad (dd + 1) M_X2_hasCloth [.ref f, .int (zI c)] h 0 0 Q := by
  refine ⟨Nat.le_of_ble_eq_true rfl, ?_⟩
  show mEv TB0 ad M_X2_hasCloth (dd + 1) (0, 0) (mCal TB0 ad (dd + 0)) (fun v h' z => z.1 = 0 ∧ Q v h') 0 [some (.ref f), some (.int (zI c))] [] h (0, 0)
  have w1 := isF_n HF
  have w2 := isF_nd HF
  have w3 := isF_nu HF
  have w4 := isF_nc HF
  have W := isF_w HF
  refine e_iload_n dX2_hasCloth_0 rfl ?_
  refine z_if_lt 22 dX2_hasCloth_1 rfl ⟨by omega, by omega⟩ (fun c1 => ?_) (fun c1 => ?_)
  · skip
    refine z_iconst (0) dX2_hasCloth_22 rfl ?_
    refine z_bret dX2_hasCloth_23 rfl (Or.inl rfl) ⟨rfl, ?_⟩
    refine z_q0 kq ?_
    omega
  · skip
    refine e_iload_n dX2_hasCloth_4 rfl ?_
    refine e_aload_n dX2_hasCloth_5 rfl ?_
    refine z_get (nc g) dX2_hasCloth_6 tf_2_31 (congrArg Prod.fst (fg_s0 hk)) (Or.inl rfl) (isF_nc HF) ?_
    have y2 := isF_n HF
    refine z_icmp_ge 22 dX2_hasCloth_9 rfl ⟨by omega, by omega⟩ ⟨by omega, by omega⟩ (fun c3 => ?_) (fun c3 => ?_)
    · skip
      refine z_iconst (0) dX2_hasCloth_22 rfl ?_
      refine z_bret dX2_hasCloth_23 rfl (Or.inl rfl) ⟨rfl, ?_⟩
      refine z_q0 kq ?_
      omega
    · skip
      refine e_iload_n dX2_hasCloth_12 rfl ?_
      refine z_bipush (6) dX2_hasCloth_13 rfl ?_
      refine z_icmp_ge 22 dX2_hasCloth_15 rfl ⟨by omega, by omega⟩ ⟨by omega, by omega⟩ (fun c4 => ?_) (fun c4 => ?_)
      · skip
        refine z_iconst (0) dX2_hasCloth_22 rfl ?_
        refine z_bret dX2_hasCloth_23 rfl (Or.inl rfl) ⟨rfl, ?_⟩
        refine z_q0 kq ?_
        omega
      · skip
        refine z_iconst (1) dX2_hasCloth_18 rfl ?_
        refine e_goto 23 dX2_hasCloth_19 rfl ?_
        refine z_bret dX2_hasCloth_23 rfl (Or.inr rfl) ⟨rfl, ?_⟩
        refine z_q1 kq ?_
        omega
set_option maxHeartbeats 400000 in
theorem zp_X2_upOf {ad : mA} {dd : Nat} {h : mH} {Q : mQ} {f : Nat} {g : Int → Int} (hk : fgk h f) (HF : isF h f g)  (d : Int) (d_r : -2147483648 ≤ d ∧ d < 2147483648)  (kq : Q (some (.int (zI (upv g d)))) h) : mCal TB0 ad (dd + 2) M_X2_upOf [.ref f, .int (zI d)] h 0 0 Q := by
  refine ⟨Nat.le_of_ble_eq_true rfl, ?_⟩
  show mEv TB0 ad M_X2_upOf (dd + 2) (0, 0) (mCal TB0 ad (dd + 1)) (fun v h' z => z.1 = 0 ∧ Q v h') 0 [some (.ref f), some (.int (zI d))] [] h (0, 0)
  have w1 := isF_n HF
  have w2 := isF_nd HF
  have w3 := isF_nu HF
  have w4 := isF_nc HF
  have W := isF_w HF
  refine e_aload_n dX2_upOf_0 rfl ?_
  refine e_get (.ref (f + 1)) dX2_upOf_1 tf_2_12 (congrArg Prod.fst (fg_s0 hk)) (congrArg va_rf (fg_r0_0 hk)) ?_
  refine e_iload_n dX2_upOf_4 rfl ?_
  refine e_callV [.int _] dX2_upOf_5 tm_2_45 rfl (Nat.le_of_ble_eq_true rfl) (congrArg Prod.fst (fg_s1 hk)) (Nat.le_of_ble_eq_true rfl) (Nat.le_refl _) (Nat.le_refl _) rfl (zp_X0_has (fg_bl1 hk) d ⟨by omega, by omega⟩ ?_)
  refine z_ifb_eq 42 dX2_upOf_8 rfl (fun c1 => ?_) (fun c1 => ?_)
  · skip
    refine z_iconst (-1) dX2_upOf_42 rfl ?_
    refine z_iret dX2_upOf_43 rfl ⟨rfl, ?_⟩
    refine z_q kq ?_
    unfold upv; split <;> omega
  · skip
    refine e_aload_n dX2_upOf_11 rfl ?_
    refine e_get (.ref (f + 7)) dX2_upOf_12 tf_2_18 (congrArg Prod.fst (fg_s0 hk)) (congrArg va_rf (fg_r0_1 hk)) ?_
    refine e_aload_n dX2_upOf_15 rfl ?_
    refine e_get (.ref (f + 1)) dX2_upOf_16 tf_2_12 (congrArg Prod.fst (fg_s0 hk)) (congrArg va_rf (fg_r0_0 hk)) ?_
    refine e_get (.ref (f + 6)) dX2_upOf_19 tf_2_42 (congrArg Prod.fst (fg_s1 hk)) (congrArg va_rf (fg_r1_4 hk)) ?_
    refine e_iload_n dX2_upOf_22 rfl ?_
    refine z_ild (dm g d) dX2_upOf_23 (fg_s6 hk) (by decide) (by omega) (by omega) (isF_dm HF (by omega) (by omega)) ?_
    have y2 := wM_d (isF_w HF).2.1 (show 0 ≤ d by omega) (by omega)
    refine e_callV [.int _] dX2_upOf_24 tm_2_45 rfl (Nat.le_of_ble_eq_true rfl) (congrArg Prod.fst (fg_s7 hk)) (Nat.le_of_ble_eq_true rfl) (Nat.le_refl _) (Nat.le_refl _) rfl (zp_X0_has (fg_bl7 hk) (dm g d) ⟨by omega, by omega⟩ ?_)
    refine z_ifb_eq 42 dX2_upOf_27 rfl (fun c3 => ?_) (fun c3 => ?_)
    · skip
      refine z_iconst (-1) dX2_upOf_42 rfl ?_
      refine z_iret dX2_upOf_43 rfl ⟨rfl, ?_⟩
      refine z_q kq ?_
      unfold upv; split <;> omega
    · skip
      refine e_aload_n dX2_upOf_30 rfl ?_
      refine e_get (.ref (f + 1)) dX2_upOf_31 tf_2_12 (congrArg Prod.fst (fg_s0 hk)) (congrArg va_rf (fg_r0_0 hk)) ?_
      refine e_get (.ref (f + 6)) dX2_upOf_34 tf_2_42 (congrArg Prod.fst (fg_s1 hk)) (congrArg va_rf (fg_r1_4 hk)) ?_
      refine e_iload_n dX2_upOf_37 rfl ?_
      refine z_ild (dm g d) dX2_upOf_38 (fg_s6 hk) (by decide) (by omega) (by omega) (isF_dm HF (by omega) (by omega)) ?_
      have y4 := wM_d (isF_w HF).2.1 (show 0 ≤ d by omega) (by omega)
      refine e_goto 43 dX2_upOf_39 rfl ?_
      refine z_iret dX2_upOf_43 rfl ⟨rfl, ?_⟩
      refine z_q kq ?_
      unfold upv; split <;> omega
set_option maxHeartbeats 400000 in
theorem zp_X2_levelFit {ad : mA} {dd : Nat} {h : mH} {Q : mQ} {f : Nat} {g : Int → Int} (hk : fgk h f) (HF : isF h f g)  (d : Int) (d_r : -2147483648 ≤ d ∧ d < 2147483648) (u : Int) (u_r : -2147483648 ≤ u ∧ u < 2147483648) (p1 : 0 ≤ d) (p2 : d < nd g) (p3 : 0 ≤ u) (p4 : u < nu g) (kq : Q (some (.int (zI (lvZ g d u)))) h) : mCal TB0 ad (dd + 1) M_X2_levelFit [.ref f, .int (zI d), .int (zI u)] h 0 0 Q := by
  refine ⟨Nat.le_of_ble_eq_true rfl, ?_⟩
  show mEv TB0 ad M_X2_levelFit (dd + 1) (0, 0) (mCal TB0 ad (dd + 0)) (fun v h' z => z.1 = 0 ∧ Q v h') 0 [some (.ref f), some (.int (zI d)), some (.int (zI u)), none] [] h (0, 0)
  have w1 := isF_n HF
  have w2 := isF_nd HF
  have w3 := isF_nu HF
  have w4 := isF_nc HF
  have W := isF_w HF
  refine z_iconst (5) dX2_levelFit_0 rfl ?_
  refine e_aload_n dX2_levelFit_1 rfl ?_
  refine e_get (.ref (f + 1)) dX2_levelFit_2 tf_2_12 (congrArg Prod.fst (fg_s0 hk)) (congrArg va_rf (fg_r0_0 hk)) ?_
  refine e_get (.ref (f + 3)) dX2_levelFit_5 tf_2_65 (congrArg Prod.fst (fg_s1 hk)) (congrArg va_rf (fg_r1_1 hk)) ?_
  refine e_iload_n dX2_levelFit_8 rfl ?_
  refine z_ild (ds g d) dX2_levelFit_9 (fg_s3 hk) (by decide) (by omega) (by omega) (isF_ds HF (by omega) (by omega)) ?_
  have y1 := wB_d (isF_w HF).1 (show 0 ≤ d by omega) (by omega)
  refine e_aload_n dX2_levelFit_10 rfl ?_
  refine e_get (.ref (f + 7)) dX2_levelFit_11 tf_2_18 (congrArg Prod.fst (fg_s0 hk)) (congrArg va_rf (fg_r0_1 hk)) ?_
  refine e_get (.ref (f + 9)) dX2_levelFit_14 tf_2_65 (congrArg Prod.fst (fg_s7 hk)) (congrArg va_rf (fg_r7_1 hk)) ?_
  refine e_iload_n dX2_levelFit_17 rfl ?_
  refine z_ild (us g u) dX2_levelFit_18 (fg_s9 hk) (by decide) (by omega) (by omega) (isF_us HF (by omega) (by omega)) ?_
  have y2 := wB_u (isF_w HF).1 (show 0 ≤ u by omega) (by omega)
  refine z_isub dX2_levelFit_19 ?_
  refine z_mabs dX2_levelFit_20 tm_2_56 (Nat.le_of_ble_eq_true rfl) ⟨by omega, by omega⟩ ?_
  have y3 := absI_s ((ds g d) - (us g u))
  refine z_imul dX2_levelFit_23 ?_
  refine e_istore_n (L' := [_, _, _, _]) dX2_levelFit_24 (Nat.le_of_ble_eq_true rfl) rfl ?_
  refine z_bipush (30) dX2_levelFit_25 rfl ?_
  refine e_iload_n dX2_levelFit_27 rfl ?_
  refine z_isub dX2_levelFit_28 ?_
  refine e_aload_n dX2_levelFit_29 rfl ?_
  refine e_get (.ref (f + 1)) dX2_levelFit_30 tf_2_12 (congrArg Prod.fst (fg_s0 hk)) (congrArg va_rf (fg_r0_0 hk)) ?_
  refine e_get (.ref (f + 5)) dX2_levelFit_33 tf_2_68 (congrArg Prod.fst (fg_s1 hk)) (congrArg va_rf (fg_r1_3 hk)) ?_
  refine e_iload_n dX2_levelFit_36 rfl ?_
  refine z_ild (dh g d) dX2_levelFit_37 (fg_s5 hk) (by decide) (by omega) (by omega) (isF_dh HF (by omega) (by omega)) ?_
  have y4 := wB_d (isF_w HF).1 (show 0 ≤ d by omega) (by omega)
  refine e_aload_n dX2_levelFit_38 rfl ?_
  refine e_get (.ref (f + 7)) dX2_levelFit_39 tf_2_18 (congrArg Prod.fst (fg_s0 hk)) (congrArg va_rf (fg_r0_1 hk)) ?_
  refine e_get (.ref (f + 11)) dX2_levelFit_42 tf_2_68 (congrArg Prod.fst (fg_s7 hk)) (congrArg va_rf (fg_r7_3 hk)) ?_
  refine e_iload_n dX2_levelFit_45 rfl ?_
  refine z_ild (uh g u) dX2_levelFit_46 (fg_s11 hk) (by decide) (by omega) (by omega) (isF_uh HF (by omega) (by omega)) ?_
  have y5 := wB_u (isF_w HF).1 (show 0 ≤ u by omega) (by omega)
  refine z_icmp_ne 54 dX2_levelFit_47 rfl ⟨by omega, by omega⟩ ⟨by omega, by omega⟩ (fun c6 => ?_) (fun c6 => ?_)
  · skip
    refine z_bipush (12) dX2_levelFit_54 rfl ?_
    refine z_isub dX2_levelFit_56 ?_
    refine z_iret dX2_levelFit_57 rfl ⟨rfl, ?_⟩
    refine z_q kq ?_
    unfold lvZ; first | rw [if_pos (by assumption)] | rw [if_neg (by assumption)]
  · skip
    refine z_iconst (0) dX2_levelFit_50 rfl ?_
    refine e_goto 56 dX2_levelFit_51 rfl ?_
    refine z_isub dX2_levelFit_56 ?_
    refine z_iret dX2_levelFit_57 rfl ⟨rfl, ?_⟩
    refine z_q kq ?_
    unfold lvZ; first | rw [if_pos (by assumption)] | rw [if_neg (by assumption)]
set_option maxHeartbeats 400000 in
theorem zp_X2_fitOf {ad : mA} {dd : Nat} {h : mH} {Q : mQ} {f : Nat} {g : Int → Int} (hk : fgk h f) (HF : isF h f g)  (d : Int) (d_r : -2147483648 ≤ d ∧ d < 2147483648) (u : Int) (u_r : -2147483648 ≤ u ∧ u < 2147483648)  (kq : Q (some (.int (zI (fitC g d u)))) h) : mCal TB0 ad (dd + 2) M_X2_fitOf [.ref f, .int (zI d), .int (zI u)] h 0 0 Q := by
  refine ⟨Nat.le_of_ble_eq_true rfl, ?_⟩
  show mEv TB0 ad M_X2_fitOf (dd + 2) (0, 0) (mCal TB0 ad (dd + 1)) (fun v h' z => z.1 = 0 ∧ Q v h') 0 [some (.ref f), some (.int (zI d)), some (.int (zI u))] [] h (0, 0)
  have w1 := isF_n HF
  have w2 := isF_nd HF
  have w3 := isF_nu HF
  have w4 := isF_nc HF
  have W := isF_w HF
  refine e_aload_n dX2_fitOf_0 rfl ?_
  refine e_get (.ref (f + 1)) dX2_fitOf_1 tf_2_12 (congrArg Prod.fst (fg_s0 hk)) (congrArg va_rf (fg_r0_0 hk)) ?_
  refine e_iload_n dX2_fitOf_4 rfl ?_
  refine e_callV [.int _] dX2_fitOf_5 tm_2_45 rfl (Nat.le_of_ble_eq_true rfl) (congrArg Prod.fst (fg_s1 hk)) (Nat.le_of_ble_eq_true rfl) (Nat.le_refl _) (Nat.le_refl _) rfl (zp_X0_has (fg_bl1 hk) d ⟨by omega, by omega⟩ ?_)
  refine z_ifb_eq 22 dX2_fitOf_8 rfl (fun c1 => ?_) (fun c1 => ?_)
  · skip
    refine z_iconst (-1) dX2_fitOf_22 rfl ?_
    refine z_iret dX2_fitOf_23 rfl ⟨rfl, ?_⟩
    refine z_q kq ?_
    first | exact (fitC_out (by omega)).symm | (rw [fitC_in (by omega), fitZ_lv])
  · skip
    refine e_aload_n dX2_fitOf_11 rfl ?_
    refine e_get (.ref (f + 7)) dX2_fitOf_12 tf_2_18 (congrArg Prod.fst (fg_s0 hk)) (congrArg va_rf (fg_r0_1 hk)) ?_
    refine e_iload_n dX2_fitOf_15 rfl ?_
    refine e_callV [.int _] dX2_fitOf_16 tm_2_45 rfl (Nat.le_of_ble_eq_true rfl) (congrArg Prod.fst (fg_s7 hk)) (Nat.le_of_ble_eq_true rfl) (Nat.le_refl _) (Nat.le_refl _) rfl (zp_X0_has (fg_bl7 hk) u ⟨by omega, by omega⟩ ?_)
    refine z_ifb_ne 24 dX2_fitOf_19 rfl (fun c2 => ?_) (fun c2 => ?_)
    · skip
      refine z_iconst (0) dX2_fitOf_24 rfl ?_
      refine e_aload_n dX2_fitOf_25 rfl ?_
      refine e_iload_n dX2_fitOf_26 rfl ?_
      refine e_iload_n dX2_fitOf_27 rfl ?_
      refine e_callV [.int _, .int _] dX2_fitOf_28 tm_2_49 rfl (Nat.le_of_ble_eq_true rfl) (congrArg Prod.fst (fg_s0 hk)) (Nat.le_of_ble_eq_true rfl) (Nat.le_refl _) (Nat.le_refl _) rfl (zp_X2_levelFit hk HF d ⟨by omega, by omega⟩ u ⟨by omega, by omega⟩ (by omega) (by omega) (by omega) (by omega) ?_)
      have y3 := lvZ_b (isF_w HF) (show 0 ≤ d by omega) (by omega) (show 0 ≤ u by omega) (by omega)
      refine z_iconst (2) dX2_fitOf_31 rfl ?_
      refine e_aload_n dX2_fitOf_32 rfl ?_
      refine e_get (.ref (f + 1)) dX2_fitOf_33 tf_2_12 (congrArg Prod.fst (fg_s0 hk)) (congrArg va_rf (fg_r0_0 hk)) ?_
      refine e_get (.ref (f + 2)) dX2_fitOf_36 tf_2_53 (congrArg Prod.fst (fg_s1 hk)) (congrArg va_rf (fg_r1_0 hk)) ?_
      refine e_iload_n dX2_fitOf_39 rfl ?_
      refine z_ild (dl g d) dX2_fitOf_40 (fg_s2 hk) (by decide) (by omega) (by omega) (isF_dl HF (by omega) (by omega)) ?_
      have y4 := wB_d (isF_w HF).1 (show 0 ≤ d by omega) (by omega)
      refine e_aload_n dX2_fitOf_41 rfl ?_
      refine e_get (.ref (f + 7)) dX2_fitOf_42 tf_2_18 (congrArg Prod.fst (fg_s0 hk)) (congrArg va_rf (fg_r0_1 hk)) ?_
      refine e_get (.ref (f + 8)) dX2_fitOf_45 tf_2_53 (congrArg Prod.fst (fg_s7 hk)) (congrArg va_rf (fg_r7_0 hk)) ?_
      refine e_iload_n dX2_fitOf_48 rfl ?_
      refine z_ild (ul g u) dX2_fitOf_49 (fg_s8 hk) (by decide) (by omega) (by omega) (isF_ul HF (by omega) (by omega)) ?_
      have y5 := wB_u (isF_w HF).1 (show 0 ≤ u by omega) (by omega)
      refine z_isub dX2_fitOf_50 ?_
      refine z_mabs dX2_fitOf_51 tm_2_56 (Nat.le_of_ble_eq_true rfl) ⟨by omega, by omega⟩ ?_
      have y6 := absI_s ((dl g d) - (ul g u))
      refine z_imul dX2_fitOf_54 ?_
      refine z_isub dX2_fitOf_55 ?_
      refine z_mmax dX2_fitOf_56 tm_2_62 (Nat.le_of_ble_eq_true rfl) ⟨by omega, by omega⟩ ⟨by omega, by omega⟩ ?_
      refine z_iret dX2_fitOf_59 rfl ⟨rfl, ?_⟩
      refine z_q kq ?_
      first | exact (fitC_out (by omega)).symm | (rw [fitC_in (by omega), fitZ_lv])
    · skip
      refine z_iconst (-1) dX2_fitOf_22 rfl ?_
      refine z_iret dX2_fitOf_23 rfl ⟨rfl, ?_⟩
      refine z_q kq ?_
      first | exact (fitC_out (by omega)).symm | (rw [fitC_in (by omega), fitZ_lv])
set_option maxHeartbeats 400000 in
theorem zp_X2_powerOf {ad : mA} {dd : Nat} {h : mH} {Q : mQ} {f : Nat} {g : Int → Int} (hk : fgk h f) (HF : isF h f g)  (d : Int) (d_r : -2147483648 ≤ d ∧ d < 2147483648) (u : Int) (u_r : -2147483648 ≤ u ∧ u < 2147483648) (w : Int) (w_r : -2147483648 ≤ w ∧ w < 2147483648) (pw : 0 ≤ w) (pw2 : w < 1000) (kq : Q (some (.int (zI (powC g d u w)))) h) : mCal TB0 ad (dd + 3) M_X2_powerOf [.ref f, .int (zI d), .int (zI u), .int (zI w)] h 0 0 Q := by
  refine ⟨Nat.le_of_ble_eq_true rfl, ?_⟩
  show mEv TB0 ad M_X2_powerOf (dd + 3) (0, 0) (mCal TB0 ad (dd + 2)) (fun v h' z => z.1 = 0 ∧ Q v h') 0 [some (.ref f), some (.int (zI d)), some (.int (zI u)), some (.int (zI w)), none] [] h (0, 0)
  have w1 := isF_n HF
  have w2 := isF_nd HF
  have w3 := isF_nu HF
  have w4 := isF_nc HF
  have W := isF_w HF
  refine e_aload_n dX2_powerOf_0 rfl ?_
  refine e_iload_n dX2_powerOf_1 rfl ?_
  refine e_iload_n dX2_powerOf_2 rfl ?_
  refine e_callV [.int _, .int _] dX2_powerOf_3 tm_2_71 rfl (Nat.le_of_ble_eq_true rfl) (congrArg Prod.fst (fg_s0 hk)) (Nat.le_of_ble_eq_true rfl) (Nat.le_refl _) (Nat.le_refl _) rfl (zp_X2_fitOf hk HF d ⟨by omega, by omega⟩ u ⟨by omega, by omega⟩ ?_)
  have y1 := fitC_s g d u
  refine e_istore (L' := [_, _, _, _, _]) dX2_powerOf_6 (Nat.le_of_ble_eq_true rfl) rfl ?_
  refine e_iload dX2_powerOf_8 rfl ?_
  refine z_iconst (-1) dX2_powerOf_10 rfl ?_
  refine z_icmp_ne 16 dX2_powerOf_11 rfl ⟨by omega, by omega⟩ ⟨by omega, by omega⟩ (fun c2 => ?_) (fun c2 => ?_)
  · skip
    refine e_iload dX2_powerOf_16 rfl ?_
    refine z_iconst (0) dX2_powerOf_18 rfl ?_
    refine e_aload_n dX2_powerOf_19 rfl ?_
    refine e_get (.ref (f + 1)) dX2_powerOf_20 tf_2_12 (congrArg Prod.fst (fg_s0 hk)) (congrArg va_rf (fg_r0_0 hk)) ?_
    refine e_get (.ref (f + 4)) dX2_powerOf_23 tf_2_74 (congrArg Prod.fst (fg_s1 hk)) (congrArg va_rf (fg_r1_2 hk)) ?_
    refine e_iload_n dX2_powerOf_26 rfl ?_
    refine z_ild (de g d) dX2_powerOf_27 (fg_s4 hk) (by decide) (by omega) (by omega) (isF_de HF (by omega) (by omega)) ?_
    have y3 := wB_d (isF_w HF).1 (show 0 ≤ d by omega) (by omega)
    refine e_iload_n dX2_powerOf_28 rfl ?_
    refine z_isub dX2_powerOf_29 ?_
    refine z_mmax dX2_powerOf_30 tm_2_62 (Nat.le_of_ble_eq_true rfl) ⟨by omega, by omega⟩ ⟨by omega, by omega⟩ ?_
    refine z_iadd dX2_powerOf_33 ?_
    refine z_iconst (0) dX2_powerOf_34 rfl ?_
    refine e_aload_n dX2_powerOf_35 rfl ?_
    refine e_get (.ref (f + 7)) dX2_powerOf_36 tf_2_18 (congrArg Prod.fst (fg_s0 hk)) (congrArg va_rf (fg_r0_1 hk)) ?_
    refine e_get (.ref (f + 10)) dX2_powerOf_39 tf_2_74 (congrArg Prod.fst (fg_s7 hk)) (congrArg va_rf (fg_r7_2 hk)) ?_
    refine e_iload_n dX2_powerOf_42 rfl ?_
    refine z_ild (ue g u) dX2_powerOf_43 (fg_s10 hk) (by decide) (by omega) (by omega) (isF_ue HF (by omega) (by omega)) ?_
    have y4 := wB_u (isF_w HF).1 (show 0 ≤ u by omega) (by omega)
    refine e_iload_n dX2_powerOf_44 rfl ?_
    refine z_isub dX2_powerOf_45 ?_
    refine z_mmax dX2_powerOf_46 tm_2_62 (Nat.le_of_ble_eq_true rfl) ⟨by omega, by omega⟩ ⟨by omega, by omega⟩ ?_
    refine z_iadd dX2_powerOf_49 ?_
    refine z_iret dX2_powerOf_50 rfl ⟨rfl, ?_⟩
    refine z_q kq ?_
    first | exact (powC_out (by omega)).symm | (rw [powC_in (by omega), fitC_in (by omega)]; rfl)
  · skip
    refine z_iconst (-1) dX2_powerOf_14 rfl ?_
    refine z_iret dX2_powerOf_15 rfl ⟨rfl, ?_⟩
    refine z_q kq ?_
    first | exact (powC_out (by omega)).symm | (rw [powC_in (by omega), fitC_in (by omega)]; rfl)
set_option maxHeartbeats 400000 in
theorem zp_X2_cutsWorn {ad : mA} {dd : Nat} {h : mH} {Q : mQ} {f : Nat} {g : Int → Int} (hk : fgk h f) (HF : isF h f g)  (d : Int) (d_r : -2147483648 ≤ d ∧ d < 2147483648) (c : Int) (c_r : -2147483648 ≤ c ∧ c < 2147483648) (w : Int) (w_r : -2147483648 ≤ w ∧ w < 2147483648) (pw : 0 ≤ w) (pw2 : w < 1000) (kq : Q (some (.int (zI (bZ (cutW g d c w))))) h) : mCal TB0 ad (dd + 4) M_X2_cutsWorn [.ref f, .int (zI d), .int (zI c), .int (zI w)] h 0 0 Q := by
  refine ⟨Nat.le_of_ble_eq_true rfl, ?_⟩
  show mEv TB0 ad M_X2_cutsWorn (dd + 4) (0, 0) (mCal TB0 ad (dd + 3)) (fun v h' z => z.1 = 0 ∧ Q v h') 0 [some (.ref f), some (.int (zI d)), some (.int (zI c)), some (.int (zI w)), none] [] h (0, 0)
  have w1 := isF_n HF
  have w2 := isF_nd HF
  have w3 := isF_nu HF
  have w4 := isF_nc HF
  have W := isF_w HF
  refine e_aload_n dX2_cutsWorn_0 rfl ?_
  refine e_iload_n dX2_cutsWorn_1 rfl ?_
  refine e_callV [.int _] dX2_cutsWorn_2 tm_2_77 rfl (Nat.le_of_ble_eq_true rfl) (congrArg Prod.fst (fg_s0 hk)) (Nat.le_of_ble_eq_true rfl) (Nat.le_refl _) (Nat.le_refl _) rfl (zp_X2_upOf hk HF d ⟨by omega, by omega⟩ ?_)
  have y1 := upv_s (isF_w HF) d
  refine e_istore (L' := [_, _, _, _, _]) dX2_cutsWorn_5 (Nat.le_of_ble_eq_true rfl) rfl ?_
  refine e_iload dX2_cutsWorn_7 rfl ?_
  refine z_iconst (-1) dX2_cutsWorn_9 rfl ?_
  refine z_icmp_eq 42 dX2_cutsWorn_10 rfl ⟨by omega, by omega⟩ ⟨by omega, by omega⟩ (fun c2 => ?_) (fun c2 => ?_)
  · skip
    refine z_iconst (0) dX2_cutsWorn_42 rfl ?_
    refine z_bret dX2_cutsWorn_43 rfl (Or.inl rfl) ⟨rfl, ?_⟩
    refine z_q0 kq ?_
    first | exact ⟨by omega, by omega, by omega⟩ | (rintro ⟨q1, q2, q3⟩; omega)
  · skip
    refine e_aload_n dX2_cutsWorn_13 rfl ?_
    refine e_iload_n dX2_cutsWorn_14 rfl ?_
    refine e_callV [.int _] dX2_cutsWorn_15 tm_2_80 rfl (Nat.le_of_ble_eq_true rfl) (congrArg Prod.fst (fg_s0 hk)) (Nat.le_of_ble_eq_true rfl) (Nat.le_refl _) (Nat.le_refl _) rfl (zp_X2_hasCloth hk HF c ⟨by omega, by omega⟩ ?_)
    refine z_ifb_eq 42 dX2_cutsWorn_18 rfl (fun c3 => ?_) (fun c3 => ?_)
    · skip
      refine z_iconst (0) dX2_cutsWorn_42 rfl ?_
      refine z_bret dX2_cutsWorn_43 rfl (Or.inl rfl) ⟨rfl, ?_⟩
      refine z_q0 kq ?_
      first | exact ⟨by omega, by omega, by omega⟩ | (rintro ⟨q1, q2, q3⟩; omega)
    · skip
      refine e_aload_n dX2_cutsWorn_21 rfl ?_
      refine e_iload_n dX2_cutsWorn_22 rfl ?_
      refine e_iload dX2_cutsWorn_23 rfl ?_
      refine e_iload_n dX2_cutsWorn_25 rfl ?_
      refine e_callV [.int _, .int _, .int _] dX2_cutsWorn_26 tm_2_83 rfl (Nat.le_of_ble_eq_true rfl) (congrArg Prod.fst (fg_s0 hk)) (Nat.le_of_ble_eq_true rfl) (Nat.le_refl _) (Nat.le_refl _) rfl (zp_X2_powerOf hk HF d ⟨by omega, by omega⟩ (upv g d) ⟨by omega, by omega⟩ w ⟨by omega, by omega⟩ (by omega) (by omega) ?_)
      have y4 := powC_s (isF_w HF) d (upv g d) (show 0 ≤ w by omega)
      refine e_aload_n dX2_cutsWorn_29 rfl ?_
      refine e_get (.ref (f + 13)) dX2_cutsWorn_30 tf_2_21 (congrArg Prod.fst (fg_s0 hk)) (congrArg va_rf (fg_r0_2 hk)) ?_
      refine e_iload_n dX2_cutsWorn_33 rfl ?_
      refine z_ild (ha g c) dX2_cutsWorn_34 (fg_s13 hk) (by decide) (by omega) (by omega) (isF_ha HF (by omega) (by omega)) ?_
      have y5 := wC_c (isF_w HF).2.2 (show 0 ≤ c by omega) (by omega)
      refine z_icmp_lt 42 dX2_cutsWorn_35 rfl ⟨by omega, by omega⟩ ⟨by omega, by omega⟩ (fun c6 => ?_) (fun c6 => ?_)
      · skip
        refine z_iconst (0) dX2_cutsWorn_42 rfl ?_
        refine z_bret dX2_cutsWorn_43 rfl (Or.inl rfl) ⟨rfl, ?_⟩
        refine z_q0 kq ?_
        first | exact ⟨by omega, by omega, by omega⟩ | (rintro ⟨q1, q2, q3⟩; omega)
      · skip
        refine z_iconst (1) dX2_cutsWorn_38 rfl ?_
        refine e_goto 43 dX2_cutsWorn_39 rfl ?_
        refine z_bret dX2_cutsWorn_43 rfl (Or.inr rfl) ⟨rfl, ?_⟩
        refine z_q1 kq ?_
        first | exact ⟨by omega, by omega, by omega⟩ | (rintro ⟨q1, q2, q3⟩; omega)
set_option maxHeartbeats 400000 in
theorem zp_X2_downLikesMore {ad : mA} {dd : Nat} {h : mH} {Q : mQ} {f : Nat} {g : Int → Int} (hk : fgk h f) (HF : isF h f g)  (d : Int) (d_r : -2147483648 ≤ d ∧ d < 2147483648) (u : Int) (u_r : -2147483648 ≤ u ∧ u < 2147483648) (o : Int) (o_r : -2147483648 ≤ o ∧ o < 2147483648) (p1 : inF g d u) (p2 : 0 ≤ o) (p3 : o < nu g) (kq : Q (some (.int (zI (bZ (likZ g d u o))))) h) : mCal TB0 ad (dd + 3) M_X2_downLikesMore [.ref f, .int (zI d), .int (zI u), .int (zI o)] h 0 0 Q := by
  refine ⟨Nat.le_of_ble_eq_true rfl, ?_⟩
  show mEv TB0 ad M_X2_downLikesMore (dd + 3) (0, 0) (mCal TB0 ad (dd + 2)) (fun v h' z => z.1 = 0 ∧ Q v h') 0 [some (.ref f), some (.int (zI d)), some (.int (zI u)), some (.int (zI o)), none] [] h (0, 0)
  have w1 := isF_n HF
  have w2 := isF_nd HF
  have w3 := isF_nu HF
  have w4 := isF_nc HF
  have W := isF_w HF
  refine e_aload_n dX2_downLikesMore_0 rfl ?_
  refine e_iload_n dX2_downLikesMore_1 rfl ?_
  refine e_iload_n dX2_downLikesMore_2 rfl ?_
  refine e_callV [.int _, .int _] dX2_downLikesMore_3 tm_2_71 rfl (Nat.le_of_ble_eq_true rfl) (congrArg Prod.fst (fg_s0 hk)) (Nat.le_of_ble_eq_true rfl) (Nat.le_refl _) (Nat.le_refl _) rfl (zp_X2_fitOf hk HF d ⟨by omega, by omega⟩ u ⟨by omega, by omega⟩ ?_)
  have y1 := fitC_s g d u
  refine e_aload_n dX2_downLikesMore_6 rfl ?_
  refine e_iload_n dX2_downLikesMore_7 rfl ?_
  refine e_iload_n dX2_downLikesMore_8 rfl ?_
  refine e_callV [.int _, .int _] dX2_downLikesMore_9 tm_2_71 rfl (Nat.le_of_ble_eq_true rfl) (congrArg Prod.fst (fg_s0 hk)) (Nat.le_of_ble_eq_true rfl) (Nat.le_refl _) (Nat.le_refl _) rfl (zp_X2_fitOf hk HF d ⟨by omega, by omega⟩ o ⟨by omega, by omega⟩ ?_)
  have y2 := fitC_s g d o
  refine z_isub dX2_downLikesMore_12 ?_
  refine e_istore (L' := [_, _, _, _, _]) dX2_downLikesMore_13 (Nat.le_of_ble_eq_true rfl) rfl ?_
  refine e_iload dX2_downLikesMore_15 rfl ?_
  refine z_if_gt 30 dX2_downLikesMore_17 rfl ⟨by omega, by omega⟩ (fun c3 => ?_) (fun c3 => ?_)
  · skip
    refine z_iconst (1) dX2_downLikesMore_30 rfl ?_
    refine e_goto 35 dX2_downLikesMore_31 rfl ?_
    refine z_bret dX2_downLikesMore_35 rfl (Or.inr rfl) ⟨rfl, ?_⟩
    refine z_q1 kq ?_
    omega
  · skip
    refine e_iload dX2_downLikesMore_20 rfl ?_
    refine z_if_ne 34 dX2_downLikesMore_22 rfl ⟨by omega, by omega⟩ (fun c4 => ?_) (fun c4 => ?_)
    · skip
      refine z_iconst (0) dX2_downLikesMore_34 rfl ?_
      refine z_bret dX2_downLikesMore_35 rfl (Or.inl rfl) ⟨rfl, ?_⟩
      refine z_q0 kq ?_
      omega
    · skip
      refine e_iload_n dX2_downLikesMore_25 rfl ?_
      refine e_iload_n dX2_downLikesMore_26 rfl ?_
      refine z_icmp_ge 34 dX2_downLikesMore_27 rfl ⟨by omega, by omega⟩ ⟨by omega, by omega⟩ (fun c5 => ?_) (fun c5 => ?_)
      · skip
        refine z_iconst (0) dX2_downLikesMore_34 rfl ?_
        refine z_bret dX2_downLikesMore_35 rfl (Or.inl rfl) ⟨rfl, ?_⟩
        refine z_q0 kq ?_
        omega
      · skip
        refine z_iconst (1) dX2_downLikesMore_30 rfl ?_
        refine e_goto 35 dX2_downLikesMore_31 rfl ?_
        refine z_bret dX2_downLikesMore_35 rfl (Or.inr rfl) ⟨rfl, ?_⟩
        refine z_q1 kq ?_
        omega

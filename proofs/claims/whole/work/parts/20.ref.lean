/-! THE REFERENCE: methods without loops (written by program: wip/whole/gen20.py) -/
theorem dX12_in_0 : decode cX12_in 0 = .ok (.iload_n 0, 1) := by decide +kernel
theorem dX12_in_1 : decode cX12_in 1 = .ok (.iload_n 1, 1) := by decide +kernel
theorem dX12_in_2 : decode cX12_in 2 = .ok (.if_icmp .lt 12, 3) := by decide +kernel
theorem dX12_in_5 : decode cX12_in 5 = .ok (.iload_n 0, 1) := by decide +kernel
theorem dX12_in_6 : decode cX12_in 6 = .ok (.iload_n 2, 1) := by decide +kernel
theorem dX12_in_7 : decode cX12_in 7 = .ok (.if_icmp .gt 7, 3) := by decide +kernel
theorem dX12_in_10 : decode cX12_in 10 = .ok (.iconst 1, 1) := by decide +kernel
theorem dX12_in_11 : decode cX12_in 11 = .ok (.goto 4, 3) := by decide +kernel
theorem dX12_in_14 : decode cX12_in 14 = .ok (.iconst 0, 1) := by decide +kernel
theorem dX12_in_15 : decode cX12_in 15 = .ok (.ireturn, 1) := by decide +kernel
theorem dX12_has_0 : decode cX12_has 0 = .ok (.iload_n 0, 1) := by decide +kernel
theorem dX12_has_1 : decode cX12_has 1 = .ok (.iload_n 1, 1) := by decide +kernel
theorem dX12_has_2 : decode cX12_has 2 = .ok (.ishr, 1) := by decide +kernel
theorem dX12_has_3 : decode cX12_has 3 = .ok (.iconst 1, 1) := by decide +kernel
theorem dX12_has_4 : decode cX12_has 4 = .ok (.iand, 1) := by decide +kernel
theorem dX12_has_5 : decode cX12_has 5 = .ok (.iconst 1, 1) := by decide +kernel
theorem dX12_has_6 : decode cX12_has 6 = .ok (.if_icmp .ne 7, 3) := by decide +kernel
theorem dX12_has_9 : decode cX12_has 9 = .ok (.iconst 1, 1) := by decide +kernel
theorem dX12_has_10 : decode cX12_has 10 = .ok (.goto 4, 3) := by decide +kernel
theorem dX12_has_13 : decode cX12_has 13 = .ok (.iconst 0, 1) := by decide +kernel
theorem dX12_has_14 : decode cX12_has 14 = .ok (.ireturn, 1) := by decide +kernel
theorem dX12_greater_0 : decode cX12_greater 0 = .ok (.iload_n 0, 1) := by decide +kernel
theorem dX12_greater_1 : decode cX12_greater 1 = .ok (.iload_n 1, 1) := by decide +kernel
theorem dX12_greater_2 : decode cX12_greater 2 = .ok (.if_icmp .le 7, 3) := by decide +kernel
theorem dX12_greater_5 : decode cX12_greater 5 = .ok (.iload_n 0, 1) := by decide +kernel
theorem dX12_greater_6 : decode cX12_greater 6 = .ok (.goto 4, 3) := by decide +kernel
theorem dX12_greater_9 : decode cX12_greater 9 = .ok (.iload_n 1, 1) := by decide +kernel
theorem dX12_greater_10 : decode cX12_greater 10 = .ok (.ireturn, 1) := by decide +kernel
theorem dX12_lesser_0 : decode cX12_lesser 0 = .ok (.iload_n 0, 1) := by decide +kernel
theorem dX12_lesser_1 : decode cX12_lesser 1 = .ok (.iload_n 1, 1) := by decide +kernel
theorem dX12_lesser_2 : decode cX12_lesser 2 = .ok (.if_icmp .ge 7, 3) := by decide +kernel
theorem dX12_lesser_5 : decode cX12_lesser 5 = .ok (.iload_n 0, 1) := by decide +kernel
theorem dX12_lesser_6 : decode cX12_lesser 6 = .ok (.goto 4, 3) := by decide +kernel
theorem dX12_lesser_9 : decode cX12_lesser 9 = .ok (.iload_n 1, 1) := by decide +kernel
theorem dX12_lesser_10 : decode cX12_lesser 10 = .ok (.ireturn, 1) := by decide +kernel
theorem dX12_apart_0 : decode cX12_apart 0 = .ok (.iload_n 0, 1) := by decide +kernel
theorem dX12_apart_1 : decode cX12_apart 1 = .ok (.iload_n 1, 1) := by decide +kernel
theorem dX12_apart_2 : decode cX12_apart 2 = .ok (.if_icmp .ge 9, 3) := by decide +kernel
theorem dX12_apart_5 : decode cX12_apart 5 = .ok (.iload_n 1, 1) := by decide +kernel
theorem dX12_apart_6 : decode cX12_apart 6 = .ok (.iload_n 0, 1) := by decide +kernel
theorem dX12_apart_7 : decode cX12_apart 7 = .ok (.isub, 1) := by decide +kernel
theorem dX12_apart_8 : decode cX12_apart 8 = .ok (.goto 6, 3) := by decide +kernel
theorem dX12_apart_11 : decode cX12_apart 11 = .ok (.iload_n 0, 1) := by decide +kernel
theorem dX12_apart_12 : decode cX12_apart 12 = .ok (.iload_n 1, 1) := by decide +kernel
theorem dX12_apart_13 : decode cX12_apart 13 = .ok (.isub, 1) := by decide +kernel
theorem dX12_apart_14 : decode cX12_apart 14 = .ok (.ireturn, 1) := by decide +kernel
theorem dX12_is_0 : decode cX12_is 0 = .ok (.iload_n 2, 1) := by decide +kernel
theorem dX12_is_1 : decode cX12_is 1 = .ok (.iconst 0, 1) := by decide +kernel
theorem dX12_is_2 : decode cX12_is 2 = .ok (.aload_n 0, 1) := by decide +kernel
theorem dX12_is_3 : decode cX12_is 3 = .ok (.getfield 23, 3) := by decide +kernel
theorem dX12_is_6 : decode cX12_is 6 = .ok (.iload_n 1, 1) := by decide +kernel
theorem dX12_is_7 : decode cX12_is 7 = .ok (.iaload, 1) := by decide +kernel
theorem dX12_is_8 : decode cX12_is 8 = .ok (.iconst 1, 1) := by decide +kernel
theorem dX12_is_9 : decode cX12_is 9 = .ok (.isub, 1) := by decide +kernel
theorem dX12_is_10 : decode cX12_is 10 = .ok (.invokestatic 115, 3) := by decide +kernel
theorem dX12_is_13 : decode cX12_is 13 = .ok (.ireturn, 1) := by decide +kernel
theorem dX12_end_0 : decode cX12_end 0 = .ok (.aload_n 0, 1) := by decide +kernel
theorem dX12_end_1 : decode cX12_end 1 = .ok (.iconst 0, 1) := by decide +kernel
theorem dX12_end_2 : decode cX12_end 2 = .ok (.putfield 103, 3) := by decide +kernel
theorem dX12_end_5 : decode cX12_end 5 = .ok (.iload_n 1, 1) := by decide +kernel
theorem dX12_end_6 : decode cX12_end 6 = .ok (.iconst 0, 1) := by decide +kernel
theorem dX12_end_7 : decode cX12_end 7 = .ok (.aload_n 0, 1) := by decide +kernel
theorem dX12_end_8 : decode cX12_end 8 = .ok (.getfield 13, 3) := by decide +kernel
theorem dX12_end_11 : decode cX12_end 11 = .ok (.iconst 0, 1) := by decide +kernel
theorem dX12_end_12 : decode cX12_end 12 = .ok (.iaload, 1) := by decide +kernel
theorem dX12_end_13 : decode cX12_end 13 = .ok (.invokestatic 115, 3) := by decide +kernel
theorem dX12_end_16 : decode cX12_end 16 = .ok (.ifCond .ne 5, 3) := by decide +kernel
theorem dX12_end_19 : decode cX12_end 19 = .ok (.iconst (-1), 1) := by decide +kernel
theorem dX12_end_20 : decode cX12_end 20 = .ok (.ireturn, 1) := by decide +kernel
theorem dX12_end_21 : decode cX12_end 21 = .ok (.aload_n 0, 1) := by decide +kernel
theorem dX12_end_22 : decode cX12_end 22 = .ok (.getfield 13, 3) := by decide +kernel
theorem dX12_end_25 : decode cX12_end 25 = .ok (.iconst 0, 1) := by decide +kernel
theorem dX12_end_26 : decode cX12_end 26 = .ok (.iload_n 1, 1) := by decide +kernel
theorem dX12_end_27 : decode cX12_end 27 = .ok (.iastore, 1) := by decide +kernel
theorem dX12_end_28 : decode cX12_end 28 = .ok (.iload_n 1, 1) := by decide +kernel
theorem dX12_end_29 : decode cX12_end 29 = .ok (.ireturn, 1) := by decide +kernel
theorem dX12_fault_0 : decode cX12_fault 0 = .ok (.aload_n 0, 1) := by decide +kernel
theorem dX12_fault_1 : decode cX12_fault 1 = .ok (.iconst 0, 1) := by decide +kernel
theorem dX12_fault_2 : decode cX12_fault 2 = .ok (.putfield 103, 3) := by decide +kernel
theorem dX12_fault_5 : decode cX12_fault 5 = .ok (.iload_n 1, 1) := by decide +kernel
theorem dX12_fault_6 : decode cX12_fault 6 = .ok (.ifCond .ne 12, 3) := by decide +kernel
theorem dX12_fault_9 : decode cX12_fault 9 = .ok (.aload_n 0, 1) := by decide +kernel
theorem dX12_fault_10 : decode cX12_fault 10 = .ok (.getfield 17, 3) := by decide +kernel
theorem dX12_fault_13 : decode cX12_fault 13 = .ok (.iconst 0, 1) := by decide +kernel
theorem dX12_fault_14 : decode cX12_fault 14 = .ok (.iaload, 1) := by decide +kernel
theorem dX12_fault_15 : decode cX12_fault 15 = .ok (.goto 18, 3) := by decide +kernel
theorem dX12_fault_18 : decode cX12_fault 18 = .ok (.iload_n 1, 1) := by decide +kernel
theorem dX12_fault_19 : decode cX12_fault 19 = .ok (.iconst 1, 1) := by decide +kernel
theorem dX12_fault_20 : decode cX12_fault 20 = .ok (.if_icmp .ne 12, 3) := by decide +kernel
theorem dX12_fault_23 : decode cX12_fault 23 = .ok (.aload_n 0, 1) := by decide +kernel
theorem dX12_fault_24 : decode cX12_fault 24 = .ok (.getfield 20, 3) := by decide +kernel
theorem dX12_fault_27 : decode cX12_fault 27 = .ok (.iconst 0, 1) := by decide +kernel
theorem dX12_fault_28 : decode cX12_fault 28 = .ok (.iaload, 1) := by decide +kernel
theorem dX12_fault_29 : decode cX12_fault 29 = .ok (.goto 4, 3) := by decide +kernel
theorem dX12_fault_32 : decode cX12_fault 32 = .ok (.iconst (-1), 1) := by decide +kernel
theorem dX12_fault_33 : decode cX12_fault 33 = .ok (.ireturn, 1) := by decide +kernel
theorem dX12_isDown_0 : decode cX12_isDown 0 = .ok (.iload_n 1, 1) := by decide +kernel
theorem dX12_isDown_1 : decode cX12_isDown 1 = .ok (.iconst 0, 1) := by decide +kernel
theorem dX12_isDown_2 : decode cX12_isDown 2 = .ok (.aload_n 0, 1) := by decide +kernel
theorem dX12_isDown_3 : decode cX12_isDown 3 = .ok (.getfield 271, 3) := by decide +kernel
theorem dX12_isDown_6 : decode cX12_isDown 6 = .ok (.iconst 1, 1) := by decide +kernel
theorem dX12_isDown_7 : decode cX12_isDown 7 = .ok (.isub, 1) := by decide +kernel
theorem dX12_isDown_8 : decode cX12_isDown 8 = .ok (.invokestatic 115, 3) := by decide +kernel
theorem dX12_isDown_11 : decode cX12_isDown 11 = .ok (.ireturn, 1) := by decide +kernel
theorem dX12_isUp_0 : decode cX12_isUp 0 = .ok (.iload_n 1, 1) := by decide +kernel
theorem dX12_isUp_1 : decode cX12_isUp 1 = .ok (.iconst 0, 1) := by decide +kernel
theorem dX12_isUp_2 : decode cX12_isUp 2 = .ok (.aload_n 0, 1) := by decide +kernel
theorem dX12_isUp_3 : decode cX12_isUp 3 = .ok (.getfield 274, 3) := by decide +kernel
theorem dX12_isUp_6 : decode cX12_isUp 6 = .ok (.iconst 1, 1) := by decide +kernel
theorem dX12_isUp_7 : decode cX12_isUp 7 = .ok (.isub, 1) := by decide +kernel
theorem dX12_isUp_8 : decode cX12_isUp 8 = .ok (.invokestatic 115, 3) := by decide +kernel
theorem dX12_isUp_11 : decode cX12_isUp 11 = .ok (.ireturn, 1) := by decide +kernel
theorem dX12_isCloth_0 : decode cX12_isCloth 0 = .ok (.iload_n 1, 1) := by decide +kernel
theorem dX12_isCloth_1 : decode cX12_isCloth 1 = .ok (.iconst 0, 1) := by decide +kernel
theorem dX12_isCloth_2 : decode cX12_isCloth 2 = .ok (.aload_n 0, 1) := by decide +kernel
theorem dX12_isCloth_3 : decode cX12_isCloth 3 = .ok (.getfield 277, 3) := by decide +kernel
theorem dX12_isCloth_6 : decode cX12_isCloth 6 = .ok (.iconst 1, 1) := by decide +kernel
theorem dX12_isCloth_7 : decode cX12_isCloth 7 = .ok (.isub, 1) := by decide +kernel
theorem dX12_isCloth_8 : decode cX12_isCloth 8 = .ok (.invokestatic 115, 3) := by decide +kernel
theorem dX12_isCloth_11 : decode cX12_isCloth 11 = .ok (.ireturn, 1) := by decide +kernel
theorem dX12_isPaired_0 : decode cX12_isPaired 0 = .ok (.aload_n 0, 1) := by decide +kernel
theorem dX12_isPaired_1 : decode cX12_isPaired 1 = .ok (.getfield 53, 3) := by decide +kernel
theorem dX12_isPaired_4 : decode cX12_isPaired 4 = .ok (.iload_n 1, 1) := by decide +kernel
theorem dX12_isPaired_5 : decode cX12_isPaired 5 = .ok (.iaload, 1) := by decide +kernel
theorem dX12_isPaired_6 : decode cX12_isPaired 6 = .ok (.iconst (-1), 1) := by decide +kernel
theorem dX12_isPaired_7 : decode cX12_isPaired 7 = .ok (.if_icmp .eq 7, 3) := by decide +kernel
theorem dX12_isPaired_10 : decode cX12_isPaired 10 = .ok (.iconst 1, 1) := by decide +kernel
theorem dX12_isPaired_11 : decode cX12_isPaired 11 = .ok (.goto 4, 3) := by decide +kernel
theorem dX12_isPaired_14 : decode cX12_isPaired 14 = .ok (.iconst 0, 1) := by decide +kernel
theorem dX12_isPaired_15 : decode cX12_isPaired 15 = .ok (.ireturn, 1) := by decide +kernel
theorem dX12_fitOf_0 : decode cX12_fitOf 0 = .ok (.iconst 2, 1) := by decide +kernel
theorem dX12_fitOf_1 : decode cX12_fitOf 1 = .ok (.aload_n 0, 1) := by decide +kernel
theorem dX12_fitOf_2 : decode cX12_fitOf 2 = .ok (.getfield 41, 3) := by decide +kernel
theorem dX12_fitOf_5 : decode cX12_fitOf 5 = .ok (.iload_n 1, 1) := by decide +kernel
theorem dX12_fitOf_6 : decode cX12_fitOf 6 = .ok (.iaload, 1) := by decide +kernel
theorem dX12_fitOf_7 : decode cX12_fitOf 7 = .ok (.aload_n 0, 1) := by decide +kernel
theorem dX12_fitOf_8 : decode cX12_fitOf 8 = .ok (.getfield 41, 3) := by decide +kernel
theorem dX12_fitOf_11 : decode cX12_fitOf 11 = .ok (.bipush 6, 2) := by decide +kernel
theorem dX12_fitOf_13 : decode cX12_fitOf 13 = .ok (.iload_n 2, 1) := by decide +kernel
theorem dX12_fitOf_14 : decode cX12_fitOf 14 = .ok (.iadd, 1) := by decide +kernel
theorem dX12_fitOf_15 : decode cX12_fitOf 15 = .ok (.iaload, 1) := by decide +kernel
theorem dX12_fitOf_16 : decode cX12_fitOf 16 = .ok (.invokestatic 280, 3) := by decide +kernel
theorem dX12_fitOf_19 : decode cX12_fitOf 19 = .ok (.imul, 1) := by decide +kernel
theorem dX12_fitOf_20 : decode cX12_fitOf 20 = .ok (.iconst 5, 1) := by decide +kernel
theorem dX12_fitOf_21 : decode cX12_fitOf 21 = .ok (.aload_n 0, 1) := by decide +kernel
theorem dX12_fitOf_22 : decode cX12_fitOf 22 = .ok (.getfield 44, 3) := by decide +kernel
theorem dX12_fitOf_25 : decode cX12_fitOf 25 = .ok (.iload_n 1, 1) := by decide +kernel
theorem dX12_fitOf_26 : decode cX12_fitOf 26 = .ok (.iaload, 1) := by decide +kernel
theorem dX12_fitOf_27 : decode cX12_fitOf 27 = .ok (.aload_n 0, 1) := by decide +kernel
theorem dX12_fitOf_28 : decode cX12_fitOf 28 = .ok (.getfield 44, 3) := by decide +kernel
theorem dX12_fitOf_31 : decode cX12_fitOf 31 = .ok (.bipush 6, 2) := by decide +kernel
theorem dX12_fitOf_33 : decode cX12_fitOf 33 = .ok (.iload_n 2, 1) := by decide +kernel
theorem dX12_fitOf_34 : decode cX12_fitOf 34 = .ok (.iadd, 1) := by decide +kernel
theorem dX12_fitOf_35 : decode cX12_fitOf 35 = .ok (.iaload, 1) := by decide +kernel
theorem dX12_fitOf_36 : decode cX12_fitOf 36 = .ok (.invokestatic 280, 3) := by decide +kernel
theorem dX12_fitOf_39 : decode cX12_fitOf 39 = .ok (.imul, 1) := by decide +kernel
theorem dX12_fitOf_40 : decode cX12_fitOf 40 = .ok (.iadd, 1) := by decide +kernel
theorem dX12_fitOf_41 : decode cX12_fitOf 41 = .ok (.aload_n 0, 1) := by decide +kernel
theorem dX12_fitOf_42 : decode cX12_fitOf 42 = .ok (.getfield 50, 3) := by decide +kernel
theorem dX12_fitOf_45 : decode cX12_fitOf 45 = .ok (.iload_n 1, 1) := by decide +kernel
theorem dX12_fitOf_46 : decode cX12_fitOf 46 = .ok (.iaload, 1) := by decide +kernel
theorem dX12_fitOf_47 : decode cX12_fitOf 47 = .ok (.aload_n 0, 1) := by decide +kernel
theorem dX12_fitOf_48 : decode cX12_fitOf 48 = .ok (.getfield 50, 3) := by decide +kernel
theorem dX12_fitOf_51 : decode cX12_fitOf 51 = .ok (.bipush 6, 2) := by decide +kernel
theorem dX12_fitOf_53 : decode cX12_fitOf 53 = .ok (.iload_n 2, 1) := by decide +kernel
theorem dX12_fitOf_54 : decode cX12_fitOf 54 = .ok (.iadd, 1) := by decide +kernel
theorem dX12_fitOf_55 : decode cX12_fitOf 55 = .ok (.iaload, 1) := by decide +kernel
theorem dX12_fitOf_56 : decode cX12_fitOf 56 = .ok (.if_icmp .ne 7, 3) := by decide +kernel
theorem dX12_fitOf_59 : decode cX12_fitOf 59 = .ok (.iconst 0, 1) := by decide +kernel
theorem dX12_fitOf_60 : decode cX12_fitOf 60 = .ok (.goto 5, 3) := by decide +kernel
theorem dX12_fitOf_63 : decode cX12_fitOf 63 = .ok (.bipush 12, 2) := by decide +kernel
theorem dX12_fitOf_65 : decode cX12_fitOf 65 = .ok (.iadd, 1) := by decide +kernel
theorem dX12_fitOf_66 : decode cX12_fitOf 66 = .ok (.istore_n 3, 1) := by decide +kernel
theorem dX12_fitOf_67 : decode cX12_fitOf 67 = .ok (.iconst 0, 1) := by decide +kernel
theorem dX12_fitOf_68 : decode cX12_fitOf 68 = .ok (.bipush 30, 2) := by decide +kernel
theorem dX12_fitOf_70 : decode cX12_fitOf 70 = .ok (.iload_n 3, 1) := by decide +kernel
theorem dX12_fitOf_71 : decode cX12_fitOf 71 = .ok (.isub, 1) := by decide +kernel
theorem dX12_fitOf_72 : decode cX12_fitOf 72 = .ok (.invokestatic 176, 3) := by decide +kernel
theorem dX12_fitOf_75 : decode cX12_fitOf 75 = .ok (.ireturn, 1) := by decide +kernel
theorem dX12_powerOf_0 : decode cX12_powerOf 0 = .ok (.aload_n 0, 1) := by decide +kernel
theorem dX12_powerOf_1 : decode cX12_powerOf 1 = .ok (.iload_n 1, 1) := by decide +kernel
theorem dX12_powerOf_2 : decode cX12_powerOf 2 = .ok (.iload_n 2, 1) := by decide +kernel
theorem dX12_powerOf_3 : decode cX12_powerOf 3 = .ok (.invokevirtual 283, 3) := by decide +kernel
theorem dX12_powerOf_6 : decode cX12_powerOf 6 = .ok (.aload_n 0, 1) := by decide +kernel
theorem dX12_powerOf_7 : decode cX12_powerOf 7 = .ok (.getfield 47, 3) := by decide +kernel
theorem dX12_powerOf_10 : decode cX12_powerOf 10 = .ok (.iload_n 1, 1) := by decide +kernel
theorem dX12_powerOf_11 : decode cX12_powerOf 11 = .ok (.iaload, 1) := by decide +kernel
theorem dX12_powerOf_12 : decode cX12_powerOf 12 = .ok (.iadd, 1) := by decide +kernel
theorem dX12_powerOf_13 : decode cX12_powerOf 13 = .ok (.aload_n 0, 1) := by decide +kernel
theorem dX12_powerOf_14 : decode cX12_powerOf 14 = .ok (.getfield 47, 3) := by decide +kernel
theorem dX12_powerOf_17 : decode cX12_powerOf 17 = .ok (.bipush 6, 2) := by decide +kernel
theorem dX12_powerOf_19 : decode cX12_powerOf 19 = .ok (.iload_n 2, 1) := by decide +kernel
theorem dX12_powerOf_20 : decode cX12_powerOf 20 = .ok (.iadd, 1) := by decide +kernel
theorem dX12_powerOf_21 : decode cX12_powerOf 21 = .ok (.iaload, 1) := by decide +kernel
theorem dX12_powerOf_22 : decode cX12_powerOf 22 = .ok (.iadd, 1) := by decide +kernel
theorem dX12_powerOf_23 : decode cX12_powerOf 23 = .ok (.ireturn, 1) := by decide +kernel
theorem dX12_hasYear_0 : decode cX12_hasYear 0 = .ok (.aload_n 0, 1) := by decide +kernel
theorem dX12_hasYear_1 : decode cX12_hasYear 1 = .ok (.iload_n 1, 1) := by decide +kernel
theorem dX12_hasYear_2 : decode cX12_hasYear 2 = .ok (.putfield 301, 3) := by decide +kernel
theorem dX12_hasYear_5 : decode cX12_hasYear 5 = .ok (.aload_n 0, 1) := by decide +kernel
theorem dX12_hasYear_6 : decode cX12_hasYear 6 = .ok (.iconst 1, 1) := by decide +kernel
theorem dX12_hasYear_7 : decode cX12_hasYear 7 = .ok (.iload_n 1, 1) := by decide +kernel
theorem dX12_hasYear_8 : decode cX12_hasYear 8 = .ok (.invokevirtual 254, 3) := by decide +kernel
theorem dX12_hasYear_11 : decode cX12_hasYear 11 = .ok (.ireturn, 1) := by decide +kernel
theorem dX12_sellsFirst_0 : decode cX12_sellsFirst 0 = .ok (.iload_n 0, 1) := by decide +kernel
theorem dX12_sellsFirst_1 : decode cX12_sellsFirst 1 = .ok (.iload_n 1, 1) := by decide +kernel
theorem dX12_sellsFirst_2 : decode cX12_sellsFirst 2 = .ok (.if_icmp .gt 7, 3) := by decide +kernel
theorem dX12_sellsFirst_5 : decode cX12_sellsFirst 5 = .ok (.iconst 1, 1) := by decide +kernel
theorem dX12_sellsFirst_6 : decode cX12_sellsFirst 6 = .ok (.goto 4, 3) := by decide +kernel
theorem dX12_sellsFirst_9 : decode cX12_sellsFirst 9 = .ok (.iconst 0, 1) := by decide +kernel
theorem dX12_sellsFirst_10 : decode cX12_sellsFirst 10 = .ok (.ireturn, 1) := by decide +kernel
theorem dX12_hasClues_0 : decode cX12_hasClues 0 = .ok (.aload_n 0, 1) := by decide +kernel
theorem dX12_hasClues_1 : decode cX12_hasClues 1 = .ok (.iload_n 1, 1) := by decide +kernel
theorem dX12_hasClues_2 : decode cX12_hasClues 2 = .ok (.putfield 502, 3) := by decide +kernel
theorem dX12_hasClues_5 : decode cX12_hasClues 5 = .ok (.aload_n 0, 1) := by decide +kernel
theorem dX12_hasClues_6 : decode cX12_hasClues 6 = .ok (.iconst 2, 1) := by decide +kernel
theorem dX12_hasClues_7 : decode cX12_hasClues 7 = .ok (.iload_n 1, 1) := by decide +kernel
theorem dX12_hasClues_8 : decode cX12_hasClues 8 = .ok (.invokevirtual 254, 3) := by decide +kernel
theorem dX12_hasClues_11 : decode cX12_hasClues 11 = .ok (.ireturn, 1) := by decide +kernel
theorem tf_12_13 : tFld TB0 12 13 = some (12, 2) := rfl
theorem tf_12_17 : tFld TB0 12 17 = some (12, 3) := rfl
theorem tf_12_20 : tFld TB0 12 20 = some (12, 4) := rfl
theorem tf_12_23 : tFld TB0 12 23 = some (12, 5) := rfl
theorem tf_12_41 : tFld TB0 12 41 = some (12, 27) := rfl
theorem tf_12_44 : tFld TB0 12 44 = some (12, 28) := rfl
theorem tf_12_47 : tFld TB0 12 47 = some (12, 29) := rfl
theorem tf_12_50 : tFld TB0 12 50 = some (12, 30) := rfl
theorem tf_12_53 : tFld TB0 12 53 = some (12, 31) := rfl
theorem tf_12_103 : tFld TB0 12 103 = some (12, 0) := rfl
theorem tf_12_271 : tFld TB0 12 271 = some (12, 24) := rfl
theorem tf_12_274 : tFld TB0 12 274 = some (12, 25) := rfl
theorem tf_12_277 : tFld TB0 12 277 = some (12, 26) := rfl
theorem tf_12_301 : tFld TB0 12 301 = some (12, 32) := rfl
theorem tf_12_502 : tFld TB0 12 502 = some (12, 54) := rfl
set_option maxRecDepth 20000 in
theorem tm_12_115 : tMet TB0 12 115 = some (1, M_X12_in) := rfl
set_option maxRecDepth 20000 in
theorem tm_12_176 : tMet TB0 12 176 = some (1, M_X12_greater) := rfl
set_option maxRecDepth 20000 in
theorem tm_12_254 : tMet TB0 12 254 = some (0, M_X12_is) := rfl
set_option maxRecDepth 20000 in
theorem tm_12_280 : tMet TB0 12 280 = some (1, M_X12_apart) := rfl
set_option maxRecDepth 20000 in
theorem tm_12_283 : tMet TB0 12 283 = some (0, M_X12_fitOf) := rfl
theorem nz_or {x : Int32} (h : x = 0 ∨ x = 1) : narrow .boolean (.int x) = .int x := by rcases h with rfl | rfl <;> rfl
def F_X12_in (v : Int32) (lo : Int32) (hi : Int32) : Int32 := (if v < lo then nI (0) else (if hi < v then nI (0) else nI (1)))
set_option maxHeartbeats 1000000 in
theorem sp_X12_in {ad : mA} {d : Nat} {h : mH} {Q : mQ} (v : Int32) (lo : Int32) (hi : Int32)  (kq : Q (some (.int (F_X12_in v lo hi))) h) : mCal TB0 ad (d + 1) M_X12_in [.int v, .int lo, .int hi] h 0 0 Q := by
  refine ⟨Nat.le_of_ble_eq_true rfl, ?_⟩
  show mEv _ _ _ _ _ _ _ 0 [some (.int v), some (.int lo), some (.int hi)] [] _ _
  refine e_iload_n dX12_in_0 rfl ?_
  refine e_iload_n dX12_in_1 rfl ?_
  refine e_icmp_lt 14 dX12_in_2 rfl (fun c_1 => ?_) (fun c_1 => ?_)
  · skip
    refine e_iconst (nI 0) dX12_in_14 rfl ?_
    refine e_zret dX12_in_15 rfl rfl ⟨rfl, ?_⟩
    unfold F_X12_in at kq
    simp only [if_pos c_1] at kq
    exact kq
  · skip
    refine e_iload_n dX12_in_5 rfl ?_
    refine e_iload_n dX12_in_6 rfl ?_
    refine e_icmp_gt 14 dX12_in_7 rfl (fun c_2 => ?_) (fun c_2 => ?_)
    · skip
      refine e_iconst (nI 0) dX12_in_14 rfl ?_
      refine e_zret dX12_in_15 rfl rfl ⟨rfl, ?_⟩
      unfold F_X12_in at kq
      simp only [if_neg c_1, if_pos c_2] at kq
      exact kq
    · skip
      refine e_iconst (nI 1) dX12_in_10 rfl ?_
      refine e_goto 15 dX12_in_11 rfl ?_
      refine e_zret dX12_in_15 rfl rfl ⟨rfl, ?_⟩
      unfold F_X12_in at kq
      simp only [if_neg c_1, if_neg c_2] at kq
      exact kq
theorem Fz_X12_in (v : Int32) (lo : Int32) (hi : Int32) : F_X12_in v lo hi = 0 ∨ F_X12_in v lo hi = 1 := by
  unfold F_X12_in
  (repeat' split) <;> first | exact Or.inl rfl | exact Or.inr rfl
def F_X12_has (s : Int32) (k : Int32) : Int32 := (if ¬ ((s >>> (k &&& 31)) &&& nI (1)) = nI (1) then nI (0) else nI (1))
set_option maxHeartbeats 1000000 in
theorem sp_X12_has {ad : mA} {d : Nat} {h : mH} {Q : mQ} (s : Int32) (k : Int32)  (kq : Q (some (.int (F_X12_has s k))) h) : mCal TB0 ad (d + 1) M_X12_has [.int s, .int k] h 0 0 Q := by
  refine ⟨Nat.le_of_ble_eq_true rfl, ?_⟩
  show mEv _ _ _ _ _ _ _ 0 [some (.int s), some (.int k)] [] _ _
  refine e_iload_n dX12_has_0 rfl ?_
  refine e_iload_n dX12_has_1 rfl ?_
  refine e_ishr dX12_has_2 ?_
  refine e_iconst (nI 1) dX12_has_3 rfl ?_
  refine e_iand dX12_has_4 ?_
  refine e_iconst (nI 1) dX12_has_5 rfl ?_
  refine e_icmp_ne 13 dX12_has_6 rfl (fun c_1 => ?_) (fun c_1 => ?_)
  · skip
    refine e_iconst (nI 0) dX12_has_13 rfl ?_
    refine e_zret dX12_has_14 rfl rfl ⟨rfl, ?_⟩
    unfold F_X12_has at kq
    simp only [if_pos c_1] at kq
    exact kq
  · skip
    refine e_iconst (nI 1) dX12_has_9 rfl ?_
    refine e_goto 14 dX12_has_10 rfl ?_
    refine e_zret dX12_has_14 rfl rfl ⟨rfl, ?_⟩
    unfold F_X12_has at kq
    simp only [if_neg (fun q : ¬ ((s >>> (k &&& 31)) &&& nI (1)) = nI (1) => q c_1)] at kq
    exact kq
theorem Fz_X12_has (s : Int32) (k : Int32) : F_X12_has s k = 0 ∨ F_X12_has s k = 1 := by
  unfold F_X12_has
  (repeat' split) <;> first | exact Or.inl rfl | exact Or.inr rfl
def F_X12_greater (a : Int32) (b : Int32) : Int32 := (if a ≤ b then b else a)
set_option maxHeartbeats 1000000 in
theorem sp_X12_greater {ad : mA} {d : Nat} {h : mH} {Q : mQ} (a : Int32) (b : Int32)  (kq : Q (some (.int (F_X12_greater a b))) h) : mCal TB0 ad (d + 1) M_X12_greater [.int a, .int b] h 0 0 Q := by
  refine ⟨Nat.le_of_ble_eq_true rfl, ?_⟩
  show mEv _ _ _ _ _ _ _ 0 [some (.int a), some (.int b)] [] _ _
  refine e_iload_n dX12_greater_0 rfl ?_
  refine e_iload_n dX12_greater_1 rfl ?_
  refine e_icmp_le 9 dX12_greater_2 rfl (fun c_1 => ?_) (fun c_1 => ?_)
  · skip
    refine e_iload_n dX12_greater_9 rfl ?_
    refine e_iret dX12_greater_10 rfl ⟨rfl, ?_⟩
    unfold F_X12_greater at kq
    simp only [if_pos c_1] at kq
    exact kq
  · skip
    refine e_iload_n dX12_greater_5 rfl ?_
    refine e_goto 10 dX12_greater_6 rfl ?_
    refine e_iret dX12_greater_10 rfl ⟨rfl, ?_⟩
    unfold F_X12_greater at kq
    simp only [if_neg c_1] at kq
    exact kq
def F_X12_lesser (a : Int32) (b : Int32) : Int32 := (if b ≤ a then b else a)
set_option maxHeartbeats 1000000 in
theorem sp_X12_lesser {ad : mA} {d : Nat} {h : mH} {Q : mQ} (a : Int32) (b : Int32)  (kq : Q (some (.int (F_X12_lesser a b))) h) : mCal TB0 ad (d + 1) M_X12_lesser [.int a, .int b] h 0 0 Q := by
  refine ⟨Nat.le_of_ble_eq_true rfl, ?_⟩
  show mEv _ _ _ _ _ _ _ 0 [some (.int a), some (.int b)] [] _ _
  refine e_iload_n dX12_lesser_0 rfl ?_
  refine e_iload_n dX12_lesser_1 rfl ?_
  refine e_icmp_ge 9 dX12_lesser_2 rfl (fun c_1 => ?_) (fun c_1 => ?_)
  · skip
    refine e_iload_n dX12_lesser_9 rfl ?_
    refine e_iret dX12_lesser_10 rfl ⟨rfl, ?_⟩
    unfold F_X12_lesser at kq
    simp only [if_pos c_1] at kq
    exact kq
  · skip
    refine e_iload_n dX12_lesser_5 rfl ?_
    refine e_goto 10 dX12_lesser_6 rfl ?_
    refine e_iret dX12_lesser_10 rfl ⟨rfl, ?_⟩
    unfold F_X12_lesser at kq
    simp only [if_neg c_1] at kq
    exact kq
def F_X12_apart (a : Int32) (b : Int32) : Int32 := (if b ≤ a then (a - b) else (b - a))
set_option maxHeartbeats 1000000 in
theorem sp_X12_apart {ad : mA} {d : Nat} {h : mH} {Q : mQ} (a : Int32) (b : Int32)  (kq : Q (some (.int (F_X12_apart a b))) h) : mCal TB0 ad (d + 1) M_X12_apart [.int a, .int b] h 0 0 Q := by
  refine ⟨Nat.le_of_ble_eq_true rfl, ?_⟩
  show mEv _ _ _ _ _ _ _ 0 [some (.int a), some (.int b)] [] _ _
  refine e_iload_n dX12_apart_0 rfl ?_
  refine e_iload_n dX12_apart_1 rfl ?_
  refine e_icmp_ge 11 dX12_apart_2 rfl (fun c_1 => ?_) (fun c_1 => ?_)
  · skip
    refine e_iload_n dX12_apart_11 rfl ?_
    refine e_iload_n dX12_apart_12 rfl ?_
    refine e_isub dX12_apart_13 ?_
    refine e_iret dX12_apart_14 rfl ⟨rfl, ?_⟩
    unfold F_X12_apart at kq
    simp only [if_pos c_1] at kq
    exact kq
  · skip
    refine e_iload_n dX12_apart_5 rfl ?_
    refine e_iload_n dX12_apart_6 rfl ?_
    refine e_isub dX12_apart_7 ?_
    refine e_goto 14 dX12_apart_8 rfl ?_
    refine e_iret dX12_apart_14 rfl ⟨rfl, ?_⟩
    unfold F_X12_apart at kq
    simp only [if_neg c_1] at kq
    exact kq
def F_X12_sellsFirst (a : Int32) (b : Int32) : Int32 := (if b < a then nI (0) else nI (1))
set_option maxHeartbeats 1000000 in
theorem sp_X12_sellsFirst {ad : mA} {d : Nat} {h : mH} {Q : mQ} (a : Int32) (b : Int32)  (kq : Q (some (.int (F_X12_sellsFirst a b))) h) : mCal TB0 ad (d + 1) M_X12_sellsFirst [.int a, .int b] h 0 0 Q := by
  refine ⟨Nat.le_of_ble_eq_true rfl, ?_⟩
  show mEv _ _ _ _ _ _ _ 0 [some (.int a), some (.int b)] [] _ _
  refine e_iload_n dX12_sellsFirst_0 rfl ?_
  refine e_iload_n dX12_sellsFirst_1 rfl ?_
  refine e_icmp_gt 9 dX12_sellsFirst_2 rfl (fun c_1 => ?_) (fun c_1 => ?_)
  · skip
    refine e_iconst (nI 0) dX12_sellsFirst_9 rfl ?_
    refine e_zret dX12_sellsFirst_10 rfl rfl ⟨rfl, ?_⟩
    unfold F_X12_sellsFirst at kq
    simp only [if_pos c_1] at kq
    exact kq
  · skip
    refine e_iconst (nI 1) dX12_sellsFirst_5 rfl ?_
    refine e_goto 10 dX12_sellsFirst_6 rfl ?_
    refine e_zret dX12_sellsFirst_10 rfl rfl ⟨rfl, ?_⟩
    unfold F_X12_sellsFirst at kq
    simp only [if_neg c_1] at kq
    exact kq
theorem Fz_X12_sellsFirst (a : Int32) (b : Int32) : F_X12_sellsFirst a b = 0 ∨ F_X12_sellsFirst a b = 1 := by
  unfold F_X12_sellsFirst
  (repeat' split) <;> first | exact Or.inl rfl | exact Or.inr rfl
def F_X12_is (h : mH) (m : Nat) (s : Nat) (k : Int32) : Int32 := (F_X12_in k (nI (0)) ((mI h (m + 5) (s)) - nI (1)))
set_option maxHeartbeats 1000000 in
theorem sp_X12_is {ad : mA} {d : Nat} {h : mH} {Q : mQ} {m : Nat} (hk : rk h m) (s : Nat) (hs : s < 12) (k : Int32)  (kq : Q (some (.int (F_X12_is h m s k))) h) : mCal TB0 ad (d + 2) M_X12_is [.ref m, .int (nI s), .int k] h 0 0 Q := by
  refine ⟨Nat.le_of_ble_eq_true rfl, ?_⟩
  show mEv _ _ _ _ _ _ _ 0 [some (.ref m), some (.int (nI (s))), some (.int k)] [] _ _
  refine e_iload_n dX12_is_0 rfl ?_
  refine e_iconst (nI 0) dX12_is_1 rfl ?_
  refine e_aload_n dX12_is_2 rfl ?_
  refine e_get (.ref (m + 5)) dX12_is_3 tf_12_23 (rk_s hk) (congrArg va_rf (rk_r5 hk)) ?_
  refine e_iload_n dX12_is_6 rfl ?_
  refine e_ild (s) dX12_is_7 (rk_a5 hk) (vp_in_nI (by omega) (by omega)) (nI_clamp (by omega)) ?_
  refine e_iconst (nI 1) dX12_is_8 rfl ?_
  refine e_isub dX12_is_9 ?_
  refine e_callS [.int _, .int _, .int _] dX12_is_10 tm_12_115 rfl (Nat.le_of_ble_eq_true rfl) (Nat.le_refl _) (Nat.le_refl _) rfl (sp_X12_in _ _ _  ?_)
  refine e_zret dX12_is_13 rfl (nz_or (Fz_X12_in _ _ _)) ⟨rfl, ?_⟩
  unfold F_X12_is at kq
  exact kq
theorem Fz_X12_is (h : mH) (m : Nat) (s : Nat) (k : Int32) : F_X12_is h m s k = 0 ∨ F_X12_is h m s k = 1 := by
  unfold F_X12_is
  exact Fz_X12_in _ _ _
def F_X12_isDown (h : mH) (m : Nat) (x : Int32) : Int32 := (F_X12_in x (nI (0)) ((mI h m 24) - nI (1)))
set_option maxHeartbeats 1000000 in
theorem sp_X12_isDown {ad : mA} {d : Nat} {h : mH} {Q : mQ} {m : Nat} (hk : rk h m) (x : Int32)  (kq : Q (some (.int (F_X12_isDown h m x))) h) : mCal TB0 ad (d + 2) M_X12_isDown [.ref m, .int x] h 0 0 Q := by
  refine ⟨Nat.le_of_ble_eq_true rfl, ?_⟩
  show mEv _ _ _ _ _ _ _ 0 [some (.ref m), some (.int x)] [] _ _
  refine e_iload_n dX12_isDown_0 rfl ?_
  refine e_iconst (nI 0) dX12_isDown_1 rfl ?_
  refine e_aload_n dX12_isDown_2 rfl ?_
  refine e_get (.int (mI _ m 24)) dX12_isDown_3 tf_12_271 (rk_s hk) rfl ?_
  refine e_iconst (nI 1) dX12_isDown_6 rfl ?_
  refine e_isub dX12_isDown_7 ?_
  refine e_callS [.int _, .int _, .int _] dX12_isDown_8 tm_12_115 rfl (Nat.le_of_ble_eq_true rfl) (Nat.le_refl _) (Nat.le_refl _) rfl (sp_X12_in _ _ _  ?_)
  refine e_zret dX12_isDown_11 rfl (nz_or (Fz_X12_in _ _ _)) ⟨rfl, ?_⟩
  unfold F_X12_isDown at kq
  exact kq
theorem Fz_X12_isDown (h : mH) (m : Nat) (x : Int32) : F_X12_isDown h m x = 0 ∨ F_X12_isDown h m x = 1 := by
  unfold F_X12_isDown
  exact Fz_X12_in _ _ _
def F_X12_isUp (h : mH) (m : Nat) (x : Int32) : Int32 := (F_X12_in x (nI (0)) ((mI h m 25) - nI (1)))
set_option maxHeartbeats 1000000 in
theorem sp_X12_isUp {ad : mA} {d : Nat} {h : mH} {Q : mQ} {m : Nat} (hk : rk h m) (x : Int32)  (kq : Q (some (.int (F_X12_isUp h m x))) h) : mCal TB0 ad (d + 2) M_X12_isUp [.ref m, .int x] h 0 0 Q := by
  refine ⟨Nat.le_of_ble_eq_true rfl, ?_⟩
  show mEv _ _ _ _ _ _ _ 0 [some (.ref m), some (.int x)] [] _ _
  refine e_iload_n dX12_isUp_0 rfl ?_
  refine e_iconst (nI 0) dX12_isUp_1 rfl ?_
  refine e_aload_n dX12_isUp_2 rfl ?_
  refine e_get (.int (mI _ m 25)) dX12_isUp_3 tf_12_274 (rk_s hk) rfl ?_
  refine e_iconst (nI 1) dX12_isUp_6 rfl ?_
  refine e_isub dX12_isUp_7 ?_
  refine e_callS [.int _, .int _, .int _] dX12_isUp_8 tm_12_115 rfl (Nat.le_of_ble_eq_true rfl) (Nat.le_refl _) (Nat.le_refl _) rfl (sp_X12_in _ _ _  ?_)
  refine e_zret dX12_isUp_11 rfl (nz_or (Fz_X12_in _ _ _)) ⟨rfl, ?_⟩
  unfold F_X12_isUp at kq
  exact kq
theorem Fz_X12_isUp (h : mH) (m : Nat) (x : Int32) : F_X12_isUp h m x = 0 ∨ F_X12_isUp h m x = 1 := by
  unfold F_X12_isUp
  exact Fz_X12_in _ _ _
def F_X12_isCloth (h : mH) (m : Nat) (x : Int32) : Int32 := (F_X12_in x (nI (0)) ((mI h m 26) - nI (1)))
set_option maxHeartbeats 1000000 in
theorem sp_X12_isCloth {ad : mA} {d : Nat} {h : mH} {Q : mQ} {m : Nat} (hk : rk h m) (x : Int32)  (kq : Q (some (.int (F_X12_isCloth h m x))) h) : mCal TB0 ad (d + 2) M_X12_isCloth [.ref m, .int x] h 0 0 Q := by
  refine ⟨Nat.le_of_ble_eq_true rfl, ?_⟩
  show mEv _ _ _ _ _ _ _ 0 [some (.ref m), some (.int x)] [] _ _
  refine e_iload_n dX12_isCloth_0 rfl ?_
  refine e_iconst (nI 0) dX12_isCloth_1 rfl ?_
  refine e_aload_n dX12_isCloth_2 rfl ?_
  refine e_get (.int (mI _ m 26)) dX12_isCloth_3 tf_12_277 (rk_s hk) rfl ?_
  refine e_iconst (nI 1) dX12_isCloth_6 rfl ?_
  refine e_isub dX12_isCloth_7 ?_
  refine e_callS [.int _, .int _, .int _] dX12_isCloth_8 tm_12_115 rfl (Nat.le_of_ble_eq_true rfl) (Nat.le_refl _) (Nat.le_refl _) rfl (sp_X12_in _ _ _  ?_)
  refine e_zret dX12_isCloth_11 rfl (nz_or (Fz_X12_in _ _ _)) ⟨rfl, ?_⟩
  unfold F_X12_isCloth at kq
  exact kq
theorem Fz_X12_isCloth (h : mH) (m : Nat) (x : Int32) : F_X12_isCloth h m x = 0 ∨ F_X12_isCloth h m x = 1 := by
  unfold F_X12_isCloth
  exact Fz_X12_in _ _ _
def F_X12_isPaired (h : mH) (m : Nat) (x : Nat) : Int32 := (if (mI h (m + 15) (x)) = (-1) then nI (0) else nI (1))
set_option maxHeartbeats 1000000 in
theorem sp_X12_isPaired {ad : mA} {d : Nat} {h : mH} {Q : mQ} {m : Nat} (hk : rk h m) (x : Nat) (hx : x < 12)  (kq : Q (some (.int (F_X12_isPaired h m x))) h) : mCal TB0 ad (d + 1) M_X12_isPaired [.ref m, .int (nI x)] h 0 0 Q := by
  refine ⟨Nat.le_of_ble_eq_true rfl, ?_⟩
  show mEv _ _ _ _ _ _ _ 0 [some (.ref m), some (.int (nI (x)))] [] _ _
  refine e_aload_n dX12_isPaired_0 rfl ?_
  refine e_get (.ref (m + 15)) dX12_isPaired_1 tf_12_53 (rk_s hk) (congrArg va_rf (rk_r15 hk)) ?_
  refine e_iload_n dX12_isPaired_4 rfl ?_
  refine e_ild (x) dX12_isPaired_5 (rk_a15 hk) (vp_in_nI (by omega) (by omega)) (nI_clamp (by omega)) ?_
  refine e_iconst (-1) dX12_isPaired_6 rfl ?_
  refine e_icmp_eq 14 dX12_isPaired_7 rfl (fun c_1 => ?_) (fun c_1 => ?_)
  · skip
    refine e_iconst (nI 0) dX12_isPaired_14 rfl ?_
    refine e_zret dX12_isPaired_15 rfl rfl ⟨rfl, ?_⟩
    unfold F_X12_isPaired at kq
    simp only [if_pos c_1] at kq
    exact kq
  · skip
    refine e_iconst (nI 1) dX12_isPaired_10 rfl ?_
    refine e_goto 15 dX12_isPaired_11 rfl ?_
    refine e_zret dX12_isPaired_15 rfl rfl ⟨rfl, ?_⟩
    unfold F_X12_isPaired at kq
    simp only [if_neg c_1] at kq
    exact kq
theorem Fz_X12_isPaired (h : mH) (m : Nat) (x : Nat) : F_X12_isPaired h m x = 0 ∨ F_X12_isPaired h m x = 1 := by
  unfold F_X12_isPaired
  (repeat' split) <;> first | exact Or.inl rfl | exact Or.inr rfl
def F_X12_fitOf (h : mH) (m : Nat) (x : Nat) (u : Nat) : Int32 := (if ¬ (mI h (m + 14) (x)) = (mI h (m + 14) ((6 + u))) then (F_X12_greater (nI (0)) (nI (30) - (((nI (2) * (F_X12_apart (mI h (m + 11) (x)) (mI h (m + 11) ((6 + u))))) + (nI (5) * (F_X12_apart (mI h (m + 12) (x)) (mI h (m + 12) ((6 + u)))))) + nI (12)))) else (F_X12_greater (nI (0)) (nI (30) - (((nI (2) * (F_X12_apart (mI h (m + 11) (x)) (mI h (m + 11) ((6 + u))))) + (nI (5) * (F_X12_apart (mI h (m + 12) (x)) (mI h (m + 12) ((6 + u)))))) + nI (0)))))
set_option maxHeartbeats 1000000 in
theorem sp_X12_fitOf {ad : mA} {d : Nat} {h : mH} {Q : mQ} {m : Nat} (hk : rk h m) (x : Nat) (hx : x < 6) (u : Nat) (hu : u < 6)  (kq : Q (some (.int (F_X12_fitOf h m x u))) h) : mCal TB0 ad (d + 2) M_X12_fitOf [.ref m, .int (nI x), .int (nI u)] h 0 0 Q := by
  refine ⟨Nat.le_of_ble_eq_true rfl, ?_⟩
  show mEv _ _ _ _ _ _ _ 0 [some (.ref m), some (.int (nI (x))), some (.int (nI (u))), none] [] _ _
  refine e_iconst (nI 2) dX12_fitOf_0 rfl ?_
  refine e_aload_n dX12_fitOf_1 rfl ?_
  refine e_get (.ref (m + 11)) dX12_fitOf_2 tf_12_41 (rk_s hk) (congrArg va_rf (rk_r11 hk)) ?_
  refine e_iload_n dX12_fitOf_5 rfl ?_
  refine e_ild (x) dX12_fitOf_6 (rk_a11 hk) (vp_in_nI (by omega) (by omega)) (nI_clamp (by omega)) ?_
  refine e_aload_n dX12_fitOf_7 rfl ?_
  refine e_get (.ref (m + 11)) dX12_fitOf_8 tf_12_41 (rk_s hk) (congrArg va_rf (rk_r11 hk)) ?_
  refine e_bipush (nI 6) dX12_fitOf_11 rfl ?_
  refine e_iload_n dX12_fitOf_13 rfl ?_
  refine e_iaddN dX12_fitOf_14 ?_
  refine e_ild ((6 + u)) dX12_fitOf_15 (rk_a11 hk) (vp_in_nI (by omega) (by omega)) (nI_clamp (by omega)) ?_
  refine e_callS [.int _, .int _] dX12_fitOf_16 tm_12_280 rfl (Nat.le_of_ble_eq_true rfl) (Nat.le_refl _) (Nat.le_refl _) rfl (sp_X12_apart _ _  ?_)
  refine e_imul dX12_fitOf_19 ?_
  refine e_iconst (nI 5) dX12_fitOf_20 rfl ?_
  refine e_aload_n dX12_fitOf_21 rfl ?_
  refine e_get (.ref (m + 12)) dX12_fitOf_22 tf_12_44 (rk_s hk) (congrArg va_rf (rk_r12 hk)) ?_
  refine e_iload_n dX12_fitOf_25 rfl ?_
  refine e_ild (x) dX12_fitOf_26 (rk_a12 hk) (vp_in_nI (by omega) (by omega)) (nI_clamp (by omega)) ?_
  refine e_aload_n dX12_fitOf_27 rfl ?_
  refine e_get (.ref (m + 12)) dX12_fitOf_28 tf_12_44 (rk_s hk) (congrArg va_rf (rk_r12 hk)) ?_
  refine e_bipush (nI 6) dX12_fitOf_31 rfl ?_
  refine e_iload_n dX12_fitOf_33 rfl ?_
  refine e_iaddN dX12_fitOf_34 ?_
  refine e_ild ((6 + u)) dX12_fitOf_35 (rk_a12 hk) (vp_in_nI (by omega) (by omega)) (nI_clamp (by omega)) ?_
  refine e_callS [.int _, .int _] dX12_fitOf_36 tm_12_280 rfl (Nat.le_of_ble_eq_true rfl) (Nat.le_refl _) (Nat.le_refl _) rfl (sp_X12_apart _ _  ?_)
  refine e_imul dX12_fitOf_39 ?_
  refine e_iadd dX12_fitOf_40 ?_
  refine e_aload_n dX12_fitOf_41 rfl ?_
  refine e_get (.ref (m + 14)) dX12_fitOf_42 tf_12_50 (rk_s hk) (congrArg va_rf (rk_r14 hk)) ?_
  refine e_iload_n dX12_fitOf_45 rfl ?_
  refine e_ild (x) dX12_fitOf_46 (rk_a14 hk) (vp_in_nI (by omega) (by omega)) (nI_clamp (by omega)) ?_
  refine e_aload_n dX12_fitOf_47 rfl ?_
  refine e_get (.ref (m + 14)) dX12_fitOf_48 tf_12_50 (rk_s hk) (congrArg va_rf (rk_r14 hk)) ?_
  refine e_bipush (nI 6) dX12_fitOf_51 rfl ?_
  refine e_iload_n dX12_fitOf_53 rfl ?_
  refine e_iaddN dX12_fitOf_54 ?_
  refine e_ild ((6 + u)) dX12_fitOf_55 (rk_a14 hk) (vp_in_nI (by omega) (by omega)) (nI_clamp (by omega)) ?_
  refine e_icmp_ne 63 dX12_fitOf_56 rfl (fun c_1 => ?_) (fun c_1 => ?_)
  · skip
    refine e_bipush (nI 12) dX12_fitOf_63 rfl ?_
    refine e_iadd dX12_fitOf_65 ?_
    refine e_istore_n (L' := [_, _, _, _]) dX12_fitOf_66 (Nat.le_of_ble_eq_true rfl) rfl ?_
    refine e_iconst (nI 0) dX12_fitOf_67 rfl ?_
    refine e_bipush (nI 30) dX12_fitOf_68 rfl ?_
    refine e_iload_n dX12_fitOf_70 rfl ?_
    refine e_isub dX12_fitOf_71 ?_
    refine e_callS [.int _, .int _] dX12_fitOf_72 tm_12_176 rfl (Nat.le_of_ble_eq_true rfl) (Nat.le_refl _) (Nat.le_refl _) rfl (sp_X12_greater _ _  ?_)
    refine e_iret dX12_fitOf_75 rfl ⟨rfl, ?_⟩
    unfold F_X12_fitOf at kq
    simp only [if_pos c_1] at kq
    exact kq
  · skip
    refine e_iconst (nI 0) dX12_fitOf_59 rfl ?_
    refine e_goto 65 dX12_fitOf_60 rfl ?_
    refine e_iadd dX12_fitOf_65 ?_
    refine e_istore_n (L' := [_, _, _, _]) dX12_fitOf_66 (Nat.le_of_ble_eq_true rfl) rfl ?_
    refine e_iconst (nI 0) dX12_fitOf_67 rfl ?_
    refine e_bipush (nI 30) dX12_fitOf_68 rfl ?_
    refine e_iload_n dX12_fitOf_70 rfl ?_
    refine e_isub dX12_fitOf_71 ?_
    refine e_callS [.int _, .int _] dX12_fitOf_72 tm_12_176 rfl (Nat.le_of_ble_eq_true rfl) (Nat.le_refl _) (Nat.le_refl _) rfl (sp_X12_greater _ _  ?_)
    refine e_iret dX12_fitOf_75 rfl ⟨rfl, ?_⟩
    unfold F_X12_fitOf at kq
    simp only [if_neg (fun q : ¬ (mI h (m + 14) (x)) = (mI h (m + 14) ((6 + u))) => q c_1)] at kq
    exact kq
def F_X12_powerOf (h : mH) (m : Nat) (x : Nat) (u : Nat) : Int32 := (((F_X12_fitOf h m x u) + (mI h (m + 13) (x))) + (mI h (m + 13) ((6 + u))))
set_option maxHeartbeats 1000000 in
theorem sp_X12_powerOf {ad : mA} {d : Nat} {h : mH} {Q : mQ} {m : Nat} (hk : rk h m) (x : Nat) (hx : x < 6) (u : Nat) (hu : u < 6)  (kq : Q (some (.int (F_X12_powerOf h m x u))) h) : mCal TB0 ad (d + 3) M_X12_powerOf [.ref m, .int (nI x), .int (nI u)] h 0 0 Q := by
  refine ⟨Nat.le_of_ble_eq_true rfl, ?_⟩
  show mEv _ _ _ _ _ _ _ 0 [some (.ref m), some (.int (nI (x))), some (.int (nI (u)))] [] _ _
  refine e_aload_n dX12_powerOf_0 rfl ?_
  refine e_iload_n dX12_powerOf_1 rfl ?_
  refine e_iload_n dX12_powerOf_2 rfl ?_
  refine e_callV [.int _, .int _] dX12_powerOf_3 tm_12_283 rfl (Nat.le_of_ble_eq_true rfl) (rk_s hk) (Nat.le_of_ble_eq_true rfl) (Nat.le_refl _) (Nat.le_refl _) rfl (sp_X12_fitOf (by exact hk) x (by omega) u (by omega)  ?_)
  refine e_aload_n dX12_powerOf_6 rfl ?_
  refine e_get (.ref (m + 13)) dX12_powerOf_7 tf_12_47 (rk_s hk) (congrArg va_rf (rk_r13 hk)) ?_
  refine e_iload_n dX12_powerOf_10 rfl ?_
  refine e_ild (x) dX12_powerOf_11 (rk_a13 hk) (vp_in_nI (by omega) (by omega)) (nI_clamp (by omega)) ?_
  refine e_iadd dX12_powerOf_12 ?_
  refine e_aload_n dX12_powerOf_13 rfl ?_
  refine e_get (.ref (m + 13)) dX12_powerOf_14 tf_12_47 (rk_s hk) (congrArg va_rf (rk_r13 hk)) ?_
  refine e_bipush (nI 6) dX12_powerOf_17 rfl ?_
  refine e_iload_n dX12_powerOf_19 rfl ?_
  refine e_iaddN dX12_powerOf_20 ?_
  refine e_ild ((6 + u)) dX12_powerOf_21 (rk_a13 hk) (vp_in_nI (by omega) (by omega)) (nI_clamp (by omega)) ?_
  refine e_iadd dX12_powerOf_22 ?_
  refine e_iret dX12_powerOf_23 rfl ⟨rfl, ?_⟩
  unfold F_X12_powerOf at kq
  exact kq
def F_X12_hasYear (h : mH) (m : Nat) (x : Int32) : Int32 := (F_X12_is (wI h m 32 x) m 1 x)
def H_X12_hasYear (h : mH) (m : Nat) (x : Int32) : mH := (wI h m 32 x)
set_option maxHeartbeats 1000000 in
theorem sp_X12_hasYear {ad : mA} {d : Nat} {h : mH} {Q : mQ} {m : Nat} (hk : rk h m) (x : Int32)  (kq : Q (some (.int (F_X12_hasYear h m x))) (H_X12_hasYear h m x)) : mCal TB0 ad (d + 3) M_X12_hasYear [.ref m, .int x] h 0 0 Q := by
  refine ⟨Nat.le_of_ble_eq_true rfl, ?_⟩
  show mEv _ _ _ _ _ _ _ 0 [some (.ref m), some (.int x)] [] _ _
  refine e_aload_n dX12_hasYear_0 rfl ?_
  refine e_iload_n dX12_hasYear_1 rfl ?_
  refine e_putI dX12_hasYear_2 tf_12_301 (rk_s hk) rfl (Or.inl rfl) ?_
  refine e_aload_n dX12_hasYear_5 rfl ?_
  refine e_iconst (nI 1) dX12_hasYear_6 rfl ?_
  refine e_iload_n dX12_hasYear_7 rfl ?_
  refine e_callV [.int _, .int _] dX12_hasYear_8 tm_12_254 rfl (Nat.le_of_ble_eq_true rfl) (rk_s hk) (Nat.le_of_ble_eq_true rfl) (Nat.le_refl _) (Nat.le_refl _) rfl (sp_X12_is (by exact hk) 1 (by omega) _  ?_)
  refine e_zret dX12_hasYear_11 rfl (nz_or (Fz_X12_is _ _ _ _)) ⟨rfl, ?_⟩
  unfold F_X12_hasYear H_X12_hasYear at kq
  exact kq
theorem Fz_X12_hasYear (h : mH) (m : Nat) (x : Int32) : F_X12_hasYear h m x = 0 ∨ F_X12_hasYear h m x = 1 := by
  unfold F_X12_hasYear
  exact Fz_X12_is _ _ _ _
def F_X12_hasClues (h : mH) (m : Nat) (x : Int32) : Int32 := (F_X12_is (wI h m 54 x) m 2 x)
def H_X12_hasClues (h : mH) (m : Nat) (x : Int32) : mH := (wI h m 54 x)
set_option maxHeartbeats 1000000 in
theorem sp_X12_hasClues {ad : mA} {d : Nat} {h : mH} {Q : mQ} {m : Nat} (hk : rk h m) (x : Int32)  (kq : Q (some (.int (F_X12_hasClues h m x))) (H_X12_hasClues h m x)) : mCal TB0 ad (d + 3) M_X12_hasClues [.ref m, .int x] h 0 0 Q := by
  refine ⟨Nat.le_of_ble_eq_true rfl, ?_⟩
  show mEv _ _ _ _ _ _ _ 0 [some (.ref m), some (.int x)] [] _ _
  refine e_aload_n dX12_hasClues_0 rfl ?_
  refine e_iload_n dX12_hasClues_1 rfl ?_
  refine e_putI dX12_hasClues_2 tf_12_502 (rk_s hk) rfl (Or.inl rfl) ?_
  refine e_aload_n dX12_hasClues_5 rfl ?_
  refine e_iconst (nI 2) dX12_hasClues_6 rfl ?_
  refine e_iload_n dX12_hasClues_7 rfl ?_
  refine e_callV [.int _, .int _] dX12_hasClues_8 tm_12_254 rfl (Nat.le_of_ble_eq_true rfl) (rk_s hk) (Nat.le_of_ble_eq_true rfl) (Nat.le_refl _) (Nat.le_refl _) rfl (sp_X12_is (by exact hk) 2 (by omega) _  ?_)
  refine e_zret dX12_hasClues_11 rfl (nz_or (Fz_X12_is _ _ _ _)) ⟨rfl, ?_⟩
  unfold F_X12_hasClues H_X12_hasClues at kq
  exact kq
theorem Fz_X12_hasClues (h : mH) (m : Nat) (x : Int32) : F_X12_hasClues h m x = 0 ∨ F_X12_hasClues h m x = 1 := by
  unfold F_X12_hasClues
  exact Fz_X12_is _ _ _ _
def F_X12_end (h : mH) (m : Nat) (n : Int32) : Int32 := (if ¬ (F_X12_in n (nI (0)) (mI (wI h m 0 (nI (0))) (m + 2) (0))) = 0 then n else (-1))
def H_X12_end (h : mH) (m : Nat) (n : Int32) : mH := (if ¬ (F_X12_in n (nI (0)) (mI (wI h m 0 (nI (0))) (m + 2) (0))) = 0 then (wI (wI h m 0 (nI (0))) (m + 2) (0) (n)) else (wI h m 0 (nI (0))))
set_option maxHeartbeats 1000000 in
theorem sp_X12_end {ad : mA} {d : Nat} {h : mH} {Q : mQ} {m : Nat} (hk : rk h m) (n : Int32)  (kq : Q (some (.int (F_X12_end h m n))) (H_X12_end h m n)) : mCal TB0 ad (d + 2) M_X12_end [.ref m, .int n] h 0 0 Q := by
  refine ⟨Nat.le_of_ble_eq_true rfl, ?_⟩
  show mEv _ _ _ _ _ _ _ 0 [some (.ref m), some (.int n)] [] _ _
  refine e_aload_n dX12_end_0 rfl ?_
  refine e_iconst (nI 0) dX12_end_1 rfl ?_
  refine e_putI dX12_end_2 tf_12_103 (rk_s hk) rfl (Or.inl rfl) ?_
  refine e_iload_n dX12_end_5 rfl ?_
  refine e_iconst (nI 0) dX12_end_6 rfl ?_
  refine e_aload_n dX12_end_7 rfl ?_
  refine e_get (.ref (m + 2)) dX12_end_8 tf_12_13 (rk_s hk) (congrArg va_rf (rk_r2 hk)) ?_
  refine e_iconst (nI 0) dX12_end_11 rfl ?_
  refine e_ild (0) dX12_end_12 (rk_a2 hk) (vp_in_nI (by omega) (by omega)) (nI_clamp (by omega)) ?_
  refine e_callS [.int _, .int _, .int _] dX12_end_13 tm_12_115 rfl (Nat.le_of_ble_eq_true rfl) (Nat.le_refl _) (Nat.le_refl _) rfl (sp_X12_in _ _ _  ?_)
  refine e_if_ne 21 dX12_end_16 rfl (fun c_1 => ?_) (fun c_1 => ?_)
  · skip
    refine e_aload_n dX12_end_21 rfl ?_
    refine e_get (.ref (m + 2)) dX12_end_22 tf_12_13 (rk_s hk) (congrArg va_rf (rk_r2 hk)) ?_
    refine e_iconst (nI 0) dX12_end_25 rfl ?_
    refine e_iload_n dX12_end_26 rfl ?_
    refine e_ist (0) dX12_end_27 (rk_a2 hk) (vp_in_nI (by omega) (by omega)) (nI_clamp (by omega)) ?_
    refine e_iload_n dX12_end_28 rfl ?_
    refine e_iret dX12_end_29 rfl ⟨rfl, ?_⟩
    unfold F_X12_end H_X12_end at kq
    simp only [if_pos c_1] at kq
    exact kq
  · skip
    refine e_iconst (-1) dX12_end_19 rfl ?_
    refine e_iret dX12_end_20 rfl ⟨rfl, ?_⟩
    unfold F_X12_end H_X12_end at kq
    simp only [if_neg (fun q : ¬ (F_X12_in n (nI (0)) (mI (wI h m 0 (nI (0))) (m + 2) (0))) = 0 => q c_1)] at kq
    exact kq
def F_X12_fault (h : mH) (m : Nat) (w : Int32) : Int32 := (if ¬ w = 0 then (if ¬ w = nI (1) then (-1) else (mI (wI h m 0 (nI (0))) (m + 4) (0))) else (mI (wI h m 0 (nI (0))) (m + 3) (0)))
def H_X12_fault (h : mH) (m : Nat) (w : Int32) : mH := (wI h m 0 (nI (0)))
set_option maxHeartbeats 1000000 in
theorem sp_X12_fault {ad : mA} {d : Nat} {h : mH} {Q : mQ} {m : Nat} (hk : rk h m) (w : Int32)  (kq : Q (some (.int (F_X12_fault h m w))) (H_X12_fault h m w)) : mCal TB0 ad (d + 1) M_X12_fault [.ref m, .int w] h 0 0 Q := by
  refine ⟨Nat.le_of_ble_eq_true rfl, ?_⟩
  show mEv _ _ _ _ _ _ _ 0 [some (.ref m), some (.int w)] [] _ _
  refine e_aload_n dX12_fault_0 rfl ?_
  refine e_iconst (nI 0) dX12_fault_1 rfl ?_
  refine e_putI dX12_fault_2 tf_12_103 (rk_s hk) rfl (Or.inl rfl) ?_
  refine e_iload_n dX12_fault_5 rfl ?_
  refine e_if_ne 18 dX12_fault_6 rfl (fun c_1 => ?_) (fun c_1 => ?_)
  · skip
    refine e_iload_n dX12_fault_18 rfl ?_
    refine e_iconst (nI 1) dX12_fault_19 rfl ?_
    refine e_icmp_ne 32 dX12_fault_20 rfl (fun c_2 => ?_) (fun c_2 => ?_)
    · skip
      refine e_iconst (-1) dX12_fault_32 rfl ?_
      refine e_iret dX12_fault_33 rfl ⟨rfl, ?_⟩
      unfold F_X12_fault H_X12_fault at kq
      simp only [if_pos c_1, if_pos c_2] at kq
      exact kq
    · skip
      refine e_aload_n dX12_fault_23 rfl ?_
      refine e_get (.ref (m + 4)) dX12_fault_24 tf_12_20 (rk_s hk) (congrArg va_rf (rk_r4 hk)) ?_
      refine e_iconst (nI 0) dX12_fault_27 rfl ?_
      refine e_ild (0) dX12_fault_28 (rk_a4 hk) (vp_in_nI (by omega) (by omega)) (nI_clamp (by omega)) ?_
      refine e_goto 33 dX12_fault_29 rfl ?_
      refine e_iret dX12_fault_33 rfl ⟨rfl, ?_⟩
      unfold F_X12_fault H_X12_fault at kq
      simp only [if_pos c_1, if_neg (fun q : ¬ w = nI (1) => q c_2)] at kq
      exact kq
  · skip
    refine e_aload_n dX12_fault_9 rfl ?_
    refine e_get (.ref (m + 3)) dX12_fault_10 tf_12_17 (rk_s hk) (congrArg va_rf (rk_r3 hk)) ?_
    refine e_iconst (nI 0) dX12_fault_13 rfl ?_
    refine e_ild (0) dX12_fault_14 (rk_a3 hk) (vp_in_nI (by omega) (by omega)) (nI_clamp (by omega)) ?_
    refine e_goto 33 dX12_fault_15 rfl ?_
    refine e_iret dX12_fault_33 rfl ⟨rfl, ?_⟩
    unfold F_X12_fault H_X12_fault at kq
    simp only [if_neg (fun q : ¬ w = 0 => q c_1)] at kq
    exact kq

/-! TAILORS -/
theorem dX3_weighCalls_0 : decode cX3_weighCalls 0 = .ok (.aload_n 0, 1) := by decide +kernel
theorem dX3_weighCalls_1 : decode cX3_weighCalls 1 = .ok (.iload_n 1, 1) := by decide +kernel
theorem dX3_weighCalls_2 : decode cX3_weighCalls 2 = .ok (.putfield 32, 3) := by decide +kernel
theorem dX3_weighCalls_5 : decode cX3_weighCalls 5 = .ok (.aload_n 0, 1) := by decide +kernel
theorem dX3_weighCalls_6 : decode cX3_weighCalls 6 = .ok (.iload_n 2, 1) := by decide +kernel
theorem dX3_weighCalls_7 : decode cX3_weighCalls 7 = .ok (.putfield 36, 3) := by decide +kernel
theorem dX3_weighCalls_10 : decode cX3_weighCalls 10 = .ok (.iconst 0, 1) := by decide +kernel
theorem dX3_weighCalls_11 : decode cX3_weighCalls 11 = .ok (.istore_n 3, 1) := by decide +kernel
theorem dX3_weighCalls_12 : decode cX3_weighCalls 12 = .ok (.iload_n 3, 1) := by decide +kernel
theorem dX3_weighCalls_13 : decode cX3_weighCalls 13 = .ok (.bipush 21, 2) := by decide +kernel
theorem dX3_weighCalls_15 : decode cX3_weighCalls 15 = .ok (.if_icmp .ge 93, 3) := by decide +kernel
theorem dX3_weighCalls_18 : decode cX3_weighCalls 18 = .ok (.aload_n 0, 1) := by decide +kernel
theorem dX3_weighCalls_19 : decode cX3_weighCalls 19 = .ok (.getfield 26, 3) := by decide +kernel
theorem dX3_weighCalls_22 : decode cX3_weighCalls 22 = .ok (.iload_n 3, 1) := by decide +kernel
theorem dX3_weighCalls_23 : decode cX3_weighCalls 23 = .ok (.aload_n 0, 1) := by decide +kernel
theorem dX3_weighCalls_24 : decode cX3_weighCalls 24 = .ok (.iconst 0, 1) := by decide +kernel
theorem dX3_weighCalls_25 : decode cX3_weighCalls 25 = .ok (.iload_n 3, 1) := by decide +kernel
theorem dX3_weighCalls_26 : decode cX3_weighCalls 26 = .ok (.invokevirtual 62, 3) := by decide +kernel
theorem dX3_weighCalls_29 : decode cX3_weighCalls 29 = .ok (.iastore, 1) := by decide +kernel
theorem dX3_weighCalls_30 : decode cX3_weighCalls 30 = .ok (.aload_n 0, 1) := by decide +kernel
theorem dX3_weighCalls_31 : decode cX3_weighCalls 31 = .ok (.getfield 29, 3) := by decide +kernel
theorem dX3_weighCalls_34 : decode cX3_weighCalls 34 = .ok (.iload_n 3, 1) := by decide +kernel
theorem dX3_weighCalls_35 : decode cX3_weighCalls 35 = .ok (.aload_n 0, 1) := by decide +kernel
theorem dX3_weighCalls_36 : decode cX3_weighCalls 36 = .ok (.iload_n 3, 1) := by decide +kernel
theorem dX3_weighCalls_37 : decode cX3_weighCalls 37 = .ok (.iconst 0, 1) := by decide +kernel
theorem dX3_weighCalls_38 : decode cX3_weighCalls 38 = .ok (.invokevirtual 65, 3) := by decide +kernel
theorem dX3_weighCalls_41 : decode cX3_weighCalls 41 = .ok (.iastore, 1) := by decide +kernel
theorem dX3_weighCalls_42 : decode cX3_weighCalls 42 = .ok (.iconst 1, 1) := by decide +kernel
theorem dX3_weighCalls_43 : decode cX3_weighCalls 43 = .ok (.istore 4, 2) := by decide +kernel
theorem dX3_weighCalls_45 : decode cX3_weighCalls 45 = .ok (.iload 4, 2) := by decide +kernel
theorem dX3_weighCalls_47 : decode cX3_weighCalls 47 = .ok (.bipush 21, 2) := by decide +kernel
theorem dX3_weighCalls_49 : decode cX3_weighCalls 49 = .ok (.if_icmp .ge 53, 3) := by decide +kernel
theorem dX3_weighCalls_52 : decode cX3_weighCalls 52 = .ok (.aload_n 0, 1) := by decide +kernel
theorem dX3_weighCalls_53 : decode cX3_weighCalls 53 = .ok (.getfield 26, 3) := by decide +kernel
theorem dX3_weighCalls_56 : decode cX3_weighCalls 56 = .ok (.iload_n 3, 1) := by decide +kernel
theorem dX3_weighCalls_57 : decode cX3_weighCalls 57 = .ok (.aload_n 0, 1) := by decide +kernel
theorem dX3_weighCalls_58 : decode cX3_weighCalls 58 = .ok (.getfield 26, 3) := by decide +kernel
theorem dX3_weighCalls_61 : decode cX3_weighCalls 61 = .ok (.iload_n 3, 1) := by decide +kernel
theorem dX3_weighCalls_62 : decode cX3_weighCalls 62 = .ok (.iaload, 1) := by decide +kernel
theorem dX3_weighCalls_63 : decode cX3_weighCalls 63 = .ok (.aload_n 0, 1) := by decide +kernel
theorem dX3_weighCalls_64 : decode cX3_weighCalls 64 = .ok (.iload 4, 2) := by decide +kernel
theorem dX3_weighCalls_66 : decode cX3_weighCalls 66 = .ok (.iload_n 3, 1) := by decide +kernel
theorem dX3_weighCalls_67 : decode cX3_weighCalls 67 = .ok (.invokevirtual 62, 3) := by decide +kernel
theorem dX3_weighCalls_70 : decode cX3_weighCalls 70 = .ok (.invokestatic 51, 3) := by decide +kernel
theorem dX3_weighCalls_73 : decode cX3_weighCalls 73 = .ok (.iastore, 1) := by decide +kernel
theorem dX3_weighCalls_74 : decode cX3_weighCalls 74 = .ok (.aload_n 0, 1) := by decide +kernel
theorem dX3_weighCalls_75 : decode cX3_weighCalls 75 = .ok (.getfield 29, 3) := by decide +kernel
theorem dX3_weighCalls_78 : decode cX3_weighCalls 78 = .ok (.iload_n 3, 1) := by decide +kernel
theorem dX3_weighCalls_79 : decode cX3_weighCalls 79 = .ok (.aload_n 0, 1) := by decide +kernel
theorem dX3_weighCalls_80 : decode cX3_weighCalls 80 = .ok (.getfield 29, 3) := by decide +kernel
theorem dX3_weighCalls_83 : decode cX3_weighCalls 83 = .ok (.iload_n 3, 1) := by decide +kernel
theorem dX3_weighCalls_84 : decode cX3_weighCalls 84 = .ok (.iaload, 1) := by decide +kernel
theorem dX3_weighCalls_85 : decode cX3_weighCalls 85 = .ok (.aload_n 0, 1) := by decide +kernel
theorem dX3_weighCalls_86 : decode cX3_weighCalls 86 = .ok (.iload_n 3, 1) := by decide +kernel
theorem dX3_weighCalls_87 : decode cX3_weighCalls 87 = .ok (.iload 4, 2) := by decide +kernel
theorem dX3_weighCalls_89 : decode cX3_weighCalls 89 = .ok (.invokevirtual 65, 3) := by decide +kernel
theorem dX3_weighCalls_92 : decode cX3_weighCalls 92 = .ok (.invokestatic 51, 3) := by decide +kernel
theorem dX3_weighCalls_95 : decode cX3_weighCalls 95 = .ok (.iastore, 1) := by decide +kernel
theorem dX3_weighCalls_96 : decode cX3_weighCalls 96 = .ok (.iinc 4 1, 3) := by decide +kernel
theorem dX3_weighCalls_99 : decode cX3_weighCalls 99 = .ok (.goto (-54), 3) := by decide +kernel
theorem dX3_weighCalls_102 : decode cX3_weighCalls 102 = .ok (.iinc 3 1, 3) := by decide +kernel
theorem dX3_weighCalls_105 : decode cX3_weighCalls 105 = .ok (.goto (-93), 3) := by decide +kernel
theorem dX3_weighCalls_108 : decode cX3_weighCalls 108 = .ok (.return_, 1) := by decide +kernel
theorem dX3_firstWins_0 : decode cX3_firstWins 0 = .ok (.iload_n 1, 1) := by decide +kernel
theorem dX3_firstWins_1 : decode cX3_firstWins 1 = .ok (.iload_n 2, 1) := by decide +kernel
theorem dX3_firstWins_2 : decode cX3_firstWins 2 = .ok (.if_icmp .gt 12, 3) := by decide +kernel
theorem dX3_firstWins_5 : decode cX3_firstWins 5 = .ok (.iload_n 1, 1) := by decide +kernel
theorem dX3_firstWins_6 : decode cX3_firstWins 6 = .ok (.aload_n 0, 1) := by decide +kernel
theorem dX3_firstWins_7 : decode cX3_firstWins 7 = .ok (.getfield 32, 3) := by decide +kernel
theorem dX3_firstWins_10 : decode cX3_firstWins 10 = .ok (.isub, 1) := by decide +kernel
theorem dX3_firstWins_11 : decode cX3_firstWins 11 = .ok (.goto 4, 3) := by decide +kernel
theorem dX3_firstWins_14 : decode cX3_firstWins 14 = .ok (.iconst 0, 1) := by decide +kernel
theorem dX3_firstWins_15 : decode cX3_firstWins 15 = .ok (.ireturn, 1) := by decide +kernel
theorem dX3_secondWins_0 : decode cX3_secondWins 0 = .ok (.iload_n 2, 1) := by decide +kernel
theorem dX3_secondWins_1 : decode cX3_secondWins 1 = .ok (.iload_n 1, 1) := by decide +kernel
theorem dX3_secondWins_2 : decode cX3_secondWins 2 = .ok (.if_icmp .ge 12, 3) := by decide +kernel
theorem dX3_secondWins_5 : decode cX3_secondWins 5 = .ok (.iload_n 2, 1) := by decide +kernel
theorem dX3_secondWins_6 : decode cX3_secondWins 6 = .ok (.aload_n 0, 1) := by decide +kernel
theorem dX3_secondWins_7 : decode cX3_secondWins 7 = .ok (.getfield 36, 3) := by decide +kernel
theorem dX3_secondWins_10 : decode cX3_secondWins 10 = .ok (.isub, 1) := by decide +kernel
theorem dX3_secondWins_11 : decode cX3_secondWins 11 = .ok (.goto 4, 3) := by decide +kernel
theorem dX3_secondWins_14 : decode cX3_secondWins 14 = .ok (.iconst 0, 1) := by decide +kernel
theorem dX3_secondWins_15 : decode cX3_secondWins 15 = .ok (.ireturn, 1) := by decide +kernel
theorem dX3_isRest_0 : decode cX3_isRest 0 = .ok (.aload_n 0, 1) := by decide +kernel
theorem dX3_isRest_1 : decode cX3_isRest 1 = .ok (.iload_n 1, 1) := by decide +kernel
theorem dX3_isRest_2 : decode cX3_isRest 2 = .ok (.iload_n 2, 1) := by decide +kernel
theorem dX3_isRest_3 : decode cX3_isRest 3 = .ok (.invokevirtual 62, 3) := by decide +kernel
theorem dX3_isRest_6 : decode cX3_isRest 6 = .ok (.aload_n 0, 1) := by decide +kernel
theorem dX3_isRest_7 : decode cX3_isRest 7 = .ok (.getfield 26, 3) := by decide +kernel
theorem dX3_isRest_10 : decode cX3_isRest 10 = .ok (.iload_n 2, 1) := by decide +kernel
theorem dX3_isRest_11 : decode cX3_isRest 11 = .ok (.iaload, 1) := by decide +kernel
theorem dX3_isRest_12 : decode cX3_isRest 12 = .ok (.if_icmp .ne 22, 3) := by decide +kernel
theorem dX3_isRest_15 : decode cX3_isRest 15 = .ok (.aload_n 0, 1) := by decide +kernel
theorem dX3_isRest_16 : decode cX3_isRest 16 = .ok (.iload_n 1, 1) := by decide +kernel
theorem dX3_isRest_17 : decode cX3_isRest 17 = .ok (.iload_n 2, 1) := by decide +kernel
theorem dX3_isRest_18 : decode cX3_isRest 18 = .ok (.invokevirtual 65, 3) := by decide +kernel
theorem dX3_isRest_21 : decode cX3_isRest 21 = .ok (.aload_n 0, 1) := by decide +kernel
theorem dX3_isRest_22 : decode cX3_isRest 22 = .ok (.getfield 29, 3) := by decide +kernel
theorem dX3_isRest_25 : decode cX3_isRest 25 = .ok (.iload_n 1, 1) := by decide +kernel
theorem dX3_isRest_26 : decode cX3_isRest 26 = .ok (.iaload, 1) := by decide +kernel
theorem dX3_isRest_27 : decode cX3_isRest 27 = .ok (.if_icmp .ne 7, 3) := by decide +kernel
theorem dX3_isRest_30 : decode cX3_isRest 30 = .ok (.iconst 1, 1) := by decide +kernel
theorem dX3_isRest_31 : decode cX3_isRest 31 = .ok (.goto 4, 3) := by decide +kernel
theorem dX3_isRest_34 : decode cX3_isRest 34 = .ok (.iconst 0, 1) := by decide +kernel
theorem dX3_isRest_35 : decode cX3_isRest 35 = .ok (.ireturn, 1) := by decide +kernel
theorem dX3_rests_0 : decode cX3_rests 0 = .ok (.iconst 0, 1) := by decide +kernel
theorem dX3_rests_1 : decode cX3_rests 1 = .ok (.istore_n 1, 1) := by decide +kernel
theorem dX3_rests_2 : decode cX3_rests 2 = .ok (.iconst 0, 1) := by decide +kernel
theorem dX3_rests_3 : decode cX3_rests 3 = .ok (.istore_n 2, 1) := by decide +kernel
theorem dX3_rests_4 : decode cX3_rests 4 = .ok (.iload_n 2, 1) := by decide +kernel
theorem dX3_rests_5 : decode cX3_rests 5 = .ok (.sipush 441, 3) := by decide +kernel
theorem dX3_rests_8 : decode cX3_rests 8 = .ok (.if_icmp .ge 32, 3) := by decide +kernel
theorem dX3_rests_11 : decode cX3_rests 11 = .ok (.iload_n 1, 1) := by decide +kernel
theorem dX3_rests_12 : decode cX3_rests 12 = .ok (.aload_n 0, 1) := by decide +kernel
theorem dX3_rests_13 : decode cX3_rests 13 = .ok (.iload_n 2, 1) := by decide +kernel
theorem dX3_rests_14 : decode cX3_rests 14 = .ok (.bipush 21, 2) := by decide +kernel
theorem dX3_rests_16 : decode cX3_rests 16 = .ok (.idiv, 1) := by decide +kernel
theorem dX3_rests_17 : decode cX3_rests 17 = .ok (.iload_n 2, 1) := by decide +kernel
theorem dX3_rests_18 : decode cX3_rests 18 = .ok (.bipush 21, 2) := by decide +kernel
theorem dX3_rests_20 : decode cX3_rests 20 = .ok (.irem, 1) := by decide +kernel
theorem dX3_rests_21 : decode cX3_rests 21 = .ok (.invokevirtual 68, 3) := by decide +kernel
theorem dX3_rests_24 : decode cX3_rests 24 = .ok (.ifCond .eq 7, 3) := by decide +kernel
theorem dX3_rests_27 : decode cX3_rests 27 = .ok (.iconst 1, 1) := by decide +kernel
theorem dX3_rests_28 : decode cX3_rests 28 = .ok (.goto 4, 3) := by decide +kernel
theorem dX3_rests_31 : decode cX3_rests 31 = .ok (.iconst 0, 1) := by decide +kernel
theorem dX3_rests_32 : decode cX3_rests 32 = .ok (.iadd, 1) := by decide +kernel
theorem dX3_rests_33 : decode cX3_rests 33 = .ok (.istore_n 1, 1) := by decide +kernel
theorem dX3_rests_34 : decode cX3_rests 34 = .ok (.iinc 2 1, 3) := by decide +kernel
theorem dX3_rests_37 : decode cX3_rests 37 = .ok (.goto (-33), 3) := by decide +kernel
theorem dX3_rests_40 : decode cX3_rests 40 = .ok (.iload_n 1, 1) := by decide +kernel
theorem dX3_rests_41 : decode cX3_rests 41 = .ok (.ireturn, 1) := by decide +kernel
theorem dX3_restAt_0 : decode cX3_restAt 0 = .ok (.iconst 0, 1) := by decide +kernel
theorem dX3_restAt_1 : decode cX3_restAt 1 = .ok (.istore_n 2, 1) := by decide +kernel
theorem dX3_restAt_2 : decode cX3_restAt 2 = .ok (.iconst 0, 1) := by decide +kernel
theorem dX3_restAt_3 : decode cX3_restAt 3 = .ok (.istore_n 3, 1) := by decide +kernel
theorem dX3_restAt_4 : decode cX3_restAt 4 = .ok (.iload_n 3, 1) := by decide +kernel
theorem dX3_restAt_5 : decode cX3_restAt 5 = .ok (.sipush 441, 3) := by decide +kernel
theorem dX3_restAt_8 : decode cX3_restAt 8 = .ok (.if_icmp .ge 34, 3) := by decide +kernel
theorem dX3_restAt_11 : decode cX3_restAt 11 = .ok (.aload_n 0, 1) := by decide +kernel
theorem dX3_restAt_12 : decode cX3_restAt 12 = .ok (.iload_n 3, 1) := by decide +kernel
theorem dX3_restAt_13 : decode cX3_restAt 13 = .ok (.bipush 21, 2) := by decide +kernel
theorem dX3_restAt_15 : decode cX3_restAt 15 = .ok (.idiv, 1) := by decide +kernel
theorem dX3_restAt_16 : decode cX3_restAt 16 = .ok (.iload_n 3, 1) := by decide +kernel
theorem dX3_restAt_17 : decode cX3_restAt 17 = .ok (.bipush 21, 2) := by decide +kernel
theorem dX3_restAt_19 : decode cX3_restAt 19 = .ok (.irem, 1) := by decide +kernel
theorem dX3_restAt_20 : decode cX3_restAt 20 = .ok (.invokevirtual 68, 3) := by decide +kernel
theorem dX3_restAt_23 : decode cX3_restAt 23 = .ok (.ifCond .eq 13, 3) := by decide +kernel
theorem dX3_restAt_26 : decode cX3_restAt 26 = .ok (.iload_n 2, 1) := by decide +kernel
theorem dX3_restAt_27 : decode cX3_restAt 27 = .ok (.iload_n 1, 1) := by decide +kernel
theorem dX3_restAt_28 : decode cX3_restAt 28 = .ok (.if_icmp .ne 5, 3) := by decide +kernel
theorem dX3_restAt_31 : decode cX3_restAt 31 = .ok (.iload_n 3, 1) := by decide +kernel
theorem dX3_restAt_32 : decode cX3_restAt 32 = .ok (.ireturn, 1) := by decide +kernel
theorem dX3_restAt_33 : decode cX3_restAt 33 = .ok (.iinc 2 1, 3) := by decide +kernel
theorem dX3_restAt_36 : decode cX3_restAt 36 = .ok (.iinc 3 1, 3) := by decide +kernel
theorem dX3_restAt_39 : decode cX3_restAt 39 = .ok (.goto (-35), 3) := by decide +kernel
theorem dX3_restAt_42 : decode cX3_restAt 42 = .ok (.iconst (-1), 1) := by decide +kernel
theorem dX3_restAt_43 : decode cX3_restAt 43 = .ok (.ireturn, 1) := by decide +kernel
theorem dX3_mostlySelling_0 : decode cX3_mostlySelling 0 = .ok (.iconst 0, 1) := by decide +kernel
theorem dX3_mostlySelling_1 : decode cX3_mostlySelling 1 = .ok (.istore_n 1, 1) := by decide +kernel
theorem dX3_mostlySelling_2 : decode cX3_mostlySelling 2 = .ok (.iconst 0, 1) := by decide +kernel
theorem dX3_mostlySelling_3 : decode cX3_mostlySelling 3 = .ok (.istore_n 2, 1) := by decide +kernel
theorem dX3_mostlySelling_4 : decode cX3_mostlySelling 4 = .ok (.iconst 0, 1) := by decide +kernel
theorem dX3_mostlySelling_5 : decode cX3_mostlySelling 5 = .ok (.istore_n 3, 1) := by decide +kernel
theorem dX3_mostlySelling_6 : decode cX3_mostlySelling 6 = .ok (.iload_n 3, 1) := by decide +kernel
theorem dX3_mostlySelling_7 : decode cX3_mostlySelling 7 = .ok (.sipush 441, 3) := by decide +kernel
theorem dX3_mostlySelling_10 : decode cX3_mostlySelling 10 = .ok (.if_icmp .ge 62, 3) := by decide +kernel
theorem dX3_mostlySelling_13 : decode cX3_mostlySelling 13 = .ok (.aload_n 0, 1) := by decide +kernel
theorem dX3_mostlySelling_14 : decode cX3_mostlySelling 14 = .ok (.iload_n 3, 1) := by decide +kernel
theorem dX3_mostlySelling_15 : decode cX3_mostlySelling 15 = .ok (.bipush 21, 2) := by decide +kernel
theorem dX3_mostlySelling_17 : decode cX3_mostlySelling 17 = .ok (.idiv, 1) := by decide +kernel
theorem dX3_mostlySelling_18 : decode cX3_mostlySelling 18 = .ok (.iload_n 3, 1) := by decide +kernel
theorem dX3_mostlySelling_19 : decode cX3_mostlySelling 19 = .ok (.bipush 21, 2) := by decide +kernel
theorem dX3_mostlySelling_21 : decode cX3_mostlySelling 21 = .ok (.irem, 1) := by decide +kernel
theorem dX3_mostlySelling_22 : decode cX3_mostlySelling 22 = .ok (.invokevirtual 68, 3) := by decide +kernel
theorem dX3_mostlySelling_25 : decode cX3_mostlySelling 25 = .ok (.ifCond .eq 41, 3) := by decide +kernel
theorem dX3_mostlySelling_28 : decode cX3_mostlySelling 28 = .ok (.iload_n 1, 1) := by decide +kernel
theorem dX3_mostlySelling_29 : decode cX3_mostlySelling 29 = .ok (.iload_n 3, 1) := by decide +kernel
theorem dX3_mostlySelling_30 : decode cX3_mostlySelling 30 = .ok (.bipush 21, 2) := by decide +kernel
theorem dX3_mostlySelling_32 : decode cX3_mostlySelling 32 = .ok (.idiv, 1) := by decide +kernel
theorem dX3_mostlySelling_33 : decode cX3_mostlySelling 33 = .ok (.iload_n 3, 1) := by decide +kernel
theorem dX3_mostlySelling_34 : decode cX3_mostlySelling 34 = .ok (.bipush 21, 2) := by decide +kernel
theorem dX3_mostlySelling_36 : decode cX3_mostlySelling 36 = .ok (.irem, 1) := by decide +kernel
theorem dX3_mostlySelling_37 : decode cX3_mostlySelling 37 = .ok (.if_icmp .gt 7, 3) := by decide +kernel
theorem dX3_mostlySelling_40 : decode cX3_mostlySelling 40 = .ok (.iconst 1, 1) := by decide +kernel
theorem dX3_mostlySelling_41 : decode cX3_mostlySelling 41 = .ok (.goto 4, 3) := by decide +kernel
theorem dX3_mostlySelling_44 : decode cX3_mostlySelling 44 = .ok (.iconst 0, 1) := by decide +kernel
theorem dX3_mostlySelling_45 : decode cX3_mostlySelling 45 = .ok (.iadd, 1) := by decide +kernel
theorem dX3_mostlySelling_46 : decode cX3_mostlySelling 46 = .ok (.istore_n 1, 1) := by decide +kernel
theorem dX3_mostlySelling_47 : decode cX3_mostlySelling 47 = .ok (.iload_n 2, 1) := by decide +kernel
theorem dX3_mostlySelling_48 : decode cX3_mostlySelling 48 = .ok (.iload_n 3, 1) := by decide +kernel
theorem dX3_mostlySelling_49 : decode cX3_mostlySelling 49 = .ok (.bipush 21, 2) := by decide +kernel
theorem dX3_mostlySelling_51 : decode cX3_mostlySelling 51 = .ok (.idiv, 1) := by decide +kernel
theorem dX3_mostlySelling_52 : decode cX3_mostlySelling 52 = .ok (.iload_n 3, 1) := by decide +kernel
theorem dX3_mostlySelling_53 : decode cX3_mostlySelling 53 = .ok (.bipush 21, 2) := by decide +kernel
theorem dX3_mostlySelling_55 : decode cX3_mostlySelling 55 = .ok (.irem, 1) := by decide +kernel
theorem dX3_mostlySelling_56 : decode cX3_mostlySelling 56 = .ok (.if_icmp .le 7, 3) := by decide +kernel
theorem dX3_mostlySelling_59 : decode cX3_mostlySelling 59 = .ok (.iconst 1, 1) := by decide +kernel
theorem dX3_mostlySelling_60 : decode cX3_mostlySelling 60 = .ok (.goto 4, 3) := by decide +kernel
theorem dX3_mostlySelling_63 : decode cX3_mostlySelling 63 = .ok (.iconst 0, 1) := by decide +kernel
theorem dX3_mostlySelling_64 : decode cX3_mostlySelling 64 = .ok (.iadd, 1) := by decide +kernel
theorem dX3_mostlySelling_65 : decode cX3_mostlySelling 65 = .ok (.istore_n 2, 1) := by decide +kernel
theorem dX3_mostlySelling_66 : decode cX3_mostlySelling 66 = .ok (.iinc 3 1, 3) := by decide +kernel
theorem dX3_mostlySelling_69 : decode cX3_mostlySelling 69 = .ok (.goto (-63), 3) := by decide +kernel
theorem dX3_mostlySelling_72 : decode cX3_mostlySelling 72 = .ok (.iload_n 1, 1) := by decide +kernel
theorem dX3_mostlySelling_73 : decode cX3_mostlySelling 73 = .ok (.iload_n 2, 1) := by decide +kernel
theorem dX3_mostlySelling_74 : decode cX3_mostlySelling 74 = .ok (.iadd, 1) := by decide +kernel
theorem dX3_mostlySelling_75 : decode cX3_mostlySelling 75 = .ok (.ifCond .ne 5, 3) := by decide +kernel
theorem dX3_mostlySelling_78 : decode cX3_mostlySelling 78 = .ok (.iconst (-1), 1) := by decide +kernel
theorem dX3_mostlySelling_79 : decode cX3_mostlySelling 79 = .ok (.ireturn, 1) := by decide +kernel
theorem dX3_mostlySelling_80 : decode cX3_mostlySelling 80 = .ok (.iload_n 2, 1) := by decide +kernel
theorem dX3_mostlySelling_81 : decode cX3_mostlySelling 81 = .ok (.iload_n 1, 1) := by decide +kernel
theorem dX3_mostlySelling_82 : decode cX3_mostlySelling 82 = .ok (.if_icmp .le 7, 3) := by decide +kernel
theorem dX3_mostlySelling_85 : decode cX3_mostlySelling 85 = .ok (.iconst 1, 1) := by decide +kernel
theorem dX3_mostlySelling_86 : decode cX3_mostlySelling 86 = .ok (.goto 4, 3) := by decide +kernel
theorem dX3_mostlySelling_89 : decode cX3_mostlySelling 89 = .ok (.iconst 0, 1) := by decide +kernel
theorem dX3_mostlySelling_90 : decode cX3_mostlySelling 90 = .ok (.ireturn, 1) := by decide +kernel
theorem dX11_rest_0 : decode cX11_rest 0 = .ok (.iload_n 1, 1) := by decide +kernel
theorem dX11_rest_1 : decode cX11_rest 1 = .ok (.ifCond .lt 25, 3) := by decide +kernel
theorem dX11_rest_4 : decode cX11_rest 4 = .ok (.iload_n 1, 1) := by decide +kernel
theorem dX11_rest_5 : decode cX11_rest 5 = .ok (.bipush 21, 2) := by decide +kernel
theorem dX11_rest_7 : decode cX11_rest 7 = .ok (.if_icmp .ge 19, 3) := by decide +kernel
theorem dX11_rest_10 : decode cX11_rest 10 = .ok (.iload_n 2, 1) := by decide +kernel
theorem dX11_rest_11 : decode cX11_rest 11 = .ok (.ifCond .lt 15, 3) := by decide +kernel
theorem dX11_rest_14 : decode cX11_rest 14 = .ok (.iload_n 2, 1) := by decide +kernel
theorem dX11_rest_15 : decode cX11_rest 15 = .ok (.bipush 21, 2) := by decide +kernel
theorem dX11_rest_17 : decode cX11_rest 17 = .ok (.if_icmp .ge 9, 3) := by decide +kernel
theorem dX11_rest_20 : decode cX11_rest 20 = .ok (.iload_n 3, 1) := by decide +kernel
theorem dX11_rest_21 : decode cX11_rest 21 = .ok (.bipush (-2), 2) := by decide +kernel
theorem dX11_rest_23 : decode cX11_rest 23 = .ok (.if_icmp .ge 5, 3) := by decide +kernel
theorem dX11_rest_26 : decode cX11_rest 26 = .ok (.iconst (-1), 1) := by decide +kernel
theorem dX11_rest_27 : decode cX11_rest 27 = .ok (.ireturn, 1) := by decide +kernel
theorem dX11_rest_28 : decode cX11_rest 28 = .ok (.aload_n 0, 1) := by decide +kernel
theorem dX11_rest_29 : decode cX11_rest 29 = .ok (.getfield 58, 3) := by decide +kernel
theorem dX11_rest_32 : decode cX11_rest 32 = .ok (.iload_n 1, 1) := by decide +kernel
theorem dX11_rest_33 : decode cX11_rest 33 = .ok (.iload_n 2, 1) := by decide +kernel
theorem dX11_rest_34 : decode cX11_rest 34 = .ok (.invokevirtual 210, 3) := by decide +kernel
theorem dX11_rest_37 : decode cX11_rest 37 = .ok (.iload_n 3, 1) := by decide +kernel
theorem dX11_rest_38 : decode cX11_rest 38 = .ok (.iconst (-1), 1) := by decide +kernel
theorem dX11_rest_39 : decode cX11_rest 39 = .ok (.if_icmp .ne 11, 3) := by decide +kernel
theorem dX11_rest_42 : decode cX11_rest 42 = .ok (.aload_n 0, 1) := by decide +kernel
theorem dX11_rest_43 : decode cX11_rest 43 = .ok (.getfield 58, 3) := by decide +kernel
theorem dX11_rest_46 : decode cX11_rest 46 = .ok (.invokevirtual 214, 3) := by decide +kernel
theorem dX11_rest_49 : decode cX11_rest 49 = .ok (.ireturn, 1) := by decide +kernel
theorem dX11_rest_50 : decode cX11_rest 50 = .ok (.iload_n 3, 1) := by decide +kernel
theorem dX11_rest_51 : decode cX11_rest 51 = .ok (.bipush (-2), 2) := by decide +kernel
theorem dX11_rest_53 : decode cX11_rest 53 = .ok (.if_icmp .ne 13, 3) := by decide +kernel
theorem dX11_rest_56 : decode cX11_rest 56 = .ok (.aload_n 0, 1) := by decide +kernel
theorem dX11_rest_57 : decode cX11_rest 57 = .ok (.getfield 58, 3) := by decide +kernel
theorem dX11_rest_60 : decode cX11_rest 60 = .ok (.invokevirtual 217, 3) := by decide +kernel
theorem dX11_rest_63 : decode cX11_rest 63 = .ok (.goto 11, 3) := by decide +kernel
theorem dX11_rest_66 : decode cX11_rest 66 = .ok (.aload_n 0, 1) := by decide +kernel
theorem dX11_rest_67 : decode cX11_rest 67 = .ok (.getfield 58, 3) := by decide +kernel
theorem dX11_rest_70 : decode cX11_rest 70 = .ok (.iload_n 3, 1) := by decide +kernel
theorem dX11_rest_71 : decode cX11_rest 71 = .ok (.invokevirtual 220, 3) := by decide +kernel
theorem dX11_rest_74 : decode cX11_rest 74 = .ok (.ireturn, 1) := by decide +kernel
theorem dX12_isRest_0 : decode cX12_isRest 0 = .ok (.iload_n 2, 1) := by decide +kernel
theorem dX12_isRest_1 : decode cX12_isRest 1 = .ok (.iload_n 3, 1) := by decide +kernel
theorem dX12_isRest_2 : decode cX12_isRest 2 = .ok (.invokestatic 495, 3) := by decide +kernel
theorem dX12_isRest_5 : decode cX12_isRest 5 = .ok (.ifCond .eq 9, 3) := by decide +kernel
theorem dX12_isRest_8 : decode cX12_isRest 8 = .ok (.iload_n 2, 1) := by decide +kernel
theorem dX12_isRest_9 : decode cX12_isRest 9 = .ok (.iload_n 0, 1) := by decide +kernel
theorem dX12_isRest_10 : decode cX12_isRest 10 = .ok (.isub, 1) := by decide +kernel
theorem dX12_isRest_11 : decode cX12_isRest 11 = .ok (.goto 4, 3) := by decide +kernel
theorem dX12_isRest_14 : decode cX12_isRest 14 = .ok (.iconst 0, 1) := by decide +kernel
theorem dX12_isRest_15 : decode cX12_isRest 15 = .ok (.istore 4, 2) := by decide +kernel
theorem dX12_isRest_17 : decode cX12_isRest 17 = .ok (.iload_n 2, 1) := by decide +kernel
theorem dX12_isRest_18 : decode cX12_isRest 18 = .ok (.iload_n 3, 1) := by decide +kernel
theorem dX12_isRest_19 : decode cX12_isRest 19 = .ok (.invokestatic 495, 3) := by decide +kernel
theorem dX12_isRest_22 : decode cX12_isRest 22 = .ok (.ifCond .eq 7, 3) := by decide +kernel
theorem dX12_isRest_25 : decode cX12_isRest 25 = .ok (.iconst 0, 1) := by decide +kernel
theorem dX12_isRest_26 : decode cX12_isRest 26 = .ok (.goto 6, 3) := by decide +kernel
theorem dX12_isRest_29 : decode cX12_isRest 29 = .ok (.iload_n 3, 1) := by decide +kernel
theorem dX12_isRest_30 : decode cX12_isRest 30 = .ok (.iload_n 1, 1) := by decide +kernel
theorem dX12_isRest_31 : decode cX12_isRest 31 = .ok (.isub, 1) := by decide +kernel
theorem dX12_isRest_32 : decode cX12_isRest 32 = .ok (.istore 5, 2) := by decide +kernel
theorem dX12_isRest_34 : decode cX12_isRest 34 = .ok (.iconst 0, 1) := by decide +kernel
theorem dX12_isRest_35 : decode cX12_isRest 35 = .ok (.istore 6, 2) := by decide +kernel
theorem dX12_isRest_37 : decode cX12_isRest 37 = .ok (.iload 6, 2) := by decide +kernel
theorem dX12_isRest_39 : decode cX12_isRest 39 = .ok (.bipush 20, 2) := by decide +kernel
theorem dX12_isRest_41 : decode cX12_isRest 41 = .ok (.if_icmp .gt 55, 3) := by decide +kernel
theorem dX12_isRest_44 : decode cX12_isRest 44 = .ok (.iload 6, 2) := by decide +kernel
theorem dX12_isRest_46 : decode cX12_isRest 46 = .ok (.iload_n 3, 1) := by decide +kernel
theorem dX12_isRest_47 : decode cX12_isRest 47 = .ok (.invokestatic 495, 3) := by decide +kernel
theorem dX12_isRest_50 : decode cX12_isRest 50 = .ok (.ifCond .eq 10, 3) := by decide +kernel
theorem dX12_isRest_53 : decode cX12_isRest 53 = .ok (.iload 6, 2) := by decide +kernel
theorem dX12_isRest_55 : decode cX12_isRest 55 = .ok (.iload_n 0, 1) := by decide +kernel
theorem dX12_isRest_56 : decode cX12_isRest 56 = .ok (.isub, 1) := by decide +kernel
theorem dX12_isRest_57 : decode cX12_isRest 57 = .ok (.goto 4, 3) := by decide +kernel
theorem dX12_isRest_60 : decode cX12_isRest 60 = .ok (.iconst 0, 1) := by decide +kernel
theorem dX12_isRest_61 : decode cX12_isRest 61 = .ok (.iload 4, 2) := by decide +kernel
theorem dX12_isRest_63 : decode cX12_isRest 63 = .ok (.if_icmp .gt 25, 3) := by decide +kernel
theorem dX12_isRest_66 : decode cX12_isRest 66 = .ok (.iload_n 2, 1) := by decide +kernel
theorem dX12_isRest_67 : decode cX12_isRest 67 = .ok (.iload 6, 2) := by decide +kernel
theorem dX12_isRest_69 : decode cX12_isRest 69 = .ok (.invokestatic 495, 3) := by decide +kernel
theorem dX12_isRest_72 : decode cX12_isRest 72 = .ok (.ifCond .eq 7, 3) := by decide +kernel
theorem dX12_isRest_75 : decode cX12_isRest 75 = .ok (.iconst 0, 1) := by decide +kernel
theorem dX12_isRest_76 : decode cX12_isRest 76 = .ok (.goto 7, 3) := by decide +kernel
theorem dX12_isRest_79 : decode cX12_isRest 79 = .ok (.iload 6, 2) := by decide +kernel
theorem dX12_isRest_81 : decode cX12_isRest 81 = .ok (.iload_n 1, 1) := by decide +kernel
theorem dX12_isRest_82 : decode cX12_isRest 82 = .ok (.isub, 1) := by decide +kernel
theorem dX12_isRest_83 : decode cX12_isRest 83 = .ok (.iload 5, 2) := by decide +kernel
theorem dX12_isRest_85 : decode cX12_isRest 85 = .ok (.if_icmp .le 5, 3) := by decide +kernel
theorem dX12_isRest_88 : decode cX12_isRest 88 = .ok (.iconst 0, 1) := by decide +kernel
theorem dX12_isRest_89 : decode cX12_isRest 89 = .ok (.ireturn, 1) := by decide +kernel
theorem dX12_isRest_90 : decode cX12_isRest 90 = .ok (.iinc 6 1, 3) := by decide +kernel
theorem dX12_isRest_93 : decode cX12_isRest 93 = .ok (.goto (-56), 3) := by decide +kernel
theorem dX12_isRest_96 : decode cX12_isRest 96 = .ok (.iconst 1, 1) := by decide +kernel
theorem dX12_isRest_97 : decode cX12_isRest 97 = .ok (.ireturn, 1) := by decide +kernel
theorem dX12_rest_0 : decode cX12_rest 0 = .ok (.aload_n 0, 1) := by decide +kernel
theorem dX12_rest_1 : decode cX12_rest 1 = .ok (.iconst 0, 1) := by decide +kernel
theorem dX12_rest_2 : decode cX12_rest 2 = .ok (.putfield 103, 3) := by decide +kernel
theorem dX12_rest_5 : decode cX12_rest 5 = .ok (.iload_n 1, 1) := by decide +kernel
theorem dX12_rest_6 : decode cX12_rest 6 = .ok (.iconst 0, 1) := by decide +kernel
theorem dX12_rest_7 : decode cX12_rest 7 = .ok (.bipush 20, 2) := by decide +kernel
theorem dX12_rest_9 : decode cX12_rest 9 = .ok (.invokestatic 115, 3) := by decide +kernel
theorem dX12_rest_12 : decode cX12_rest 12 = .ok (.ifCond .eq 13, 3) := by decide +kernel
theorem dX12_rest_15 : decode cX12_rest 15 = .ok (.iload_n 2, 1) := by decide +kernel
theorem dX12_rest_16 : decode cX12_rest 16 = .ok (.iconst 0, 1) := by decide +kernel
theorem dX12_rest_17 : decode cX12_rest 17 = .ok (.bipush 20, 2) := by decide +kernel
theorem dX12_rest_19 : decode cX12_rest 19 = .ok (.invokestatic 115, 3) := by decide +kernel
theorem dX12_rest_22 : decode cX12_rest 22 = .ok (.ifCond .ne 5, 3) := by decide +kernel
theorem dX12_rest_25 : decode cX12_rest 25 = .ok (.iconst (-1), 1) := by decide +kernel
theorem dX12_rest_26 : decode cX12_rest 26 = .ok (.ireturn, 1) := by decide +kernel
theorem dX12_rest_27 : decode cX12_rest 27 = .ok (.iconst 0, 1) := by decide +kernel
theorem dX12_rest_28 : decode cX12_rest 28 = .ok (.istore 4, 2) := by decide +kernel
theorem dX12_rest_30 : decode cX12_rest 30 = .ok (.iconst 0, 1) := by decide +kernel
theorem dX12_rest_31 : decode cX12_rest 31 = .ok (.istore 5, 2) := by decide +kernel
theorem dX12_rest_33 : decode cX12_rest 33 = .ok (.iconst 0, 1) := by decide +kernel
theorem dX12_rest_34 : decode cX12_rest 34 = .ok (.istore 6, 2) := by decide +kernel
theorem dX12_rest_36 : decode cX12_rest 36 = .ok (.iload 6, 2) := by decide +kernel
theorem dX12_rest_38 : decode cX12_rest 38 = .ok (.sipush 441, 3) := by decide +kernel
theorem dX12_rest_41 : decode cX12_rest 41 = .ok (.if_icmp .ge 65, 3) := by decide +kernel
theorem dX12_rest_44 : decode cX12_rest 44 = .ok (.iload_n 1, 1) := by decide +kernel
theorem dX12_rest_45 : decode cX12_rest 45 = .ok (.iload_n 2, 1) := by decide +kernel
theorem dX12_rest_46 : decode cX12_rest 46 = .ok (.iload 6, 2) := by decide +kernel
theorem dX12_rest_48 : decode cX12_rest 48 = .ok (.bipush 21, 2) := by decide +kernel
theorem dX12_rest_50 : decode cX12_rest 50 = .ok (.idiv, 1) := by decide +kernel
theorem dX12_rest_51 : decode cX12_rest 51 = .ok (.iload 6, 2) := by decide +kernel
theorem dX12_rest_53 : decode cX12_rest 53 = .ok (.bipush 21, 2) := by decide +kernel
theorem dX12_rest_55 : decode cX12_rest 55 = .ok (.irem, 1) := by decide +kernel
theorem dX12_rest_56 : decode cX12_rest 56 = .ok (.invokestatic 498, 3) := by decide +kernel
theorem dX12_rest_59 : decode cX12_rest 59 = .ok (.ifCond .eq 41, 3) := by decide +kernel
theorem dX12_rest_62 : decode cX12_rest 62 = .ok (.iload 4, 2) := by decide +kernel
theorem dX12_rest_64 : decode cX12_rest 64 = .ok (.iload_n 3, 1) := by decide +kernel
theorem dX12_rest_65 : decode cX12_rest 65 = .ok (.if_icmp .ne 6, 3) := by decide +kernel
theorem dX12_rest_68 : decode cX12_rest 68 = .ok (.iload 6, 2) := by decide +kernel
theorem dX12_rest_70 : decode cX12_rest 70 = .ok (.ireturn, 1) := by decide +kernel
theorem dX12_rest_71 : decode cX12_rest 71 = .ok (.iinc 4 1, 3) := by decide +kernel
theorem dX12_rest_74 : decode cX12_rest 74 = .ok (.iload 5, 2) := by decide +kernel
theorem dX12_rest_76 : decode cX12_rest 76 = .ok (.iload 6, 2) := by decide +kernel
theorem dX12_rest_78 : decode cX12_rest 78 = .ok (.bipush 21, 2) := by decide +kernel
theorem dX12_rest_80 : decode cX12_rest 80 = .ok (.idiv, 1) := by decide +kernel
theorem dX12_rest_81 : decode cX12_rest 81 = .ok (.iload 6, 2) := by decide +kernel
theorem dX12_rest_83 : decode cX12_rest 83 = .ok (.bipush 21, 2) := by decide +kernel
theorem dX12_rest_85 : decode cX12_rest 85 = .ok (.irem, 1) := by decide +kernel
theorem dX12_rest_86 : decode cX12_rest 86 = .ok (.invokestatic 495, 3) := by decide +kernel
theorem dX12_rest_89 : decode cX12_rest 89 = .ok (.ifCond .eq 7, 3) := by decide +kernel
theorem dX12_rest_92 : decode cX12_rest 92 = .ok (.iconst 1, 1) := by decide +kernel
theorem dX12_rest_93 : decode cX12_rest 93 = .ok (.goto 4, 3) := by decide +kernel
theorem dX12_rest_96 : decode cX12_rest 96 = .ok (.iconst 0, 1) := by decide +kernel
theorem dX12_rest_97 : decode cX12_rest 97 = .ok (.iadd, 1) := by decide +kernel
theorem dX12_rest_98 : decode cX12_rest 98 = .ok (.istore 5, 2) := by decide +kernel
theorem dX12_rest_100 : decode cX12_rest 100 = .ok (.iinc 6 1, 3) := by decide +kernel
theorem dX12_rest_103 : decode cX12_rest 103 = .ok (.goto (-67), 3) := by decide +kernel
theorem dX12_rest_106 : decode cX12_rest 106 = .ok (.iload_n 3, 1) := by decide +kernel
theorem dX12_rest_107 : decode cX12_rest 107 = .ok (.iconst (-1), 1) := by decide +kernel
theorem dX12_rest_108 : decode cX12_rest 108 = .ok (.if_icmp .ne 8, 3) := by decide +kernel
theorem dX12_rest_111 : decode cX12_rest 111 = .ok (.iload 4, 2) := by decide +kernel
theorem dX12_rest_113 : decode cX12_rest 113 = .ok (.goto 32, 3) := by decide +kernel
theorem dX12_rest_116 : decode cX12_rest 116 = .ok (.iload_n 3, 1) := by decide +kernel
theorem dX12_rest_117 : decode cX12_rest 117 = .ok (.bipush (-2), 2) := by decide +kernel
theorem dX12_rest_119 : decode cX12_rest 119 = .ok (.if_icmp .ne 25, 3) := by decide +kernel
theorem dX12_rest_122 : decode cX12_rest 122 = .ok (.iload 4, 2) := by decide +kernel
theorem dX12_rest_124 : decode cX12_rest 124 = .ok (.ifCond .le 20, 3) := by decide +kernel
theorem dX12_rest_127 : decode cX12_rest 127 = .ok (.iconst 2, 1) := by decide +kernel
theorem dX12_rest_128 : decode cX12_rest 128 = .ok (.iload 5, 2) := by decide +kernel
theorem dX12_rest_130 : decode cX12_rest 130 = .ok (.imul, 1) := by decide +kernel
theorem dX12_rest_131 : decode cX12_rest 131 = .ok (.iload 4, 2) := by decide +kernel
theorem dX12_rest_133 : decode cX12_rest 133 = .ok (.if_icmp .lt 7, 3) := by decide +kernel
theorem dX12_rest_136 : decode cX12_rest 136 = .ok (.iconst 0, 1) := by decide +kernel
theorem dX12_rest_137 : decode cX12_rest 137 = .ok (.goto 8, 3) := by decide +kernel
theorem dX12_rest_140 : decode cX12_rest 140 = .ok (.iconst 1, 1) := by decide +kernel
theorem dX12_rest_141 : decode cX12_rest 141 = .ok (.goto 4, 3) := by decide +kernel
theorem dX12_rest_144 : decode cX12_rest 144 = .ok (.iconst (-1), 1) := by decide +kernel
theorem dX12_rest_145 : decode cX12_rest 145 = .ok (.ireturn, 1) := by decide +kernel
set_option maxRecDepth 20000 in
theorem tm_3_62 : tMet TB0 3 62 = some (0, M_X3_firstWins) := rfl
set_option maxRecDepth 20000 in
theorem tm_3_65 : tMet TB0 3 65 = some (0, M_X3_secondWins) := rfl
set_option maxRecDepth 20000 in
theorem tm_3_68 : tMet TB0 3 68 = some (0, M_X3_isRest) := rfl
set_option maxRecDepth 20000 in
theorem tm_11_210 : tMet TB0 11 210 = some (0, M_X3_weighCalls) := rfl
set_option maxRecDepth 20000 in
theorem tm_11_214 : tMet TB0 11 214 = some (0, M_X3_rests) := rfl
set_option maxRecDepth 20000 in
theorem tm_11_217 : tMet TB0 11 217 = some (0, M_X3_mostlySelling) := rfl
set_option maxRecDepth 20000 in
theorem tm_11_220 : tMet TB0 11 220 = some (0, M_X3_restAt) := rfl
set_option maxRecDepth 20000 in
theorem tm_12_495 : tMet TB0 12 495 = some (1, M_X12_sellsFirst) := rfl
set_option maxRecDepth 20000 in
theorem tm_12_498 : tMet TB0 12 498 = some (1, M_X12_isRest) := rfl
/-! TAILORS -/
def fwZ (c a b : Int) : Int := if a ≤ b then a - c else 0
def swZ (d a b : Int) : Int := if b < a then b - d else 0
def mxN (f : Int → Int) : Nat → Int
  | 0 => f 0
  | n + 1 => max (mxN f n) (f ((n + 1 : Nat) : Int))
theorem mxN_le {f : Int → Int} {n : Nat} {j : Int} (h0 : 0 ≤ j) (h1 : j ≤ n) : f j ≤ mxN f n := by
  induction n with
  | zero => rw [show j = 0 by omega]; exact Int.le_refl _
  | succ n ih =>
    show _ ≤ max _ _
    by_cases q : j = ((n + 1 : Nat) : Int)
    · rw [q]; omega
    · have := ih (by omega)
      omega
theorem mxN_ge {f : Int → Int} {n : Nat} {x : Int} (h : ∀ j : Int, 0 ≤ j → j ≤ n → f j ≤ x) : mxN f n ≤ x := by
  induction n with
  | zero => exact h 0 (by omega) (by omega)
  | succ n ih =>
    have a := ih (fun j p q => h j p (by omega))
    have c := h ((n + 1 : Nat) : Int) (by omega) (by omega)
    show max _ _ ≤ _
    omega
theorem mxN_s {f : Int → Int} {j : Int} (h : 1 ≤ j) : mxN f j.toNat = max (mxN f (j - 1).toNat) (f j) := by
  rw [show j.toNat = (j - 1).toNat + 1 by omega]
  show max _ (f (((j - 1).toNat + 1 : Nat) : Int)) = _
  rw [show (((j - 1).toNat + 1 : Nat) : Int) = j by omega]
def fbZ (c b : Int) : Int := mxN (fun j => fwZ c j b) 20
def sbZ (d a : Int) : Int := mxN (fun j => swZ d a j) 20
abbrev rsP (c d k : Int) : Prop := fwZ c (k / 21) (k % 21) = fbZ c (k % 21) ∧ swZ d (k / 21) (k % 21) = sbZ d (k / 21)
theorem fwZ_b {c a b : Int} (h : 0 ≤ c ∧ c ≤ 20) (ha : 0 ≤ a ∧ a ≤ 20) : -20 ≤ fwZ c a b ∧ fwZ c a b ≤ 20 := by unfold fwZ; split <;> omega
theorem swZ_b {c a b : Int} (h : 0 ≤ c ∧ c ≤ 20) (ha : 0 ≤ b ∧ b ≤ 20) : -20 ≤ swZ c a b ∧ swZ c a b ≤ 20 := by unfold swZ; split <;> omega
theorem fwZ_B (c a b : Int) (h : 0 ≤ c ∧ c ≤ 20) (ha : 0 ≤ a ∧ a ≤ 20) (_hb : 0 ≤ b ∧ b ≤ 20) : -20 ≤ fwZ c a b ∧ fwZ c a b ≤ 20 := fwZ_b h ha
theorem swZ_B (c a b : Int) (h : 0 ≤ c ∧ c ≤ 20) (_ha : 0 ≤ a ∧ a ≤ 20) (hb : 0 ≤ b ∧ b ≤ 20) : -20 ≤ swZ c a b ∧ swZ c a b ≤ 20 := swZ_b h hb
theorem fbZ_b (c b : Int) : (0 ≤ c ∧ c ≤ 20) → -20 ≤ fbZ c b ∧ fbZ c b ≤ 20 := fun h => by
  have a : fwZ c 0 b ≤ fbZ c b := mxN_le (f := fun j => fwZ c j b) (n := 20) (Int.le_refl _) (by omega)
  have e := fwZ_b (b := b) h (a := 0) ⟨by omega, by omega⟩
  have g : fbZ c b ≤ 20 := mxN_ge (fun j p q => (fwZ_b h ⟨p, by omega⟩).2)
  omega
theorem sbZ_b (d a : Int) : (0 ≤ d ∧ d ≤ 20) → -20 ≤ sbZ d a ∧ sbZ d a ≤ 20 := fun h => by
  have e1 : swZ d a 0 ≤ sbZ d a := mxN_le (f := fun j => swZ d a j) (n := 20) (Int.le_refl _) (by omega)
  have e := swZ_b (a := a) h (b := 0) ⟨by omega, by omega⟩
  have g : sbZ d a ≤ 20 := mxN_ge (fun j p q => (swZ_b h ⟨p, by omega⟩).2)
  omega
theorem rsP_i {c d k : Int} (h : 0 ≤ k ∧ k < 441) : rsP c d k ↔ ∀ j : Int, 0 ≤ j → j ≤ 20 → fwZ c j (k % 21) ≤ fwZ c (k / 21) (k % 21) ∧ swZ d (k / 21) j ≤ swZ d (k / 21) (k % 21) := by
  constructor
  · rintro ⟨q1, q2⟩ j a b
    rw [q1, q2]
    exact ⟨mxN_le (f := fun j => fwZ c j (k % 21)) (n := 20) a (by omega), mxN_le (f := fun j => swZ d (k / 21) j) (n := 20) a (by omega)⟩
  · intro q
    refine ⟨Int.le_antisymm (mxN_le (f := fun j => fwZ c j (k % 21)) (n := 20) (by omega) (by omega)) (mxN_ge (fun j a b => (q j a (by omega)).1)), Int.le_antisymm (mxN_le (f := fun j => swZ d (k / 21) j) (n := 20) (by omega) (by omega)) (mxN_ge (fun j a b => (q j a (by omega)).2))⟩
theorem mxF_b {c b : Int} (h : 0 ≤ c ∧ c ≤ 20) {n : Nat} (_h0 : 0 ≤ n) (h1 : n ≤ 20) : -20 ≤ mxN (fun j => fwZ c j b) n ∧ mxN (fun j => fwZ c j b) n ≤ 20 := by
  have a : fwZ c 0 b ≤ mxN (fun j => fwZ c j b) n := mxN_le (f := fun j => fwZ c j b) (Int.le_refl _) (by omega)
  have e := fwZ_b (b := b) h (a := 0) ⟨by omega, by omega⟩
  have g : mxN (fun j => fwZ c j b) n ≤ 20 := mxN_ge (fun j p q => (fwZ_b h ⟨p, by omega⟩).2)
  omega
theorem mxS_b {d a : Int} (h : 0 ≤ d ∧ d ≤ 20) {n : Nat} (_h0 : 0 ≤ n) (h1 : n ≤ 20) : -20 ≤ mxN (fun j => swZ d a j) n ∧ mxN (fun j => swZ d a j) n ≤ 20 := by
  have e1 : swZ d a 0 ≤ mxN (fun j => swZ d a j) n := mxN_le (f := fun j => swZ d a j) (Int.le_refl _) (by omega)
  have e := swZ_b (a := a) h (b := 0) ⟨by omega, by omega⟩
  have g : mxN (fun j => swZ d a j) n ≤ 20 := mxN_ge (fun j p q => (swZ_b h ⟨p, by omega⟩).2)
  omega
def rsF (h : mH) (y : Nat) (c d : Int) : Prop := rI h y 6 = c ∧ rI h y 7 = d
theorem rsF_c {S : Nat → Nat → Prop} {h h1 : mH} {y : Nat} {c d : Int} (s : frm S h h1) (n : ∀ a k, a = y ∧ (k = 6 ∨ k = 7) → ¬ S a k) (H : rsF h y c d) : rsF h1 y c d := ⟨(frm_r s (n _ _ ⟨rfl, Or.inl rfl⟩)).trans H.1, (frm_r s (n _ _ ⟨rfl, Or.inr rfl⟩)).trans H.2⟩
def rsC (h : mH) (y : Nat) (c d : Int) : Prop := rsF h y c d ∧ ∀ k : Int, 0 ≤ k → k < 21 → rI h (y + 2) k = fbZ c k ∧ rI h (y + 3) k = sbZ d k
theorem rsC_c {S : Nat → Nat → Prop} {h h1 : mH} {y : Nat} {c d : Int} (s : frm S h h1) (n : ∀ a k, y ≤ a ∧ a < y + 4 → ¬ S a k) (H : rsC h y c d) : rsC h1 y c d := ⟨rsF_c s (fun a k q => n a k (by omega)) H.1, fun k a b => ⟨(frm_r s (n _ _ (by omega))).trans (H.2 k a b).1, (frm_r s (n _ _ (by omega))).trans (H.2 k a b).2⟩⟩
def rsN (c d : Int) (k : Int) : Int := sumZ (fun i => bZ (rsP c d i)) k.toNat
def rsA (c d : Int) (k : Int) : Int := sumZ (fun i => bZ (rsP c d i ∧ i / 21 ≤ i % 21)) k.toNat
def rsB (c d : Int) (k : Int) : Int := sumZ (fun i => bZ (rsP c d i ∧ i % 21 < i / 21)) k.toNat
theorem rs_sum (c d : Int) (n : Nat) : sumZ (fun i => bZ (rsP c d i)) n = sumZ (fun i => bZ (rsP c d i ∧ i / 21 ≤ i % 21)) n + sumZ (fun i => bZ (rsP c d i ∧ i % 21 < i / 21)) n := by
  induction n with
  | zero => rfl
  | succ n ih =>
    show _ + _ = (_ + _) + (_ + _)
    rw [ih]
    dsimp only
    by_cases q : rsP c d n
    · by_cases z : (n : Int) / 21 ≤ (n : Int) % 21
      · rw [bZ_1 q, bZ_1 ⟨q, z⟩, bZ_0 (fun w => by have := w.2; omega)]; omega
      · rw [bZ_1 q, bZ_0 (fun w => z w.2), bZ_1 ⟨q, by omega⟩]; omega
    · rw [bZ_0 q, bZ_0 (fun w => q w.1), bZ_0 (fun w => q w.1)]; omega
theorem sumB_b (P : Int → Prop) [DecidablePred P] (n : Nat) : 0 ≤ sumZ (fun i => bZ (P i)) n ∧ sumZ (fun i => bZ (P i)) n ≤ n := by
  have := sumZ_b (f := fun i => bZ (P i)) (lo := 0) (hi := 1) (n := n) (fun i _ _ => ⟨bZ_lo _, bZ_hi _⟩)
  omega
def rsM (c d : Int) : Int := if rsA c d 441 + rsB c d 441 = 0 then -1 else if rsA c d 441 < rsB c d 441 then 1 else 0
def rsR (c d k v : Int) : Prop := (k = -1 ∧ v = rsN c d 441) ∨ (k = -2 ∧ v = rsM c d) ∨ (0 ≤ k ∧ fst1 (fun i => rsP c d i ∧ rsN c d i = k) 441 v) ∨ (k < -2 ∧ v = -1)
def rsZ (c d k v : Int) : Prop := ((0 ≤ c ∧ c ≤ 20) ∧ (0 ≤ d ∧ d ≤ 20) ∧ rsR c d k v) ∨ (¬ ((0 ≤ c ∧ c ≤ 20) ∧ (0 ≤ d ∧ d ≤ 20)) ∧ v = -1)
theorem rsZ_u {c d k v v' : Int} (a : rsZ c d k v) (b : rsZ c d k v') : v = v' := by
  rcases a with ⟨a1, a2, a3⟩ | ⟨a1, a2⟩
  · rcases b with ⟨b1, b2, b3⟩ | ⟨b1, b2⟩
    · rcases a3 with ⟨a3, a4⟩ | ⟨a3, a4⟩ | ⟨a3, a4⟩ | ⟨a3, a4⟩ <;> rcases b3 with ⟨b3, b4⟩ | ⟨b3, b4⟩ | ⟨b3, b4⟩ | ⟨b3, b4⟩ <;> first | omega | exact fst1_u a4 b4
    · exact absurd ⟨a1, a2⟩ b1
  · rcases b with ⟨b1, b2, b3⟩ | ⟨b1, b2⟩
    · exact absurd ⟨b1, b2⟩ a1
    · rw [a2, b2]
theorem rsZ_n {c d k : Int} (h : ¬ ((0 ≤ c ∧ c ≤ 20) ∧ (0 ≤ d ∧ d ≤ 20)) ∨ k < -2) : rsZ c d k (-1) := by
  by_cases z : (0 ≤ c ∧ c ≤ 20) ∧ (0 ≤ d ∧ d ≤ 20)
  · exact Or.inl ⟨z.1, z.2, Or.inr (Or.inr (Or.inr ⟨by omega, rfl⟩))⟩
  · exact Or.inr ⟨z, rfl⟩
theorem rsZ_m {c d k n : Int} (hc : 0 ≤ c ∧ c ≤ 20) (hd : 0 ≤ d ∧ d ≤ 20) (hn : n = rsN c d 441) (h5 : ∀ j, 0 ≤ j → j < 441 → ¬ (rsP c d j ∧ rsN c d j = k)) (h1 : k ≠ -1) (h2 : k = -2 → n ≤ 0) : rsZ c d k (-1) := by
  have z1 : rsN c d 441 = rsA c d 441 + rsB c d 441 := rs_sum c d 441
  have z2 : 0 ≤ rsA c d 441 := (sumB_b (fun i => rsP c d i ∧ i / 21 ≤ i % 21) 441).1
  have z3 : 0 ≤ rsB c d 441 := (sumB_b (fun i => rsP c d i ∧ i % 21 < i / 21) 441).1
  refine Or.inl ⟨hc, hd, ?_⟩
  rcases (show k < -2 ∨ k = -2 ∨ 0 ≤ k by omega) with q | q | q
  · exact Or.inr (Or.inr (Or.inr ⟨q, rfl⟩))
  · refine Or.inr (Or.inl ⟨q, ?_⟩)
    have := h2 q
    unfold rsM
    rw [if_pos (by omega)]
  · exact Or.inr (Or.inr (Or.inl ⟨q, Or.inl ⟨rfl, h5⟩⟩))
theorem rsN_s {c d i : Int} (h : 0 ≤ i) : rsN c d (i + 1) = rsN c d i + bZ (rsP c d i) := sumZ_s h
theorem rsA_s {c d i : Int} (h : 0 ≤ i) : rsA c d (i + 1) = rsA c d i + bZ (rsP c d i ∧ i / 21 ≤ i % 21) := sumZ_s h
theorem rsB_s {c d i : Int} (h : 0 ≤ i) : rsB c d (i + 1) = rsB c d i + bZ (rsP c d i ∧ i % 21 < i / 21) := sumZ_s h
theorem rsN_b {c d i : Int} (h : 0 ≤ i) : 0 ≤ rsN c d i ∧ rsN c d i ≤ i := by have := sumB_b (fun i => rsP c d i) i.toNat; unfold rsN; omega
theorem rsA_b {c d i : Int} (h : 0 ≤ i) : 0 ≤ rsA c d i ∧ rsA c d i ≤ i := by have := sumB_b (fun i => rsP c d i ∧ i / 21 ≤ i % 21) i.toNat; unfold rsA; omega
theorem rsB_b {c d i : Int} (h : 0 ≤ i) : 0 ≤ rsB c d i ∧ rsB c d i ≤ i := by have := sumB_b (fun i => rsP c d i ∧ i % 21 < i / 21) i.toNat; unfold rsB; omega
set_option maxHeartbeats 400000 in
theorem zp_X3_firstWins {ad : mA} {dd : Nat} {h : mH} {Q : mQ} {y : Nat} {c d : Int} (hk : gak h y) (HG : rsF h y c d)  (a : Int) (a_r : -2147483648 ≤ a ∧ a < 2147483648) (e : Int) (e_r : -2147483648 ≤ e ∧ e < 2147483648) (pc_ : 0 ≤ c ∧ c ≤ 20) (pd_ : 0 ≤ d ∧ d ≤ 20) (pa : 0 ≤ a ∧ a ≤ 20) (pe : 0 ≤ e ∧ e ≤ 20) (kq : Q (some (.int (zI (fwZ c a e)))) h) : mCal TB0 ad (dd + 1) M_X3_firstWins [.ref y, .int (zI a), .int (zI e)] h 0 0 Q := by
  refine ⟨Nat.le_of_ble_eq_true rfl, ?_⟩
  show mEv TB0 ad M_X3_firstWins (dd + 1) (0, 0) (mCal TB0 ad (dd + 0)) (fun v h' z => z.1 = 0 ∧ Q v h') 0 [some (.ref y), some (.int (zI a)), some (.int (zI e))] [] h (0, 0)
  refine e_iload_n dX3_firstWins_0 rfl ?_
  refine e_iload_n dX3_firstWins_1 rfl ?_
  refine z_icmp_gt 14 dX3_firstWins_2 rfl ⟨by omega, by omega⟩ ⟨by omega, by omega⟩ (fun c1 => ?_) (fun c1 => ?_)
  · skip
    refine z_iconst (0) dX3_firstWins_14 rfl ?_
    refine z_iret dX3_firstWins_15 rfl ⟨rfl, ?_⟩
    refine z_q kq ?_
    unfold fwZ; first | rw [if_pos (by omega)] | rw [if_neg (by omega)]
  · skip
    refine e_iload_n dX3_firstWins_5 rfl ?_
    refine e_aload_n dX3_firstWins_6 rfl ?_
    refine z_get c dX3_firstWins_7 tf_3_32 (congrArg Prod.fst (ga_s0 hk)) (Or.inl rfl) HG.1 ?_
    refine z_isub dX3_firstWins_10 ?_
    refine e_goto 15 dX3_firstWins_11 rfl ?_
    refine z_iret dX3_firstWins_15 rfl ⟨rfl, ?_⟩
    refine z_q kq ?_
    unfold fwZ; first | rw [if_pos (by omega)] | rw [if_neg (by omega)]
set_option maxHeartbeats 400000 in
theorem zp_X3_firstWins_C {ad : mA} {dd : Nat} {h : mH} {Q : mQ} {y : Nat} {c d : Int} (hk : gak h y) (HG : rsC h y c d)  (a : Int) (a_r : -2147483648 ≤ a ∧ a < 2147483648) (e : Int) (e_r : -2147483648 ≤ e ∧ e < 2147483648) (pc_ : 0 ≤ c ∧ c ≤ 20) (pd_ : 0 ≤ d ∧ d ≤ 20) (pa : 0 ≤ a ∧ a ≤ 20) (pe : 0 ≤ e ∧ e ≤ 20) (kq : Q (some (.int (zI (fwZ c a e)))) h) : mCal TB0 ad (dd + 1) M_X3_firstWins [.ref y, .int (zI a), .int (zI e)] h 0 0 Q := by
  refine ⟨Nat.le_of_ble_eq_true rfl, ?_⟩
  show mEv TB0 ad M_X3_firstWins (dd + 1) (0, 0) (mCal TB0 ad (dd + 0)) (fun v h' z => z.1 = 0 ∧ Q v h') 0 [some (.ref y), some (.int (zI a)), some (.int (zI e))] [] h (0, 0)
  refine e_iload_n dX3_firstWins_0 rfl ?_
  refine e_iload_n dX3_firstWins_1 rfl ?_
  refine z_icmp_gt 14 dX3_firstWins_2 rfl ⟨by omega, by omega⟩ ⟨by omega, by omega⟩ (fun c1 => ?_) (fun c1 => ?_)
  · skip
    refine z_iconst (0) dX3_firstWins_14 rfl ?_
    refine z_iret dX3_firstWins_15 rfl ⟨rfl, ?_⟩
    refine z_q kq ?_
    unfold fwZ; first | rw [if_pos (by omega)] | rw [if_neg (by omega)]
  · skip
    refine e_iload_n dX3_firstWins_5 rfl ?_
    refine e_aload_n dX3_firstWins_6 rfl ?_
    refine z_get c dX3_firstWins_7 tf_3_32 (congrArg Prod.fst (ga_s0 hk)) (Or.inl rfl) HG.1.1 ?_
    refine z_isub dX3_firstWins_10 ?_
    refine e_goto 15 dX3_firstWins_11 rfl ?_
    refine z_iret dX3_firstWins_15 rfl ⟨rfl, ?_⟩
    refine z_q kq ?_
    unfold fwZ; first | rw [if_pos (by omega)] | rw [if_neg (by omega)]
set_option maxHeartbeats 400000 in
theorem zp_X3_secondWins {ad : mA} {dd : Nat} {h : mH} {Q : mQ} {y : Nat} {c d : Int} (hk : gak h y) (HG : rsF h y c d)  (a : Int) (a_r : -2147483648 ≤ a ∧ a < 2147483648) (e : Int) (e_r : -2147483648 ≤ e ∧ e < 2147483648) (pc_ : 0 ≤ c ∧ c ≤ 20) (pd_ : 0 ≤ d ∧ d ≤ 20) (pa : 0 ≤ a ∧ a ≤ 20) (pe : 0 ≤ e ∧ e ≤ 20) (kq : Q (some (.int (zI (swZ d a e)))) h) : mCal TB0 ad (dd + 1) M_X3_secondWins [.ref y, .int (zI a), .int (zI e)] h 0 0 Q := by
  refine ⟨Nat.le_of_ble_eq_true rfl, ?_⟩
  show mEv TB0 ad M_X3_secondWins (dd + 1) (0, 0) (mCal TB0 ad (dd + 0)) (fun v h' z => z.1 = 0 ∧ Q v h') 0 [some (.ref y), some (.int (zI a)), some (.int (zI e))] [] h (0, 0)
  refine e_iload_n dX3_secondWins_0 rfl ?_
  refine e_iload_n dX3_secondWins_1 rfl ?_
  refine z_icmp_ge 14 dX3_secondWins_2 rfl ⟨by omega, by omega⟩ ⟨by omega, by omega⟩ (fun c1 => ?_) (fun c1 => ?_)
  · skip
    refine z_iconst (0) dX3_secondWins_14 rfl ?_
    refine z_iret dX3_secondWins_15 rfl ⟨rfl, ?_⟩
    refine z_q kq ?_
    unfold swZ; first | rw [if_pos (by omega)] | rw [if_neg (by omega)]
  · skip
    refine e_iload_n dX3_secondWins_5 rfl ?_
    refine e_aload_n dX3_secondWins_6 rfl ?_
    refine z_get d dX3_secondWins_7 tf_3_36 (congrArg Prod.fst (ga_s0 hk)) (Or.inl rfl) HG.2 ?_
    refine z_isub dX3_secondWins_10 ?_
    refine e_goto 15 dX3_secondWins_11 rfl ?_
    refine z_iret dX3_secondWins_15 rfl ⟨rfl, ?_⟩
    refine z_q kq ?_
    unfold swZ; first | rw [if_pos (by omega)] | rw [if_neg (by omega)]
set_option maxHeartbeats 400000 in
theorem zp_X3_secondWins_C {ad : mA} {dd : Nat} {h : mH} {Q : mQ} {y : Nat} {c d : Int} (hk : gak h y) (HG : rsC h y c d)  (a : Int) (a_r : -2147483648 ≤ a ∧ a < 2147483648) (e : Int) (e_r : -2147483648 ≤ e ∧ e < 2147483648) (pc_ : 0 ≤ c ∧ c ≤ 20) (pd_ : 0 ≤ d ∧ d ≤ 20) (pa : 0 ≤ a ∧ a ≤ 20) (pe : 0 ≤ e ∧ e ≤ 20) (kq : Q (some (.int (zI (swZ d a e)))) h) : mCal TB0 ad (dd + 1) M_X3_secondWins [.ref y, .int (zI a), .int (zI e)] h 0 0 Q := by
  refine ⟨Nat.le_of_ble_eq_true rfl, ?_⟩
  show mEv TB0 ad M_X3_secondWins (dd + 1) (0, 0) (mCal TB0 ad (dd + 0)) (fun v h' z => z.1 = 0 ∧ Q v h') 0 [some (.ref y), some (.int (zI a)), some (.int (zI e))] [] h (0, 0)
  refine e_iload_n dX3_secondWins_0 rfl ?_
  refine e_iload_n dX3_secondWins_1 rfl ?_
  refine z_icmp_ge 14 dX3_secondWins_2 rfl ⟨by omega, by omega⟩ ⟨by omega, by omega⟩ (fun c1 => ?_) (fun c1 => ?_)
  · skip
    refine z_iconst (0) dX3_secondWins_14 rfl ?_
    refine z_iret dX3_secondWins_15 rfl ⟨rfl, ?_⟩
    refine z_q kq ?_
    unfold swZ; first | rw [if_pos (by omega)] | rw [if_neg (by omega)]
  · skip
    refine e_iload_n dX3_secondWins_5 rfl ?_
    refine e_aload_n dX3_secondWins_6 rfl ?_
    refine z_get d dX3_secondWins_7 tf_3_36 (congrArg Prod.fst (ga_s0 hk)) (Or.inl rfl) HG.1.2 ?_
    refine z_isub dX3_secondWins_10 ?_
    refine e_goto 15 dX3_secondWins_11 rfl ?_
    refine z_iret dX3_secondWins_15 rfl ⟨rfl, ?_⟩
    refine z_q kq ?_
    unfold swZ; first | rw [if_pos (by omega)] | rw [if_neg (by omega)]
set_option maxHeartbeats 400000 in
theorem zp_X3_weighCalls {ad : mA} {dd : Nat} {h : mH} {Q : mQ} {y : Nat}  (hk : gak h y)  (c : Int) (c_r : -2147483648 ≤ c ∧ c < 2147483648) (d : Int) (d_r : -2147483648 ≤ d ∧ d < 2147483648) (pc_ : 0 ≤ c ∧ c ≤ 20) (pd_ : 0 ≤ d ∧ d ≤ 20) (kq : ∀ h1, frm (fun a i => (a = y ∧ (i = 6 ∨ i = 7)) ∨ a = y + 2 ∨ a = y + 3) h h1 → (rsC h1 y c d) → Q none h1) : mCal TB0 ad (dd + 2) M_X3_weighCalls [.ref y, .int (zI c), .int (zI d)] h 0 0 Q := by
  refine ⟨Nat.le_of_ble_eq_true rfl, ?_⟩
  show mEv TB0 ad M_X3_weighCalls (dd + 2) (0, 0) (mCal TB0 ad (dd + 1)) (fun v h' z => z.1 = 0 ∧ Q v h') 0 [some (.ref y), some (.int (zI c)), some (.int (zI d)), none, none] [] h (0, 0)
  have FR0 : frm (fun a i => (a = y ∧ (i = 6 ∨ i = 7)) ∨ a = y + 2 ∨ a = y + 3) h h := frm_0 h
  refine e_aload_n dX3_weighCalls_0 rfl ?_
  refine e_iload_n dX3_weighCalls_1 rfl ?_
  refine z_put dX3_weighCalls_2 tf_3_32 (congrArg Prod.fst (ga_s0 hk)) rfl (Or.inl rfl) (fun h1 e2 => ?_)
  have f3 := frm_1 e2
  have k4 := lk_q (frm_s f3) hk
  have FR5 := frm_t FR0 (frm_m (S' := (fun a i => (a = y ∧ (i = 6 ∨ i = 7)) ∨ a = y + 2 ∨ a = y + 3)) f3 (fun a k q => by omega))
  refine e_aload_n dX3_weighCalls_5 rfl ?_
  refine e_iload_n dX3_weighCalls_6 rfl ?_
  refine z_put dX3_weighCalls_7 tf_3_36 (congrArg Prod.fst (ga_s0 k4)) rfl (Or.inl rfl) (fun h6 e7 => ?_)
  have f8 := frm_1 e7
  have k9 := lk_q (frm_s f8) k4
  have FR10 := frm_t FR5 (frm_m (S' := (fun a i => (a = y ∧ (i = 6 ∨ i = 7)) ∨ a = y + 2 ∨ a = y + 3)) f8 (fun a k q => by omega))
  have F0 : rsF h6 y c d := ⟨((frm_r f8 (by omega)).trans (rI_eq e2 ⟨by omega, by omega⟩)), (rI_eq e7 ⟨by omega, by omega⟩)⟩
  refine z_iconst (0) dX3_weighCalls_10 rfl ?_
  refine e_istore_n (L' := [_, _, _, _, _]) dX3_weighCalls_11 (Nat.le_of_ble_eq_true rfl) rfl ?_
  have lp11 : ∀ (n11 : Nat) (k : Int) (h11 : mH), (21 - k).toNat = n11 → (gak h11 y) → (rsF h11 y c d) → (frm (fun a i => (a = y ∧ (i = 6 ∨ i = 7)) ∨ a = y + 2 ∨ a = y + 3) h h11) → (0 ≤ k) → (k ≤ 21) → (∀ q : Int, 0 ≤ q → q < k → rI h11 (y + 2) q = fbZ c q ∧ rI h11 (y + 3) q = sbZ d q) → mEv TB0 ad M_X3_weighCalls (dd + 2) (0, 0) (mCal TB0 ad (dd + 1)) (fun v h' z => z.1 = 0 ∧ Q v h') 12 [some (.ref y), some (.int (zI c)), some (.int (zI d)), some (.int (zI k)), none] [] h11 (0, 0) := by
    intro n11
    induction n11 using Nat.strongRecOn with
    | ind n11 ih11 =>
    intro k h11 hn11 k12 H13 FR14 I1 I2 I3
    refine e_iload_n dX3_weighCalls_12 rfl ?_
    refine z_bipush (21) dX3_weighCalls_13 rfl ?_
    refine z_icmp_ge 108 dX3_weighCalls_15 rfl ⟨by omega, by omega⟩ ⟨by omega, by omega⟩ (fun c15 => ?_) (fun c15 => ?_)
    · skip
      refine e_vret dX3_weighCalls_108 rfl ⟨rfl, ?_⟩
      exact kq _ FR14 ⟨H13, fun q a z => I3 q a (by omega)⟩
    · skip
      refine e_aload_n dX3_weighCalls_18 rfl ?_
      refine e_get (.ref (y + 2)) dX3_weighCalls_19 tf_3_26 (congrArg Prod.fst (ga_s0 k12)) (congrArg va_rf (ga_r0_4 k12)) ?_
      refine e_iload_n dX3_weighCalls_22 rfl ?_
      refine e_aload_n dX3_weighCalls_23 rfl ?_
      refine z_iconst (0) dX3_weighCalls_24 rfl ?_
      refine e_iload_n dX3_weighCalls_25 rfl ?_
      refine e_callV [.int _, .int _] dX3_weighCalls_26 tm_3_62 rfl (Nat.le_of_ble_eq_true rfl) (congrArg Prod.fst (ga_s0 k12)) (Nat.le_of_ble_eq_true rfl) (Nat.le_refl _) (Nat.le_refl _) rfl (zp_X3_firstWins k12 H13 0 ⟨by omega, by omega⟩ k ⟨by omega, by omega⟩ (by omega) (by omega) (by omega) (by omega) ?_)
      have y16 := fwZ_B c 0 k (by omega) (by omega) (by omega)
      refine z_ist dX3_weighCalls_29 (ga_s2 k12) (by decide) (by omega) (by omega) (fun h17 e18 => ?_)
      have f19 := frm_1 e18
      have k20 := lk_q (frm_s f19) k12
      have H21 := rsF_c f19 (fun a k q => by omega) H13
      have FR22 := frm_t FR14 (frm_m (S' := (fun a i => (a = y ∧ (i = 6 ∨ i = 7)) ∨ a = y + 2 ∨ a = y + 3)) f19 (fun a k q => by omega))
      refine e_aload_n dX3_weighCalls_30 rfl ?_
      refine e_get (.ref (y + 3)) dX3_weighCalls_31 tf_3_29 (congrArg Prod.fst (ga_s0 k20)) (congrArg va_rf (ga_r0_5 k20)) ?_
      refine e_iload_n dX3_weighCalls_34 rfl ?_
      refine e_aload_n dX3_weighCalls_35 rfl ?_
      refine e_iload_n dX3_weighCalls_36 rfl ?_
      refine z_iconst (0) dX3_weighCalls_37 rfl ?_
      refine e_callV [.int _, .int _] dX3_weighCalls_38 tm_3_65 rfl (Nat.le_of_ble_eq_true rfl) (congrArg Prod.fst (ga_s0 k20)) (Nat.le_of_ble_eq_true rfl) (Nat.le_refl _) (Nat.le_refl _) rfl (zp_X3_secondWins k20 H21 k ⟨by omega, by omega⟩ 0 ⟨by omega, by omega⟩ (by omega) (by omega) (by omega) (by omega) ?_)
      have y23 := swZ_B d k 0 (by omega) (by omega) (by omega)
      refine z_ist dX3_weighCalls_41 (ga_s3 k20) (by decide) (by omega) (by omega) (fun h24 e25 => ?_)
      have f26 := frm_1 e25
      have k27 := lk_q (frm_s f26) k20
      have H28 := rsF_c f26 (fun a k q => by omega) H21
      have FR29 := frm_t FR22 (frm_m (S' := (fun a i => (a = y ∧ (i = 6 ∨ i = 7)) ∨ a = y + 2 ∨ a = y + 3)) f26 (fun a k q => by omega))
      refine z_iconst (1) dX3_weighCalls_42 rfl ?_
      refine e_istore (L' := [_, _, _, _, _]) dX3_weighCalls_43 (Nat.le_of_ble_eq_true rfl) rfl ?_
      have lp30 : ∀ (n30 : Nat) (j : Int) (h30 : mH), (21 - j).toNat = n30 → (gak h30 y) → (rsF h30 y c d) → (frm (fun a i => (a = y ∧ (i = 6 ∨ i = 7)) ∨ a = y + 2 ∨ a = y + 3) h h30) → (1 ≤ j) → (j ≤ 21) → (rI h30 (y + 2) k = mxN (fun j => fwZ c j k) (j - 1).toNat ∧ rI h30 (y + 3) k = mxN (fun j => swZ d k j) (j - 1).toNat) → (∀ q : Int, 0 ≤ q → q < k → rI h30 (y + 2) q = fbZ c q ∧ rI h30 (y + 3) q = sbZ d q) → mEv TB0 ad M_X3_weighCalls (dd + 2) (0, 0) (mCal TB0 ad (dd + 1)) (fun v h' z => z.1 = 0 ∧ Q v h') 45 [some (.ref y), some (.int (zI c)), some (.int (zI d)), some (.int (zI k)), some (.int (zI j))] [] h30 (0, 0) := by
        intro n30
        induction n30 using Nat.strongRecOn with
        | ind n30 ih30 =>
        intro j h30 hn30 k31 H32 FR33 J1 J2 J3 J4
        refine e_iload dX3_weighCalls_45 rfl ?_
        refine z_bipush (21) dX3_weighCalls_47 rfl ?_
        refine z_icmp_ge 102 dX3_weighCalls_49 rfl ⟨by omega, by omega⟩ ⟨by omega, by omega⟩ (fun c34 => ?_) (fun c34 => ?_)
        · skip
          refine z_iinc (L' := [_, _, _, _, _]) dX3_weighCalls_102 rfl rfl ?_
          refine e_goto 12 dX3_weighCalls_105 rfl ?_
          exact mEv_wk (by exact ⟨Or.inr rfl, Or.inr rfl, Or.inr rfl, Or.inr rfl, Or.inl rfl, trivial⟩) (ih11 _ (by omega) (k + 1) h30 rfl k31 H32 FR33 (by omega) (by omega) (fun q a z => by
                    by_cases w : q = k
                    · subst w; rw [show j - 1 = 20 by omega] at J3; exact J3
                    · exact J4 q a (by omega)))
        · skip
          refine e_aload_n dX3_weighCalls_52 rfl ?_
          refine e_get (.ref (y + 2)) dX3_weighCalls_53 tf_3_26 (congrArg Prod.fst (ga_s0 k31)) (congrArg va_rf (ga_r0_4 k31)) ?_
          refine e_iload_n dX3_weighCalls_56 rfl ?_
          refine e_aload_n dX3_weighCalls_57 rfl ?_
          refine e_get (.ref (y + 2)) dX3_weighCalls_58 tf_3_26 (congrArg Prod.fst (ga_s0 k31)) (congrArg va_rf (ga_r0_4 k31)) ?_
          refine e_iload_n dX3_weighCalls_61 rfl ?_
          refine z_ild (mxN (fun j => fwZ c j k) (j - 1).toNat) dX3_weighCalls_62 (ga_s2 k31) (by decide) (by omega) (by omega) J3.1 ?_
          have y35 := mxF_b (b := k) pc_ (show 0 ≤ (j - 1).toNat by omega) (by omega)
          refine e_aload_n dX3_weighCalls_63 rfl ?_
          refine e_iload dX3_weighCalls_64 rfl ?_
          refine e_iload_n dX3_weighCalls_66 rfl ?_
          refine e_callV [.int _, .int _] dX3_weighCalls_67 tm_3_62 rfl (Nat.le_of_ble_eq_true rfl) (congrArg Prod.fst (ga_s0 k31)) (Nat.le_of_ble_eq_true rfl) (Nat.le_refl _) (Nat.le_refl _) rfl (zp_X3_firstWins k31 H32 j ⟨by omega, by omega⟩ k ⟨by omega, by omega⟩ (by omega) (by omega) (by omega) (by omega) ?_)
          have y36 := fwZ_B c j k (by omega) (by omega) (by omega)
          refine z_mmax dX3_weighCalls_70 tm_3_51 (Nat.le_of_ble_eq_true rfl) ⟨by omega, by omega⟩ ⟨by omega, by omega⟩ ?_
          refine z_ist dX3_weighCalls_73 (ga_s2 k31) (by decide) (by omega) (by omega) (fun h37 e38 => ?_)
          have f39 := frm_1 e38
          have k40 := lk_q (frm_s f39) k31
          have H41 := rsF_c f39 (fun a k q => by omega) H32
          have FR42 := frm_t FR33 (frm_m (S' := (fun a i => (a = y ∧ (i = 6 ∨ i = 7)) ∨ a = y + 2 ∨ a = y + 3)) f39 (fun a k q => by omega))
          refine e_aload_n dX3_weighCalls_74 rfl ?_
          refine e_get (.ref (y + 3)) dX3_weighCalls_75 tf_3_29 (congrArg Prod.fst (ga_s0 k40)) (congrArg va_rf (ga_r0_5 k40)) ?_
          refine e_iload_n dX3_weighCalls_78 rfl ?_
          refine e_aload_n dX3_weighCalls_79 rfl ?_
          refine e_get (.ref (y + 3)) dX3_weighCalls_80 tf_3_29 (congrArg Prod.fst (ga_s0 k40)) (congrArg va_rf (ga_r0_5 k40)) ?_
          refine e_iload_n dX3_weighCalls_83 rfl ?_
          refine z_ild (mxN (fun j => swZ d k j) (j - 1).toNat) dX3_weighCalls_84 (ga_s3 k40) (by decide) (by omega) (by omega) ((frm_r f39 (by omega)).trans J3.2) ?_
          have y43 := mxS_b (a := k) pd_ (show 0 ≤ (j - 1).toNat by omega) (by omega)
          refine e_aload_n dX3_weighCalls_85 rfl ?_
          refine e_iload_n dX3_weighCalls_86 rfl ?_
          refine e_iload dX3_weighCalls_87 rfl ?_
          refine e_callV [.int _, .int _] dX3_weighCalls_89 tm_3_65 rfl (Nat.le_of_ble_eq_true rfl) (congrArg Prod.fst (ga_s0 k40)) (Nat.le_of_ble_eq_true rfl) (Nat.le_refl _) (Nat.le_refl _) rfl (zp_X3_secondWins k40 H41 k ⟨by omega, by omega⟩ j ⟨by omega, by omega⟩ (by omega) (by omega) (by omega) (by omega) ?_)
          have y44 := swZ_B d k j (by omega) (by omega) (by omega)
          refine z_mmax dX3_weighCalls_92 tm_3_51 (Nat.le_of_ble_eq_true rfl) ⟨by omega, by omega⟩ ⟨by omega, by omega⟩ ?_
          refine z_ist dX3_weighCalls_95 (ga_s3 k40) (by decide) (by omega) (by omega) (fun h45 e46 => ?_)
          have f47 := frm_1 e46
          have k48 := lk_q (frm_s f47) k40
          have H49 := rsF_c f47 (fun a k q => by omega) H41
          have FR50 := frm_t FR42 (frm_m (S' := (fun a i => (a = y ∧ (i = 6 ∨ i = 7)) ∨ a = y + 2 ∨ a = y + 3)) f47 (fun a k q => by omega))
          refine z_iinc (L' := [_, _, _, _, _]) dX3_weighCalls_96 rfl rfl ?_
          refine e_goto 45 dX3_weighCalls_99 rfl ?_
          exact ih30 _ (by omega) (j + 1) h45 rfl k48 H49 FR50 (by omega) (by omega) (by rw [show j + 1 - 1 = j by omega, mxN_s (f := fun j => fwZ c j k) (show 1 ≤ j by omega), mxN_s (f := fun j => swZ d k j) (show 1 ≤ j by omega)]; exact ⟨((frm_r f47 (by omega)).trans (rI_eq e38 ⟨by omega, by omega⟩)), (rI_eq e46 ⟨by omega, by omega⟩)⟩) (fun q a z => ⟨((frm_r f47 (by omega)).trans (frm_r f39 (by omega))).trans (J4 q a z).1, ((frm_r f47 (by omega)).trans (frm_r f39 (by omega))).trans (J4 q a z).2⟩)
      exact lp30 _ 1 h24 rfl k27 H28 FR29 (by omega) (by omega) (⟨(show rI h24 (y + 2) k = fwZ c 0 k from ((frm_r f26 (by omega)).trans (rI_eq e18 ⟨by omega, by omega⟩))), (show rI h24 (y + 3) k = swZ d k 0 from (rI_eq e25 ⟨by omega, by omega⟩))⟩) (fun q a z => ⟨((frm_r f26 (by omega)).trans (frm_r f19 (by omega))).trans (I3 q a z).1, ((frm_r f26 (by omega)).trans (frm_r f19 (by omega))).trans (I3 q a z).2⟩)
  exact lp11 _ 0 h6 rfl k9 F0 FR10 (by omega) (by omega) (fun q a b => by omega)
set_option maxHeartbeats 400000 in
theorem zp_X3_isRest {ad : mA} {dd : Nat} {h : mH} {Q : mQ} {y : Nat} {c d : Int} (hk : gak h y) (HG : rsC h y c d)  (a : Int) (a_r : -2147483648 ≤ a ∧ a < 2147483648) (e : Int) (e_r : -2147483648 ≤ e ∧ e < 2147483648) (pc_ : 0 ≤ c ∧ c ≤ 20) (pd_ : 0 ≤ d ∧ d ≤ 20) (pa : 0 ≤ a ∧ a ≤ 20) (pe : 0 ≤ e ∧ e ≤ 20) (kq : Q (some (.int (zI (bZ (fwZ c a e = fbZ c e ∧ swZ d a e = sbZ d a))))) h) : mCal TB0 ad (dd + 2) M_X3_isRest [.ref y, .int (zI a), .int (zI e)] h 0 0 Q := by
  refine ⟨Nat.le_of_ble_eq_true rfl, ?_⟩
  show mEv TB0 ad M_X3_isRest (dd + 2) (0, 0) (mCal TB0 ad (dd + 1)) (fun v h' z => z.1 = 0 ∧ Q v h') 0 [some (.ref y), some (.int (zI a)), some (.int (zI e))] [] h (0, 0)
  refine e_aload_n dX3_isRest_0 rfl ?_
  refine e_iload_n dX3_isRest_1 rfl ?_
  refine e_iload_n dX3_isRest_2 rfl ?_
  refine e_callV [.int _, .int _] dX3_isRest_3 tm_3_62 rfl (Nat.le_of_ble_eq_true rfl) (congrArg Prod.fst (ga_s0 hk)) (Nat.le_of_ble_eq_true rfl) (Nat.le_refl _) (Nat.le_refl _) rfl (zp_X3_firstWins_C hk HG a ⟨by omega, by omega⟩ e ⟨by omega, by omega⟩ (by omega) (by omega) (by omega) (by omega) ?_)
  have y1 := fwZ_B c a e (by omega) (by omega) (by omega)
  refine e_aload_n dX3_isRest_6 rfl ?_
  refine e_get (.ref (y + 2)) dX3_isRest_7 tf_3_26 (congrArg Prod.fst (ga_s0 hk)) (congrArg va_rf (ga_r0_4 hk)) ?_
  refine e_iload_n dX3_isRest_10 rfl ?_
  refine z_ild (fbZ c e) dX3_isRest_11 (ga_s2 hk) (by decide) (by omega) (by omega) ((HG.2 _ (by omega) (by omega)).1) ?_
  have y2 := fbZ_b c e
  refine z_icmp_ne 34 dX3_isRest_12 rfl ⟨by omega, by omega⟩ ⟨by omega, by omega⟩ (fun c3 => ?_) (fun c3 => ?_)
  · skip
    refine z_iconst (0) dX3_isRest_34 rfl ?_
    refine z_bret dX3_isRest_35 rfl (Or.inl rfl) ⟨rfl, ?_⟩
    refine z_q0 kq ?_
    first | exact ⟨by assumption, by assumption⟩ | (rintro ⟨q1, q2⟩; exact absurd q1 (by assumption)) | (rintro ⟨q1, q2⟩; exact absurd q2 (by assumption))
  · skip
    refine e_aload_n dX3_isRest_15 rfl ?_
    refine e_iload_n dX3_isRest_16 rfl ?_
    refine e_iload_n dX3_isRest_17 rfl ?_
    refine e_callV [.int _, .int _] dX3_isRest_18 tm_3_65 rfl (Nat.le_of_ble_eq_true rfl) (congrArg Prod.fst (ga_s0 hk)) (Nat.le_of_ble_eq_true rfl) (Nat.le_refl _) (Nat.le_refl _) rfl (zp_X3_secondWins_C hk HG a ⟨by omega, by omega⟩ e ⟨by omega, by omega⟩ (by omega) (by omega) (by omega) (by omega) ?_)
    have y4 := swZ_B d a e (by omega) (by omega) (by omega)
    refine e_aload_n dX3_isRest_21 rfl ?_
    refine e_get (.ref (y + 3)) dX3_isRest_22 tf_3_29 (congrArg Prod.fst (ga_s0 hk)) (congrArg va_rf (ga_r0_5 hk)) ?_
    refine e_iload_n dX3_isRest_25 rfl ?_
    refine z_ild (sbZ d a) dX3_isRest_26 (ga_s3 hk) (by decide) (by omega) (by omega) ((HG.2 _ (by omega) (by omega)).2) ?_
    have y5 := sbZ_b d a
    refine z_icmp_ne 34 dX3_isRest_27 rfl ⟨by omega, by omega⟩ ⟨by omega, by omega⟩ (fun c6 => ?_) (fun c6 => ?_)
    · skip
      refine z_iconst (0) dX3_isRest_34 rfl ?_
      refine z_bret dX3_isRest_35 rfl (Or.inl rfl) ⟨rfl, ?_⟩
      refine z_q0 kq ?_
      first | exact ⟨by assumption, by assumption⟩ | (rintro ⟨q1, q2⟩; exact absurd q1 (by assumption)) | (rintro ⟨q1, q2⟩; exact absurd q2 (by assumption))
    · skip
      refine z_iconst (1) dX3_isRest_30 rfl ?_
      refine e_goto 35 dX3_isRest_31 rfl ?_
      refine z_bret dX3_isRest_35 rfl (Or.inr rfl) ⟨rfl, ?_⟩
      refine z_q1 kq ?_
      first | exact ⟨by assumption, by assumption⟩ | (rintro ⟨q1, q2⟩; exact absurd q1 (by assumption)) | (rintro ⟨q1, q2⟩; exact absurd q2 (by assumption))
set_option maxHeartbeats 400000 in
theorem zp_X3_rests {ad : mA} {dd : Nat} {h : mH} {Q : mQ} {y : Nat} {c d : Int} (hk : gak h y) (HG : rsC h y c d)   (pc_ : 0 ≤ c ∧ c ≤ 20) (pd_ : 0 ≤ d ∧ d ≤ 20) (kq : Q (some (.int (zI (rsN c d 441)))) h) : mCal TB0 ad (dd + 3) M_X3_rests [.ref y] h 0 0 Q := by
  refine ⟨Nat.le_of_ble_eq_true rfl, ?_⟩
  show mEv TB0 ad M_X3_rests (dd + 3) (0, 0) (mCal TB0 ad (dd + 2)) (fun v h' z => z.1 = 0 ∧ Q v h') 0 [some (.ref y), none, none] [] h (0, 0)
  refine z_iconst (0) dX3_rests_0 rfl ?_
  refine e_istore_n (L' := [_, _, _]) dX3_rests_1 (Nat.le_of_ble_eq_true rfl) rfl ?_
  refine z_iconst (0) dX3_rests_2 rfl ?_
  refine e_istore_n (L' := [_, _, _]) dX3_rests_3 (Nat.le_of_ble_eq_true rfl) rfl ?_
  have lp1 : ∀ (n1 : Nat) (n i : Int), (441 - i).toNat = n1 → (0 ≤ i) → (i ≤ 441) → (n = rsN c d i) → mEv TB0 ad M_X3_rests (dd + 3) (0, 0) (mCal TB0 ad (dd + 2)) (fun v h' z => z.1 = 0 ∧ Q v h') 4 [some (.ref y), some (.int (zI n)), some (.int (zI i))] [] h (0, 0) := by
    intro n1
    induction n1 using Nat.strongRecOn with
    | ind n1 ih1 =>
    intro n i  hn1  I1 I2 I3
    refine e_iload_n dX3_rests_4 rfl ?_
    refine z_sipush (441) dX3_rests_5 rfl ?_
    refine z_icmp_ge 40 dX3_rests_8 rfl ⟨by omega, by omega⟩ ⟨by omega, by omega⟩ (fun c2 => ?_) (fun c2 => ?_)
    · skip
      refine e_iload_n dX3_rests_40 rfl ?_
      refine z_iret dX3_rests_41 rfl ⟨rfl, ?_⟩
      refine z_q kq ?_
      rw [I3, show i = 441 by omega]
    · skip
      refine e_iload_n dX3_rests_11 rfl ?_
      refine e_aload_n dX3_rests_12 rfl ?_
      refine e_iload_n dX3_rests_13 rfl ?_
      refine z_bipush (21) dX3_rests_14 rfl ?_
      refine z_idiv dX3_rests_16 (by omega) (by omega) (by omega) (by omega) ?_
      refine e_iload_n dX3_rests_17 rfl ?_
      refine z_bipush (21) dX3_rests_18 rfl ?_
      refine z_irem dX3_rests_20 (by omega) (by omega) (by omega) (by omega) ?_
      refine e_callV [.int _, .int _] dX3_rests_21 tm_3_68 rfl (Nat.le_of_ble_eq_true rfl) (congrArg Prod.fst (ga_s0 hk)) (Nat.le_of_ble_eq_true rfl) (Nat.le_refl _) (Nat.le_refl _) rfl (zp_X3_isRest hk HG (i / 21) ⟨by omega, by omega⟩ (i % 21) ⟨by omega, by omega⟩ (by omega) (by omega) (by omega) (by omega) ?_)
      refine z_ifb_eq 31 dX3_rests_24 rfl (fun c3 => ?_) (fun c3 => ?_)
      · skip
        refine z_iconst (0) dX3_rests_31 rfl ?_
        refine z_iadd dX3_rests_32 ?_
        refine e_istore_n (L' := [_, _, _]) dX3_rests_33 (Nat.le_of_ble_eq_true rfl) rfl ?_
        refine z_iinc (L' := [_, _, _]) dX3_rests_34 rfl rfl ?_
        refine e_goto 4 dX3_rests_37 rfl ?_
        exact ih1 _ (by omega) (n + 0) (i + 1)  rfl  (by omega) (by omega) (by rw [rsN_s (by omega)]; first | (rw [bZ_1 (by assumption)]; omega) | (rw [bZ_0 (by assumption)]; omega) | (rw [bZ_1 ⟨by assumption, by omega⟩]; omega) | (rw [bZ_0 (fun q => absurd q.1 (by assumption))]; omega) | (rw [bZ_0 (fun q => absurd q.2 (by omega))]; omega))
      · skip
        refine z_iconst (1) dX3_rests_27 rfl ?_
        refine e_goto 32 dX3_rests_28 rfl ?_
        refine z_iadd dX3_rests_32 ?_
        refine e_istore_n (L' := [_, _, _]) dX3_rests_33 (Nat.le_of_ble_eq_true rfl) rfl ?_
        refine z_iinc (L' := [_, _, _]) dX3_rests_34 rfl rfl ?_
        refine e_goto 4 dX3_rests_37 rfl ?_
        exact ih1 _ (by omega) (n + 1) (i + 1)  rfl  (by omega) (by omega) (by rw [rsN_s (by omega)]; first | (rw [bZ_1 (by assumption)]; omega) | (rw [bZ_0 (by assumption)]; omega) | (rw [bZ_1 ⟨by assumption, by omega⟩]; omega) | (rw [bZ_0 (fun q => absurd q.1 (by assumption))]; omega) | (rw [bZ_0 (fun q => absurd q.2 (by omega))]; omega))
  exact lp1 _ 0 0  rfl  (by omega) (by omega) rfl
set_option maxHeartbeats 400000 in
theorem zp_X3_restAt {ad : mA} {dd : Nat} {h : mH} {Q : mQ} {y : Nat} {c d : Int} (hk : gak h y) (HG : rsC h y c d)  (k : Int) (k_r : -2147483648 ≤ k ∧ k < 2147483648) (pc_ : 0 ≤ c ∧ c ≤ 20) (pd_ : 0 ≤ d ∧ d ≤ 20) (kq : ∀ v : Int, (fst1 (fun i => rsP c d i ∧ rsN c d i = k) 441 v) → Q (some (.int (zI v))) h) : mCal TB0 ad (dd + 3) M_X3_restAt [.ref y, .int (zI k)] h 0 0 Q := by
  refine ⟨Nat.le_of_ble_eq_true rfl, ?_⟩
  show mEv TB0 ad M_X3_restAt (dd + 3) (0, 0) (mCal TB0 ad (dd + 2)) (fun v h' z => z.1 = 0 ∧ Q v h') 0 [some (.ref y), some (.int (zI k)), none, none] [] h (0, 0)
  refine z_iconst (0) dX3_restAt_0 rfl ?_
  refine e_istore_n (L' := [_, _, _, _]) dX3_restAt_1 (Nat.le_of_ble_eq_true rfl) rfl ?_
  refine z_iconst (0) dX3_restAt_2 rfl ?_
  refine e_istore_n (L' := [_, _, _, _]) dX3_restAt_3 (Nat.le_of_ble_eq_true rfl) rfl ?_
  have lp1 : ∀ (n1 : Nat) (n i : Int), (441 - i).toNat = n1 → (0 ≤ i) → (i ≤ 441) → (n = rsN c d i) → (∀ j, 0 ≤ j → j < i → ¬ (rsP c d j ∧ rsN c d j = k)) → mEv TB0 ad M_X3_restAt (dd + 3) (0, 0) (mCal TB0 ad (dd + 2)) (fun v h' z => z.1 = 0 ∧ Q v h') 4 [some (.ref y), some (.int (zI k)), some (.int (zI n)), some (.int (zI i))] [] h (0, 0) := by
    intro n1
    induction n1 using Nat.strongRecOn with
    | ind n1 ih1 =>
    intro n i  hn1  I1 I2 I3 I4
    refine e_iload_n dX3_restAt_4 rfl ?_
    refine z_sipush (441) dX3_restAt_5 rfl ?_
    refine z_icmp_ge 42 dX3_restAt_8 rfl ⟨by omega, by omega⟩ ⟨by omega, by omega⟩ (fun c2 => ?_) (fun c2 => ?_)
    · skip
      refine z_iconst (-1) dX3_restAt_42 rfl ?_
      refine z_iret dX3_restAt_43 rfl ⟨rfl, ?_⟩
      refine kq _ ?_
      first | exact Or.inr ⟨by omega, ⟨by assumption, by omega⟩, I4⟩ | exact Or.inl ⟨rfl, fun j a z => I4 j a (by omega)⟩
    · skip
      have n1 := rsN_b (c := c) (d := d) I1
      refine e_aload_n dX3_restAt_11 rfl ?_
      refine e_iload_n dX3_restAt_12 rfl ?_
      refine z_bipush (21) dX3_restAt_13 rfl ?_
      refine z_idiv dX3_restAt_15 (by omega) (by omega) (by omega) (by omega) ?_
      refine e_iload_n dX3_restAt_16 rfl ?_
      refine z_bipush (21) dX3_restAt_17 rfl ?_
      refine z_irem dX3_restAt_19 (by omega) (by omega) (by omega) (by omega) ?_
      refine e_callV [.int _, .int _] dX3_restAt_20 tm_3_68 rfl (Nat.le_of_ble_eq_true rfl) (congrArg Prod.fst (ga_s0 hk)) (Nat.le_of_ble_eq_true rfl) (Nat.le_refl _) (Nat.le_refl _) rfl (zp_X3_isRest hk HG (i / 21) ⟨by omega, by omega⟩ (i % 21) ⟨by omega, by omega⟩ (by omega) (by omega) (by omega) (by omega) ?_)
      refine z_ifb_eq 36 dX3_restAt_23 rfl (fun c3 => ?_) (fun c3 => ?_)
      · skip
        refine z_iinc (L' := [_, _, _, _]) dX3_restAt_36 rfl rfl ?_
        refine e_goto 4 dX3_restAt_39 rfl ?_
        exact ih1 _ (by omega) n (i + 1)  rfl  (by omega) (by omega) (by rw [rsN_s (by omega)]; first | (rw [bZ_1 (by assumption)]; omega) | (rw [bZ_0 (by assumption)]; omega) | (rw [bZ_1 ⟨by assumption, by omega⟩]; omega) | (rw [bZ_0 (fun q => absurd q.1 (by assumption))]; omega) | (rw [bZ_0 (fun q => absurd q.2 (by omega))]; omega)) (allS (P := fun j => rsP c d j ∧ rsN c d j = k) I4 (by rintro ⟨q1, q2⟩; first | exact absurd q1 (by assumption) | omega))
      · skip
        refine e_iload_n dX3_restAt_26 rfl ?_
        refine e_iload_n dX3_restAt_27 rfl ?_
        refine z_icmp_ne 33 dX3_restAt_28 rfl ⟨by omega, by omega⟩ ⟨by omega, by omega⟩ (fun c4 => ?_) (fun c4 => ?_)
        · skip
          refine z_iinc (L' := [_, _, _, _]) dX3_restAt_33 rfl rfl ?_
          refine z_iinc (L' := [_, _, _, _]) dX3_restAt_36 rfl rfl ?_
          refine e_goto 4 dX3_restAt_39 rfl ?_
          exact ih1 _ (by omega) (n + 1) (i + 1)  rfl  (by omega) (by omega) (by rw [rsN_s (by omega)]; first | (rw [bZ_1 (by assumption)]; omega) | (rw [bZ_0 (by assumption)]; omega) | (rw [bZ_1 ⟨by assumption, by omega⟩]; omega) | (rw [bZ_0 (fun q => absurd q.1 (by assumption))]; omega) | (rw [bZ_0 (fun q => absurd q.2 (by omega))]; omega)) (allS (P := fun j => rsP c d j ∧ rsN c d j = k) I4 (by rintro ⟨q1, q2⟩; first | exact absurd q1 (by assumption) | omega))
        · skip
          refine e_iload_n dX3_restAt_31 rfl ?_
          refine z_iret dX3_restAt_32 rfl ⟨rfl, ?_⟩
          refine kq _ ?_
          first | exact Or.inr ⟨by omega, ⟨by assumption, by omega⟩, I4⟩ | exact Or.inl ⟨rfl, fun j a z => I4 j a (by omega)⟩
  exact lp1 _ 0 0  rfl  (by omega) (by omega) rfl (fun j a z => by omega)
set_option maxHeartbeats 400000 in
theorem zp_X3_mostlySelling {ad : mA} {dd : Nat} {h : mH} {Q : mQ} {y : Nat} {c d : Int} (hk : gak h y) (HG : rsC h y c d)   (pc_ : 0 ≤ c ∧ c ≤ 20) (pd_ : 0 ≤ d ∧ d ≤ 20) (kq : Q (some (.int (zI (rsM c d)))) h) : mCal TB0 ad (dd + 3) M_X3_mostlySelling [.ref y] h 0 0 Q := by
  refine ⟨Nat.le_of_ble_eq_true rfl, ?_⟩
  show mEv TB0 ad M_X3_mostlySelling (dd + 3) (0, 0) (mCal TB0 ad (dd + 2)) (fun v h' z => z.1 = 0 ∧ Q v h') 0 [some (.ref y), none, none, none] [] h (0, 0)
  refine z_iconst (0) dX3_mostlySelling_0 rfl ?_
  refine e_istore_n (L' := [_, _, _, _]) dX3_mostlySelling_1 (Nat.le_of_ble_eq_true rfl) rfl ?_
  refine z_iconst (0) dX3_mostlySelling_2 rfl ?_
  refine e_istore_n (L' := [_, _, _, _]) dX3_mostlySelling_3 (Nat.le_of_ble_eq_true rfl) rfl ?_
  refine z_iconst (0) dX3_mostlySelling_4 rfl ?_
  refine e_istore_n (L' := [_, _, _, _]) dX3_mostlySelling_5 (Nat.le_of_ble_eq_true rfl) rfl ?_
  have lp1 : ∀ (n1 : Nat) (n o i : Int), (441 - i).toNat = n1 → (0 ≤ i) → (i ≤ 441) → (n = rsA c d i) → (o = rsB c d i) → mEv TB0 ad M_X3_mostlySelling (dd + 3) (0, 0) (mCal TB0 ad (dd + 2)) (fun v h' z => z.1 = 0 ∧ Q v h') 6 [some (.ref y), some (.int (zI n)), some (.int (zI o)), some (.int (zI i))] [] h (0, 0) := by
    intro n1
    induction n1 using Nat.strongRecOn with
    | ind n1 ih1 =>
    intro n o i  hn1  I1 I2 I3 I4
    refine e_iload_n dX3_mostlySelling_6 rfl ?_
    refine z_sipush (441) dX3_mostlySelling_7 rfl ?_
    refine z_icmp_ge 72 dX3_mostlySelling_10 rfl ⟨by omega, by omega⟩ ⟨by omega, by omega⟩ (fun c2 => ?_) (fun c2 => ?_)
    · skip
      have n1 := rsA_b (c := c) (d := d) I1
      have n2 := rsB_b (c := c) (d := d) I1
      refine e_iload_n dX3_mostlySelling_72 rfl ?_
      refine e_iload_n dX3_mostlySelling_73 rfl ?_
      refine z_iadd dX3_mostlySelling_74 ?_
      refine z_if_ne 80 dX3_mostlySelling_75 rfl ⟨by omega, by omega⟩ (fun c3 => ?_) (fun c3 => ?_)
      · skip
        refine e_iload_n dX3_mostlySelling_80 rfl ?_
        refine e_iload_n dX3_mostlySelling_81 rfl ?_
        refine z_icmp_le 89 dX3_mostlySelling_82 rfl ⟨by omega, by omega⟩ ⟨by omega, by omega⟩ (fun c4 => ?_) (fun c4 => ?_)
        · skip
          refine z_iconst (0) dX3_mostlySelling_89 rfl ?_
          refine z_iret dX3_mostlySelling_90 rfl ⟨rfl, ?_⟩
          refine z_q kq ?_
          rw [show i = 441 by omega] at I3 I4; unfold rsM; rw [← I3, ← I4]; first | rw [if_pos (by omega)] | (rw [if_neg (by omega), if_pos (by omega)]) | (rw [if_neg (by omega), if_neg (by omega)])
        · skip
          refine z_iconst (1) dX3_mostlySelling_85 rfl ?_
          refine e_goto 90 dX3_mostlySelling_86 rfl ?_
          refine z_iret dX3_mostlySelling_90 rfl ⟨rfl, ?_⟩
          refine z_q kq ?_
          rw [show i = 441 by omega] at I3 I4; unfold rsM; rw [← I3, ← I4]; first | rw [if_pos (by omega)] | (rw [if_neg (by omega), if_pos (by omega)]) | (rw [if_neg (by omega), if_neg (by omega)])
      · skip
        refine z_iconst (-1) dX3_mostlySelling_78 rfl ?_
        refine z_iret dX3_mostlySelling_79 rfl ⟨rfl, ?_⟩
        refine z_q kq ?_
        rw [show i = 441 by omega] at I3 I4; unfold rsM; rw [← I3, ← I4]; first | rw [if_pos (by omega)] | (rw [if_neg (by omega), if_pos (by omega)]) | (rw [if_neg (by omega), if_neg (by omega)])
    · skip
      have n1 := rsA_b (c := c) (d := d) I1
      have n2 := rsB_b (c := c) (d := d) I1
      refine e_aload_n dX3_mostlySelling_13 rfl ?_
      refine e_iload_n dX3_mostlySelling_14 rfl ?_
      refine z_bipush (21) dX3_mostlySelling_15 rfl ?_
      refine z_idiv dX3_mostlySelling_17 (by omega) (by omega) (by omega) (by omega) ?_
      refine e_iload_n dX3_mostlySelling_18 rfl ?_
      refine z_bipush (21) dX3_mostlySelling_19 rfl ?_
      refine z_irem dX3_mostlySelling_21 (by omega) (by omega) (by omega) (by omega) ?_
      refine e_callV [.int _, .int _] dX3_mostlySelling_22 tm_3_68 rfl (Nat.le_of_ble_eq_true rfl) (congrArg Prod.fst (ga_s0 hk)) (Nat.le_of_ble_eq_true rfl) (Nat.le_refl _) (Nat.le_refl _) rfl (zp_X3_isRest hk HG (i / 21) ⟨by omega, by omega⟩ (i % 21) ⟨by omega, by omega⟩ (by omega) (by omega) (by omega) (by omega) ?_)
      refine z_ifb_eq 66 dX3_mostlySelling_25 rfl (fun c5 => ?_) (fun c5 => ?_)
      · skip
        refine z_iinc (L' := [_, _, _, _]) dX3_mostlySelling_66 rfl rfl ?_
        refine e_goto 6 dX3_mostlySelling_69 rfl ?_
        exact ih1 _ (by omega) n o (i + 1)  rfl  (by omega) (by omega) (by rw [rsA_s (by omega)]; first | (rw [bZ_1 (by assumption)]; omega) | (rw [bZ_0 (by assumption)]; omega) | (rw [bZ_1 ⟨by assumption, by omega⟩]; omega) | (rw [bZ_0 (fun q => absurd q.1 (by assumption))]; omega) | (rw [bZ_0 (fun q => absurd q.2 (by omega))]; omega)) (by rw [rsB_s (by omega)]; first | (rw [bZ_1 (by assumption)]; omega) | (rw [bZ_0 (by assumption)]; omega) | (rw [bZ_1 ⟨by assumption, by omega⟩]; omega) | (rw [bZ_0 (fun q => absurd q.1 (by assumption))]; omega) | (rw [bZ_0 (fun q => absurd q.2 (by omega))]; omega))
      · skip
        refine e_iload_n dX3_mostlySelling_28 rfl ?_
        refine e_iload_n dX3_mostlySelling_29 rfl ?_
        refine z_bipush (21) dX3_mostlySelling_30 rfl ?_
        refine z_idiv dX3_mostlySelling_32 (by omega) (by omega) (by omega) (by omega) ?_
        refine e_iload_n dX3_mostlySelling_33 rfl ?_
        refine z_bipush (21) dX3_mostlySelling_34 rfl ?_
        refine z_irem dX3_mostlySelling_36 (by omega) (by omega) (by omega) (by omega) ?_
        refine z_icmp_gt 44 dX3_mostlySelling_37 rfl ⟨by omega, by omega⟩ ⟨by omega, by omega⟩ (fun c6 => ?_) (fun c6 => ?_)
        · skip
          refine z_iconst (0) dX3_mostlySelling_44 rfl ?_
          refine z_iadd dX3_mostlySelling_45 ?_
          refine e_istore_n (L' := [_, _, _, _]) dX3_mostlySelling_46 (Nat.le_of_ble_eq_true rfl) rfl ?_
          refine e_iload_n dX3_mostlySelling_47 rfl ?_
          refine e_iload_n dX3_mostlySelling_48 rfl ?_
          refine z_bipush (21) dX3_mostlySelling_49 rfl ?_
          refine z_idiv dX3_mostlySelling_51 (by omega) (by omega) (by omega) (by omega) ?_
          refine e_iload_n dX3_mostlySelling_52 rfl ?_
          refine z_bipush (21) dX3_mostlySelling_53 rfl ?_
          refine z_irem dX3_mostlySelling_55 (by omega) (by omega) (by omega) (by omega) ?_
          refine z_icmp_le 63 dX3_mostlySelling_56 rfl ⟨by omega, by omega⟩ ⟨by omega, by omega⟩ (fun c7 => ?_) (fun c7 => ?_)
          · skip
            refine z_iconst (0) dX3_mostlySelling_63 rfl ?_
            refine z_iadd dX3_mostlySelling_64 ?_
            refine e_istore_n (L' := [_, _, _, _]) dX3_mostlySelling_65 (Nat.le_of_ble_eq_true rfl) rfl ?_
            refine z_iinc (L' := [_, _, _, _]) dX3_mostlySelling_66 rfl rfl ?_
            refine e_goto 6 dX3_mostlySelling_69 rfl ?_
            exact ih1 _ (by omega) (n + 0) (o + 0) (i + 1)  rfl  (by omega) (by omega) (by rw [rsA_s (by omega)]; first | (rw [bZ_1 (by assumption)]; omega) | (rw [bZ_0 (by assumption)]; omega) | (rw [bZ_1 ⟨by assumption, by omega⟩]; omega) | (rw [bZ_0 (fun q => absurd q.1 (by assumption))]; omega) | (rw [bZ_0 (fun q => absurd q.2 (by omega))]; omega)) (by rw [rsB_s (by omega)]; first | (rw [bZ_1 (by assumption)]; omega) | (rw [bZ_0 (by assumption)]; omega) | (rw [bZ_1 ⟨by assumption, by omega⟩]; omega) | (rw [bZ_0 (fun q => absurd q.1 (by assumption))]; omega) | (rw [bZ_0 (fun q => absurd q.2 (by omega))]; omega))
          · skip
            refine z_iconst (1) dX3_mostlySelling_59 rfl ?_
            refine e_goto 64 dX3_mostlySelling_60 rfl ?_
            refine z_iadd dX3_mostlySelling_64 ?_
            refine e_istore_n (L' := [_, _, _, _]) dX3_mostlySelling_65 (Nat.le_of_ble_eq_true rfl) rfl ?_
            refine z_iinc (L' := [_, _, _, _]) dX3_mostlySelling_66 rfl rfl ?_
            refine e_goto 6 dX3_mostlySelling_69 rfl ?_
            exact ih1 _ (by omega) (n + 0) (o + 1) (i + 1)  rfl  (by omega) (by omega) (by rw [rsA_s (by omega)]; first | (rw [bZ_1 (by assumption)]; omega) | (rw [bZ_0 (by assumption)]; omega) | (rw [bZ_1 ⟨by assumption, by omega⟩]; omega) | (rw [bZ_0 (fun q => absurd q.1 (by assumption))]; omega) | (rw [bZ_0 (fun q => absurd q.2 (by omega))]; omega)) (by rw [rsB_s (by omega)]; first | (rw [bZ_1 (by assumption)]; omega) | (rw [bZ_0 (by assumption)]; omega) | (rw [bZ_1 ⟨by assumption, by omega⟩]; omega) | (rw [bZ_0 (fun q => absurd q.1 (by assumption))]; omega) | (rw [bZ_0 (fun q => absurd q.2 (by omega))]; omega))
        · skip
          refine z_iconst (1) dX3_mostlySelling_40 rfl ?_
          refine e_goto 45 dX3_mostlySelling_41 rfl ?_
          refine z_iadd dX3_mostlySelling_45 ?_
          refine e_istore_n (L' := [_, _, _, _]) dX3_mostlySelling_46 (Nat.le_of_ble_eq_true rfl) rfl ?_
          refine e_iload_n dX3_mostlySelling_47 rfl ?_
          refine e_iload_n dX3_mostlySelling_48 rfl ?_
          refine z_bipush (21) dX3_mostlySelling_49 rfl ?_
          refine z_idiv dX3_mostlySelling_51 (by omega) (by omega) (by omega) (by omega) ?_
          refine e_iload_n dX3_mostlySelling_52 rfl ?_
          refine z_bipush (21) dX3_mostlySelling_53 rfl ?_
          refine z_irem dX3_mostlySelling_55 (by omega) (by omega) (by omega) (by omega) ?_
          refine z_icmp_le 63 dX3_mostlySelling_56 rfl ⟨by omega, by omega⟩ ⟨by omega, by omega⟩ (fun c8 => ?_) (fun c8 => ?_)
          · skip
            refine z_iconst (0) dX3_mostlySelling_63 rfl ?_
            refine z_iadd dX3_mostlySelling_64 ?_
            refine e_istore_n (L' := [_, _, _, _]) dX3_mostlySelling_65 (Nat.le_of_ble_eq_true rfl) rfl ?_
            refine z_iinc (L' := [_, _, _, _]) dX3_mostlySelling_66 rfl rfl ?_
            refine e_goto 6 dX3_mostlySelling_69 rfl ?_
            exact ih1 _ (by omega) (n + 1) (o + 0) (i + 1)  rfl  (by omega) (by omega) (by rw [rsA_s (by omega)]; first | (rw [bZ_1 (by assumption)]; omega) | (rw [bZ_0 (by assumption)]; omega) | (rw [bZ_1 ⟨by assumption, by omega⟩]; omega) | (rw [bZ_0 (fun q => absurd q.1 (by assumption))]; omega) | (rw [bZ_0 (fun q => absurd q.2 (by omega))]; omega)) (by rw [rsB_s (by omega)]; first | (rw [bZ_1 (by assumption)]; omega) | (rw [bZ_0 (by assumption)]; omega) | (rw [bZ_1 ⟨by assumption, by omega⟩]; omega) | (rw [bZ_0 (fun q => absurd q.1 (by assumption))]; omega) | (rw [bZ_0 (fun q => absurd q.2 (by omega))]; omega))
          · skip
            refine z_iconst (1) dX3_mostlySelling_59 rfl ?_
            refine e_goto 64 dX3_mostlySelling_60 rfl ?_
            refine z_iadd dX3_mostlySelling_64 ?_
            refine e_istore_n (L' := [_, _, _, _]) dX3_mostlySelling_65 (Nat.le_of_ble_eq_true rfl) rfl ?_
            refine z_iinc (L' := [_, _, _, _]) dX3_mostlySelling_66 rfl rfl ?_
            refine e_goto 6 dX3_mostlySelling_69 rfl ?_
            exact ih1 _ (by omega) (n + 1) (o + 1) (i + 1)  rfl  (by omega) (by omega) (by rw [rsA_s (by omega)]; first | (rw [bZ_1 (by assumption)]; omega) | (rw [bZ_0 (by assumption)]; omega) | (rw [bZ_1 ⟨by assumption, by omega⟩]; omega) | (rw [bZ_0 (fun q => absurd q.1 (by assumption))]; omega) | (rw [bZ_0 (fun q => absurd q.2 (by omega))]; omega)) (by rw [rsB_s (by omega)]; first | (rw [bZ_1 (by assumption)]; omega) | (rw [bZ_0 (by assumption)]; omega) | (rw [bZ_1 ⟨by assumption, by omega⟩]; omega) | (rw [bZ_0 (fun q => absurd q.1 (by assumption))]; omega) | (rw [bZ_0 (fun q => absurd q.2 (by omega))]; omega))
  exact lp1 _ 0 0 0  rfl  (by omega) (by omega) rfl rfl
set_option maxHeartbeats 400000 in
theorem zp_X11_rest {ad : mA} {dd : Nat} {h : mH} {Q : mQ} {x : Nat}  (hk : bk h x)  (c : Int) (c_r : -2147483648 ≤ c ∧ c < 2147483648) (d : Int) (d_r : -2147483648 ≤ d ∧ d < 2147483648) (k : Int) (k_r : -2147483648 ≤ k ∧ k < 2147483648)  (kq : ∀ v : Int, (rsZ c d k v) → ∀ h1, frm (fun a i => x + 56 ≤ a ∧ a < x + 157) h h1 → Q (some (.int (zI v))) h1) : mCal TB0 ad (dd + 4) M_X11_rest [.ref x, .int (zI c), .int (zI d), .int (zI k)] h 0 0 Q := by
  refine ⟨Nat.le_of_ble_eq_true rfl, ?_⟩
  show mEv TB0 ad M_X11_rest (dd + 4) (0, 0) (mCal TB0 ad (dd + 3)) (fun v h' z => z.1 = 0 ∧ Q v h') 0 [some (.ref x), some (.int (zI c)), some (.int (zI d)), some (.int (zI k))] [] h (0, 0)
  have FR0 : frm (fun a i => x + 56 ≤ a ∧ a < x + 157) h h := frm_0 h
  refine e_iload_n dX11_rest_0 rfl ?_
  refine z_if_lt 26 dX11_rest_1 rfl ⟨by omega, by omega⟩ (fun c1 => ?_) (fun c1 => ?_)
  · skip
    refine z_iconst (-1) dX11_rest_26 rfl ?_
    refine z_iret dX11_rest_27 rfl ⟨rfl, ?_⟩
    refine kq _ ?_ _ FR0
    exact rsZ_n (by omega)
  · skip
    refine e_iload_n dX11_rest_4 rfl ?_
    refine z_bipush (21) dX11_rest_5 rfl ?_
    refine z_icmp_ge 26 dX11_rest_7 rfl ⟨by omega, by omega⟩ ⟨by omega, by omega⟩ (fun c2 => ?_) (fun c2 => ?_)
    · skip
      refine z_iconst (-1) dX11_rest_26 rfl ?_
      refine z_iret dX11_rest_27 rfl ⟨rfl, ?_⟩
      refine kq _ ?_ _ FR0
      exact rsZ_n (by omega)
    · skip
      refine e_iload_n dX11_rest_10 rfl ?_
      refine z_if_lt 26 dX11_rest_11 rfl ⟨by omega, by omega⟩ (fun c3 => ?_) (fun c3 => ?_)
      · skip
        refine z_iconst (-1) dX11_rest_26 rfl ?_
        refine z_iret dX11_rest_27 rfl ⟨rfl, ?_⟩
        refine kq _ ?_ _ FR0
        exact rsZ_n (by omega)
      · skip
        refine e_iload_n dX11_rest_14 rfl ?_
        refine z_bipush (21) dX11_rest_15 rfl ?_
        refine z_icmp_ge 26 dX11_rest_17 rfl ⟨by omega, by omega⟩ ⟨by omega, by omega⟩ (fun c4 => ?_) (fun c4 => ?_)
        · skip
          refine z_iconst (-1) dX11_rest_26 rfl ?_
          refine z_iret dX11_rest_27 rfl ⟨rfl, ?_⟩
          refine kq _ ?_ _ FR0
          exact rsZ_n (by omega)
        · skip
          refine e_iload_n dX11_rest_20 rfl ?_
          refine z_bipush (-2) dX11_rest_21 rfl ?_
          refine z_icmp_ge 28 dX11_rest_23 rfl ⟨by omega, by omega⟩ ⟨by omega, by omega⟩ (fun c5 => ?_) (fun c5 => ?_)
          · skip
            refine e_aload_n dX11_rest_28 rfl ?_
            refine e_get (.ref (x + 153)) dX11_rest_29 tf_11_58 (congrArg Prod.fst (bk_s0 hk)) (congrArg va_rf (bk_r0_7 hk)) ?_
            refine e_iload_n dX11_rest_32 rfl ?_
            refine e_iload_n dX11_rest_33 rfl ?_
            refine e_callV [.int _, .int _] dX11_rest_34 tm_11_210 rfl (Nat.le_of_ble_eq_true rfl) (congrArg Prod.fst (bk_s153 hk)) (Nat.le_of_ble_eq_true rfl) (Nat.le_refl _) (Nat.le_refl _) rfl (zp_X3_weighCalls (bk_ga153 hk) c ⟨by omega, by omega⟩ d ⟨by omega, by omega⟩ (by omega) (by omega) (fun  h6 f7 p8 => ?_))
            have k9 := bk_q (frm_s f7) hk
            have FR10 := frm_t FR0 (frm_m (S' := (fun a i => x + 56 ≤ a ∧ a < x + 157)) f7 (fun a k q => by omega))
            refine e_iload_n dX11_rest_37 rfl ?_
            refine z_iconst (-1) dX11_rest_38 rfl ?_
            refine z_icmp_ne 50 dX11_rest_39 rfl ⟨by omega, by omega⟩ ⟨by omega, by omega⟩ (fun c11 => ?_) (fun c11 => ?_)
            · skip
              refine e_iload_n dX11_rest_50 rfl ?_
              refine z_bipush (-2) dX11_rest_51 rfl ?_
              refine z_icmp_ne 66 dX11_rest_53 rfl ⟨by omega, by omega⟩ ⟨by omega, by omega⟩ (fun c12 => ?_) (fun c12 => ?_)
              · skip
                refine e_aload_n dX11_rest_66 rfl ?_
                refine e_get (.ref (x + 153)) dX11_rest_67 tf_11_58 (congrArg Prod.fst (bk_s0 k9)) (congrArg va_rf (bk_r0_7 k9)) ?_
                refine e_iload_n dX11_rest_70 rfl ?_
                refine e_callV [.int _] dX11_rest_71 tm_11_220 rfl (Nat.le_of_ble_eq_true rfl) (congrArg Prod.fst (bk_s153 k9)) (Nat.le_of_ble_eq_true rfl) (Nat.le_refl _) (Nat.le_refl _) rfl (zp_X3_restAt (bk_ga153 k9) p8 k ⟨by omega, by omega⟩ (by omega) (by omega) (fun v13 p14 => ?_))
                refine z_iret dX11_rest_74 rfl ⟨rfl, ?_⟩
                refine kq _ ?_ _ FR10
                exact Or.inl ⟨by omega, by omega, Or.inr (Or.inr (Or.inl ⟨by omega, by assumption⟩))⟩
              · skip
                refine e_aload_n dX11_rest_56 rfl ?_
                refine e_get (.ref (x + 153)) dX11_rest_57 tf_11_58 (congrArg Prod.fst (bk_s0 k9)) (congrArg va_rf (bk_r0_7 k9)) ?_
                refine e_callV [] dX11_rest_60 tm_11_217 rfl (Nat.le_of_ble_eq_true rfl) (congrArg Prod.fst (bk_s153 k9)) (Nat.le_of_ble_eq_true rfl) (Nat.le_refl _) (Nat.le_refl _) rfl (zp_X3_mostlySelling (bk_ga153 k9) p8 (by omega) (by omega) ?_)
                refine e_goto 74 dX11_rest_63 rfl ?_
                refine z_iret dX11_rest_74 rfl ⟨rfl, ?_⟩
                refine kq _ ?_ _ FR10
                exact Or.inl ⟨by omega, by omega, Or.inr (Or.inl ⟨by omega, rfl⟩)⟩
            · skip
              refine e_aload_n dX11_rest_42 rfl ?_
              refine e_get (.ref (x + 153)) dX11_rest_43 tf_11_58 (congrArg Prod.fst (bk_s0 k9)) (congrArg va_rf (bk_r0_7 k9)) ?_
              refine e_callV [] dX11_rest_46 tm_11_214 rfl (Nat.le_of_ble_eq_true rfl) (congrArg Prod.fst (bk_s153 k9)) (Nat.le_of_ble_eq_true rfl) (Nat.le_refl _) (Nat.le_refl _) rfl (zp_X3_rests (bk_ga153 k9) p8 (by omega) (by omega) ?_)
              refine z_iret dX11_rest_49 rfl ⟨rfl, ?_⟩
              refine kq _ ?_ _ FR10
              exact Or.inl ⟨by omega, by omega, Or.inl ⟨by omega, rfl⟩⟩
          · skip
            refine z_iconst (-1) dX11_rest_26 rfl ?_
            refine z_iret dX11_rest_27 rfl ⟨rfl, ?_⟩
            refine kq _ ?_ _ FR0
            exact rsZ_n (by omega)
set_option maxHeartbeats 400000 in
theorem zp_X12_sellsFirst {ad : mA} {dd : Nat} {h : mH} {Q : mQ}    (a : Int) (a_r : -2147483648 ≤ a ∧ a < 2147483648) (e : Int) (e_r : -2147483648 ≤ e ∧ e < 2147483648)  (kq : Q (some (.int (zI (bZ (a ≤ e))))) h) : mCal TB0 ad (dd + 1) M_X12_sellsFirst [.int (zI a), .int (zI e)] h 0 0 Q := by
  refine ⟨Nat.le_of_ble_eq_true rfl, ?_⟩
  show mEv TB0 ad M_X12_sellsFirst (dd + 1) (0, 0) (mCal TB0 ad (dd + 0)) (fun v h' z => z.1 = 0 ∧ Q v h') 0 [some (.int (zI a)), some (.int (zI e))] [] h (0, 0)
  refine e_iload_n dX12_sellsFirst_0 rfl ?_
  refine e_iload_n dX12_sellsFirst_1 rfl ?_
  refine z_icmp_gt 9 dX12_sellsFirst_2 rfl ⟨by omega, by omega⟩ ⟨by omega, by omega⟩ (fun c1 => ?_) (fun c1 => ?_)
  · skip
    refine z_iconst (0) dX12_sellsFirst_9 rfl ?_
    refine z_bret dX12_sellsFirst_10 rfl (Or.inl rfl) ⟨rfl, ?_⟩
    refine z_q0 kq ?_
    omega
  · skip
    refine z_iconst (1) dX12_sellsFirst_5 rfl ?_
    refine e_goto 10 dX12_sellsFirst_6 rfl ?_
    refine z_bret dX12_sellsFirst_10 rfl (Or.inr rfl) ⟨rfl, ?_⟩
    refine z_q1 kq ?_
    omega
set_option maxHeartbeats 400000 in
theorem zp_X12_isRest {ad : mA} {dd : Nat} {h : mH} {Q : mQ}    (c : Int) (c_r : -2147483648 ≤ c ∧ c < 2147483648) (d : Int) (d_r : -2147483648 ≤ d ∧ d < 2147483648) (a : Int) (a_r : -2147483648 ≤ a ∧ a < 2147483648) (e : Int) (e_r : -2147483648 ≤ e ∧ e < 2147483648) (pc_ : 0 ≤ c ∧ c ≤ 20) (pd_ : 0 ≤ d ∧ d ≤ 20) (pa : 0 ≤ a ∧ a ≤ 20) (pe : 0 ≤ e ∧ e ≤ 20) (kq : Q (some (.int (zI (bZ (fwZ c a e = fbZ c e ∧ swZ d a e = sbZ d a))))) h) : mCal TB0 ad (dd + 2) M_X12_isRest [.int (zI c), .int (zI d), .int (zI a), .int (zI e)] h 0 0 Q := by
  refine ⟨Nat.le_of_ble_eq_true rfl, ?_⟩
  show mEv TB0 ad M_X12_isRest (dd + 2) (0, 0) (mCal TB0 ad (dd + 1)) (fun v h' z => z.1 = 0 ∧ Q v h') 0 [some (.int (zI c)), some (.int (zI d)), some (.int (zI a)), some (.int (zI e)), none, none, none] [] h (0, 0)
  refine e_iload_n dX12_isRest_0 rfl ?_
  refine e_iload_n dX12_isRest_1 rfl ?_
  refine e_callS [.int _, .int _] dX12_isRest_2 tm_12_495 rfl (Nat.le_of_ble_eq_true rfl) (Nat.le_refl _) (Nat.le_refl _) rfl (zp_X12_sellsFirst a ⟨by omega, by omega⟩ e ⟨by omega, by omega⟩ ?_)
  refine z_ifb_eq 14 dX12_isRest_5 rfl (fun c1 => ?_) (fun c1 => ?_)
  · skip
    refine z_iconst (0) dX12_isRest_14 rfl ?_
    refine e_istore (L' := [_, _, _, _, _, _, _]) dX12_isRest_15 (Nat.le_of_ble_eq_true rfl) rfl ?_
    refine e_iload_n dX12_isRest_17 rfl ?_
    refine e_iload_n dX12_isRest_18 rfl ?_
    refine e_callS [.int _, .int _] dX12_isRest_19 tm_12_495 rfl (Nat.le_of_ble_eq_true rfl) (Nat.le_refl _) (Nat.le_refl _) rfl (zp_X12_sellsFirst a ⟨by omega, by omega⟩ e ⟨by omega, by omega⟩ ?_)
    refine z_ifb_eq 29 dX12_isRest_22 rfl (fun c2 => ?_) (fun c2 => ?_)
    · skip
      refine e_iload_n dX12_isRest_29 rfl ?_
      refine e_iload_n dX12_isRest_30 rfl ?_
      refine z_isub dX12_isRest_31 ?_
      refine e_istore (L' := [_, _, _, _, _, _, _]) dX12_isRest_32 (Nat.le_of_ble_eq_true rfl) rfl ?_
      have x1 : fwZ c a e = 0 := by unfold fwZ; first | (exfalso; omega) | rw [if_pos (by omega)] | rw [if_neg (by omega)]
      have x2 : swZ d a e = (e - d) := by unfold swZ; first | (exfalso; omega) | rw [if_pos (by omega)] | rw [if_neg (by omega)]
      refine z_iconst (0) dX12_isRest_34 rfl ?_
      refine e_istore (L' := [_, _, _, _, _, _, _]) dX12_isRest_35 (Nat.le_of_ble_eq_true rfl) rfl ?_
      skip
      have lp3 : ∀ (n3 : Nat) (j : Int), (21 - j).toNat = n3 → (0 ≤ j) → (j ≤ 21) → (∀ q : Int, 0 ≤ q → q < j → fwZ c q e ≤ fwZ c a e ∧ swZ d a q ≤ swZ d a e) → mEv TB0 ad M_X12_isRest (dd + 2) (0, 0) (mCal TB0 ad (dd + 1)) (fun v h' z => z.1 = 0 ∧ Q v h') 37 [some (.int (zI c)), some (.int (zI d)), some (.int (zI a)), some (.int (zI e)), some (.int (zI 0)), some (.int (zI (e - d))), some (.int (zI j))] [] h (0, 0) := by
        intro n3
        induction n3 using Nat.strongRecOn with
        | ind n3 ih3 =>
        intro j  hn3  I1 I2 I3
        refine e_iload dX12_isRest_37 rfl ?_
        refine z_bipush (20) dX12_isRest_39 rfl ?_
        refine z_icmp_gt 96 dX12_isRest_41 rfl ⟨by omega, by omega⟩ ⟨by omega, by omega⟩ (fun c4 => ?_) (fun c4 => ?_)
        · skip
          refine z_iconst (1) dX12_isRest_96 rfl ?_
          refine z_bret dX12_isRest_97 rfl (Or.inr rfl) ⟨rfl, ?_⟩
          refine z_q1 kq ?_
          have eq := rsP_i (c := c) (d := d) (k := 21 * a + e) (by omega)
          unfold rsP at eq
          rw [show (21 * a + e) / 21 = a by omega, show (21 * a + e) % 21 = e by omega] at eq
          first | exact eq.mpr (fun q x z => I3 q x (by omega)) | (intro q; have q2 := eq.mp q j (by omega) (by omega); rw [x1, x2] at q2; unfold fwZ swZ at q2; revert q2; split <;> split <;> (intro q2; omega))
        · skip
          refine e_iload dX12_isRest_44 rfl ?_
          refine e_iload_n dX12_isRest_46 rfl ?_
          refine e_callS [.int _, .int _] dX12_isRest_47 tm_12_495 rfl (Nat.le_of_ble_eq_true rfl) (Nat.le_refl _) (Nat.le_refl _) rfl (zp_X12_sellsFirst j ⟨by omega, by omega⟩ e ⟨by omega, by omega⟩ ?_)
          refine z_ifb_eq 60 dX12_isRest_50 rfl (fun c5 => ?_) (fun c5 => ?_)
          · skip
            refine z_iconst (0) dX12_isRest_60 rfl ?_
            refine e_iload dX12_isRest_61 rfl ?_
            refine z_icmp_gt 88 dX12_isRest_63 rfl ⟨by omega, by omega⟩ ⟨by omega, by omega⟩ (fun c6 => ?_) (fun c6 => ?_)
            · exfalso; omega
            · skip
              refine e_iload_n dX12_isRest_66 rfl ?_
              refine e_iload dX12_isRest_67 rfl ?_
              refine e_callS [.int _, .int _] dX12_isRest_69 tm_12_495 rfl (Nat.le_of_ble_eq_true rfl) (Nat.le_refl _) (Nat.le_refl _) rfl (zp_X12_sellsFirst a ⟨by omega, by omega⟩ j ⟨by omega, by omega⟩ ?_)
              refine z_ifb_eq 79 dX12_isRest_72 rfl (fun c7 => ?_) (fun c7 => ?_)
              · skip
                refine e_iload dX12_isRest_79 rfl ?_
                refine e_iload_n dX12_isRest_81 rfl ?_
                refine z_isub dX12_isRest_82 ?_
                refine e_iload dX12_isRest_83 rfl ?_
                refine z_icmp_le 90 dX12_isRest_85 rfl ⟨by omega, by omega⟩ ⟨by omega, by omega⟩ (fun c8 => ?_) (fun c8 => ?_)
                · skip
                  refine z_iinc (L' := [_, _, _, _, _, _, _]) dX12_isRest_90 rfl rfl ?_
                  refine e_goto 37 dX12_isRest_93 rfl ?_
                  skip
                  exact ih3 _ (by omega) (j + 1)  rfl  (by omega) (by omega) (fun q x z => by
                            by_cases w : q = j
                            · subst w; rw [x1, x2]; unfold fwZ swZ; constructor <;> (split <;> omega)
                            · exact I3 q x (by omega))
                · skip
                  refine z_iconst (0) dX12_isRest_88 rfl ?_
                  refine z_bret dX12_isRest_89 rfl (Or.inl rfl) ⟨rfl, ?_⟩
                  refine z_q0 kq ?_
                  have eq := rsP_i (c := c) (d := d) (k := 21 * a + e) (by omega)
                  unfold rsP at eq
                  rw [show (21 * a + e) / 21 = a by omega, show (21 * a + e) % 21 = e by omega] at eq
                  first | exact eq.mpr (fun q x z => I3 q x (by omega)) | (intro q; have q2 := eq.mp q j (by omega) (by omega); rw [x1, x2] at q2; unfold fwZ swZ at q2; revert q2; split <;> split <;> (intro q2; omega))
              · skip
                refine z_iconst (0) dX12_isRest_75 rfl ?_
                refine e_goto 83 dX12_isRest_76 rfl ?_
                refine e_iload dX12_isRest_83 rfl ?_
                refine z_icmp_le 90 dX12_isRest_85 rfl ⟨by omega, by omega⟩ ⟨by omega, by omega⟩ (fun c9 => ?_) (fun c9 => ?_)
                · skip
                  refine z_iinc (L' := [_, _, _, _, _, _, _]) dX12_isRest_90 rfl rfl ?_
                  refine e_goto 37 dX12_isRest_93 rfl ?_
                  skip
                  exact ih3 _ (by omega) (j + 1)  rfl  (by omega) (by omega) (fun q x z => by
                            by_cases w : q = j
                            · subst w; rw [x1, x2]; unfold fwZ swZ; constructor <;> (split <;> omega)
                            · exact I3 q x (by omega))
                · skip
                  refine z_iconst (0) dX12_isRest_88 rfl ?_
                  refine z_bret dX12_isRest_89 rfl (Or.inl rfl) ⟨rfl, ?_⟩
                  refine z_q0 kq ?_
                  have eq := rsP_i (c := c) (d := d) (k := 21 * a + e) (by omega)
                  unfold rsP at eq
                  rw [show (21 * a + e) / 21 = a by omega, show (21 * a + e) % 21 = e by omega] at eq
                  first | exact eq.mpr (fun q x z => I3 q x (by omega)) | (intro q; have q2 := eq.mp q j (by omega) (by omega); rw [x1, x2] at q2; unfold fwZ swZ at q2; revert q2; split <;> split <;> (intro q2; omega))
          · skip
            refine e_iload dX12_isRest_53 rfl ?_
            refine e_iload_n dX12_isRest_55 rfl ?_
            refine z_isub dX12_isRest_56 ?_
            refine e_goto 61 dX12_isRest_57 rfl ?_
            refine e_iload dX12_isRest_61 rfl ?_
            refine z_icmp_gt 88 dX12_isRest_63 rfl ⟨by omega, by omega⟩ ⟨by omega, by omega⟩ (fun c10 => ?_) (fun c10 => ?_)
            · skip
              refine z_iconst (0) dX12_isRest_88 rfl ?_
              refine z_bret dX12_isRest_89 rfl (Or.inl rfl) ⟨rfl, ?_⟩
              refine z_q0 kq ?_
              have eq := rsP_i (c := c) (d := d) (k := 21 * a + e) (by omega)
              unfold rsP at eq
              rw [show (21 * a + e) / 21 = a by omega, show (21 * a + e) % 21 = e by omega] at eq
              first | exact eq.mpr (fun q x z => I3 q x (by omega)) | (intro q; have q2 := eq.mp q j (by omega) (by omega); rw [x1, x2] at q2; unfold fwZ swZ at q2; revert q2; split <;> split <;> (intro q2; omega))
            · skip
              refine e_iload_n dX12_isRest_66 rfl ?_
              refine e_iload dX12_isRest_67 rfl ?_
              refine e_callS [.int _, .int _] dX12_isRest_69 tm_12_495 rfl (Nat.le_of_ble_eq_true rfl) (Nat.le_refl _) (Nat.le_refl _) rfl (zp_X12_sellsFirst a ⟨by omega, by omega⟩ j ⟨by omega, by omega⟩ ?_)
              refine z_ifb_eq 79 dX12_isRest_72 rfl (fun c11 => ?_) (fun c11 => ?_)
              · skip
                refine e_iload dX12_isRest_79 rfl ?_
                refine e_iload_n dX12_isRest_81 rfl ?_
                refine z_isub dX12_isRest_82 ?_
                refine e_iload dX12_isRest_83 rfl ?_
                refine z_icmp_le 90 dX12_isRest_85 rfl ⟨by omega, by omega⟩ ⟨by omega, by omega⟩ (fun c12 => ?_) (fun c12 => ?_)
                · skip
                  refine z_iinc (L' := [_, _, _, _, _, _, _]) dX12_isRest_90 rfl rfl ?_
                  refine e_goto 37 dX12_isRest_93 rfl ?_
                  skip
                  exact ih3 _ (by omega) (j + 1)  rfl  (by omega) (by omega) (fun q x z => by
                            by_cases w : q = j
                            · subst w; rw [x1, x2]; unfold fwZ swZ; constructor <;> (split <;> omega)
                            · exact I3 q x (by omega))
                · skip
                  refine z_iconst (0) dX12_isRest_88 rfl ?_
                  refine z_bret dX12_isRest_89 rfl (Or.inl rfl) ⟨rfl, ?_⟩
                  refine z_q0 kq ?_
                  have eq := rsP_i (c := c) (d := d) (k := 21 * a + e) (by omega)
                  unfold rsP at eq
                  rw [show (21 * a + e) / 21 = a by omega, show (21 * a + e) % 21 = e by omega] at eq
                  first | exact eq.mpr (fun q x z => I3 q x (by omega)) | (intro q; have q2 := eq.mp q j (by omega) (by omega); rw [x1, x2] at q2; unfold fwZ swZ at q2; revert q2; split <;> split <;> (intro q2; omega))
              · skip
                refine z_iconst (0) dX12_isRest_75 rfl ?_
                refine e_goto 83 dX12_isRest_76 rfl ?_
                refine e_iload dX12_isRest_83 rfl ?_
                refine z_icmp_le 90 dX12_isRest_85 rfl ⟨by omega, by omega⟩ ⟨by omega, by omega⟩ (fun c13 => ?_) (fun c13 => ?_)
                · skip
                  refine z_iinc (L' := [_, _, _, _, _, _, _]) dX12_isRest_90 rfl rfl ?_
                  refine e_goto 37 dX12_isRest_93 rfl ?_
                  skip
                  exact ih3 _ (by omega) (j + 1)  rfl  (by omega) (by omega) (fun q x z => by
                            by_cases w : q = j
                            · subst w; rw [x1, x2]; unfold fwZ swZ; constructor <;> (split <;> omega)
                            · exact I3 q x (by omega))
                · skip
                  refine z_iconst (0) dX12_isRest_88 rfl ?_
                  refine z_bret dX12_isRest_89 rfl (Or.inl rfl) ⟨rfl, ?_⟩
                  refine z_q0 kq ?_
                  have eq := rsP_i (c := c) (d := d) (k := 21 * a + e) (by omega)
                  unfold rsP at eq
                  rw [show (21 * a + e) / 21 = a by omega, show (21 * a + e) % 21 = e by omega] at eq
                  first | exact eq.mpr (fun q x z => I3 q x (by omega)) | (intro q; have q2 := eq.mp q j (by omega) (by omega); rw [x1, x2] at q2; unfold fwZ swZ at q2; revert q2; split <;> split <;> (intro q2; omega))
      exact lp3 _ 0  rfl  (by omega) (by omega) (fun q x z => by omega)
    · skip
      refine z_iconst (0) dX12_isRest_25 rfl ?_
      refine e_goto 32 dX12_isRest_26 rfl ?_
      refine e_istore (L' := [_, _, _, _, _, _, _]) dX12_isRest_32 (Nat.le_of_ble_eq_true rfl) rfl ?_
      have x1 : fwZ c a e = 0 := by unfold fwZ; first | (exfalso; omega) | rw [if_pos (by omega)] | rw [if_neg (by omega)]
      have x2 : swZ d a e = 0 := by unfold swZ; first | (exfalso; omega) | rw [if_pos (by omega)] | rw [if_neg (by omega)]
      refine z_iconst (0) dX12_isRest_34 rfl ?_
      refine e_istore (L' := [_, _, _, _, _, _, _]) dX12_isRest_35 (Nat.le_of_ble_eq_true rfl) rfl ?_
      skip
      have lp14 : ∀ (n14 : Nat) (j : Int), (21 - j).toNat = n14 → (0 ≤ j) → (j ≤ 21) → (∀ q : Int, 0 ≤ q → q < j → fwZ c q e ≤ fwZ c a e ∧ swZ d a q ≤ swZ d a e) → mEv TB0 ad M_X12_isRest (dd + 2) (0, 0) (mCal TB0 ad (dd + 1)) (fun v h' z => z.1 = 0 ∧ Q v h') 37 [some (.int (zI c)), some (.int (zI d)), some (.int (zI a)), some (.int (zI e)), some (.int (zI 0)), some (.int (zI 0)), some (.int (zI j))] [] h (0, 0) := by
        intro n14
        induction n14 using Nat.strongRecOn with
        | ind n14 ih14 =>
        intro j  hn14  I1 I2 I3
        refine e_iload dX12_isRest_37 rfl ?_
        refine z_bipush (20) dX12_isRest_39 rfl ?_
        refine z_icmp_gt 96 dX12_isRest_41 rfl ⟨by omega, by omega⟩ ⟨by omega, by omega⟩ (fun c15 => ?_) (fun c15 => ?_)
        · skip
          refine z_iconst (1) dX12_isRest_96 rfl ?_
          refine z_bret dX12_isRest_97 rfl (Or.inr rfl) ⟨rfl, ?_⟩
          refine z_q1 kq ?_
          have eq := rsP_i (c := c) (d := d) (k := 21 * a + e) (by omega)
          unfold rsP at eq
          rw [show (21 * a + e) / 21 = a by omega, show (21 * a + e) % 21 = e by omega] at eq
          first | exact eq.mpr (fun q x z => I3 q x (by omega)) | (intro q; have q2 := eq.mp q j (by omega) (by omega); rw [x1, x2] at q2; unfold fwZ swZ at q2; revert q2; split <;> split <;> (intro q2; omega))
        · skip
          refine e_iload dX12_isRest_44 rfl ?_
          refine e_iload_n dX12_isRest_46 rfl ?_
          refine e_callS [.int _, .int _] dX12_isRest_47 tm_12_495 rfl (Nat.le_of_ble_eq_true rfl) (Nat.le_refl _) (Nat.le_refl _) rfl (zp_X12_sellsFirst j ⟨by omega, by omega⟩ e ⟨by omega, by omega⟩ ?_)
          refine z_ifb_eq 60 dX12_isRest_50 rfl (fun c16 => ?_) (fun c16 => ?_)
          · skip
            refine z_iconst (0) dX12_isRest_60 rfl ?_
            refine e_iload dX12_isRest_61 rfl ?_
            refine z_icmp_gt 88 dX12_isRest_63 rfl ⟨by omega, by omega⟩ ⟨by omega, by omega⟩ (fun c17 => ?_) (fun c17 => ?_)
            · exfalso; omega
            · skip
              refine e_iload_n dX12_isRest_66 rfl ?_
              refine e_iload dX12_isRest_67 rfl ?_
              refine e_callS [.int _, .int _] dX12_isRest_69 tm_12_495 rfl (Nat.le_of_ble_eq_true rfl) (Nat.le_refl _) (Nat.le_refl _) rfl (zp_X12_sellsFirst a ⟨by omega, by omega⟩ j ⟨by omega, by omega⟩ ?_)
              refine z_ifb_eq 79 dX12_isRest_72 rfl (fun c18 => ?_) (fun c18 => ?_)
              · skip
                refine e_iload dX12_isRest_79 rfl ?_
                refine e_iload_n dX12_isRest_81 rfl ?_
                refine z_isub dX12_isRest_82 ?_
                refine e_iload dX12_isRest_83 rfl ?_
                refine z_icmp_le 90 dX12_isRest_85 rfl ⟨by omega, by omega⟩ ⟨by omega, by omega⟩ (fun c19 => ?_) (fun c19 => ?_)
                · skip
                  refine z_iinc (L' := [_, _, _, _, _, _, _]) dX12_isRest_90 rfl rfl ?_
                  refine e_goto 37 dX12_isRest_93 rfl ?_
                  skip
                  exact ih14 _ (by omega) (j + 1)  rfl  (by omega) (by omega) (fun q x z => by
                            by_cases w : q = j
                            · subst w; rw [x1, x2]; unfold fwZ swZ; constructor <;> (split <;> omega)
                            · exact I3 q x (by omega))
                · skip
                  refine z_iconst (0) dX12_isRest_88 rfl ?_
                  refine z_bret dX12_isRest_89 rfl (Or.inl rfl) ⟨rfl, ?_⟩
                  refine z_q0 kq ?_
                  have eq := rsP_i (c := c) (d := d) (k := 21 * a + e) (by omega)
                  unfold rsP at eq
                  rw [show (21 * a + e) / 21 = a by omega, show (21 * a + e) % 21 = e by omega] at eq
                  first | exact eq.mpr (fun q x z => I3 q x (by omega)) | (intro q; have q2 := eq.mp q j (by omega) (by omega); rw [x1, x2] at q2; unfold fwZ swZ at q2; revert q2; split <;> split <;> (intro q2; omega))
              · skip
                refine z_iconst (0) dX12_isRest_75 rfl ?_
                refine e_goto 83 dX12_isRest_76 rfl ?_
                refine e_iload dX12_isRest_83 rfl ?_
                refine z_icmp_le 90 dX12_isRest_85 rfl ⟨by omega, by omega⟩ ⟨by omega, by omega⟩ (fun c20 => ?_) (fun c20 => ?_)
                · skip
                  refine z_iinc (L' := [_, _, _, _, _, _, _]) dX12_isRest_90 rfl rfl ?_
                  refine e_goto 37 dX12_isRest_93 rfl ?_
                  skip
                  exact ih14 _ (by omega) (j + 1)  rfl  (by omega) (by omega) (fun q x z => by
                            by_cases w : q = j
                            · subst w; rw [x1, x2]; unfold fwZ swZ; constructor <;> (split <;> omega)
                            · exact I3 q x (by omega))
                · exfalso; omega
          · skip
            refine e_iload dX12_isRest_53 rfl ?_
            refine e_iload_n dX12_isRest_55 rfl ?_
            refine z_isub dX12_isRest_56 ?_
            refine e_goto 61 dX12_isRest_57 rfl ?_
            refine e_iload dX12_isRest_61 rfl ?_
            refine z_icmp_gt 88 dX12_isRest_63 rfl ⟨by omega, by omega⟩ ⟨by omega, by omega⟩ (fun c21 => ?_) (fun c21 => ?_)
            · skip
              refine z_iconst (0) dX12_isRest_88 rfl ?_
              refine z_bret dX12_isRest_89 rfl (Or.inl rfl) ⟨rfl, ?_⟩
              refine z_q0 kq ?_
              have eq := rsP_i (c := c) (d := d) (k := 21 * a + e) (by omega)
              unfold rsP at eq
              rw [show (21 * a + e) / 21 = a by omega, show (21 * a + e) % 21 = e by omega] at eq
              first | exact eq.mpr (fun q x z => I3 q x (by omega)) | (intro q; have q2 := eq.mp q j (by omega) (by omega); rw [x1, x2] at q2; unfold fwZ swZ at q2; revert q2; split <;> split <;> (intro q2; omega))
            · skip
              refine e_iload_n dX12_isRest_66 rfl ?_
              refine e_iload dX12_isRest_67 rfl ?_
              refine e_callS [.int _, .int _] dX12_isRest_69 tm_12_495 rfl (Nat.le_of_ble_eq_true rfl) (Nat.le_refl _) (Nat.le_refl _) rfl (zp_X12_sellsFirst a ⟨by omega, by omega⟩ j ⟨by omega, by omega⟩ ?_)
              refine z_ifb_eq 79 dX12_isRest_72 rfl (fun c22 => ?_) (fun c22 => ?_)
              · skip
                refine e_iload dX12_isRest_79 rfl ?_
                refine e_iload_n dX12_isRest_81 rfl ?_
                refine z_isub dX12_isRest_82 ?_
                refine e_iload dX12_isRest_83 rfl ?_
                refine z_icmp_le 90 dX12_isRest_85 rfl ⟨by omega, by omega⟩ ⟨by omega, by omega⟩ (fun c23 => ?_) (fun c23 => ?_)
                · skip
                  refine z_iinc (L' := [_, _, _, _, _, _, _]) dX12_isRest_90 rfl rfl ?_
                  refine e_goto 37 dX12_isRest_93 rfl ?_
                  skip
                  exact ih14 _ (by omega) (j + 1)  rfl  (by omega) (by omega) (fun q x z => by
                            by_cases w : q = j
                            · subst w; rw [x1, x2]; unfold fwZ swZ; constructor <;> (split <;> omega)
                            · exact I3 q x (by omega))
                · skip
                  refine z_iconst (0) dX12_isRest_88 rfl ?_
                  refine z_bret dX12_isRest_89 rfl (Or.inl rfl) ⟨rfl, ?_⟩
                  refine z_q0 kq ?_
                  have eq := rsP_i (c := c) (d := d) (k := 21 * a + e) (by omega)
                  unfold rsP at eq
                  rw [show (21 * a + e) / 21 = a by omega, show (21 * a + e) % 21 = e by omega] at eq
                  first | exact eq.mpr (fun q x z => I3 q x (by omega)) | (intro q; have q2 := eq.mp q j (by omega) (by omega); rw [x1, x2] at q2; unfold fwZ swZ at q2; revert q2; split <;> split <;> (intro q2; omega))
              · skip
                refine z_iconst (0) dX12_isRest_75 rfl ?_
                refine e_goto 83 dX12_isRest_76 rfl ?_
                refine e_iload dX12_isRest_83 rfl ?_
                refine z_icmp_le 90 dX12_isRest_85 rfl ⟨by omega, by omega⟩ ⟨by omega, by omega⟩ (fun c24 => ?_) (fun c24 => ?_)
                · skip
                  refine z_iinc (L' := [_, _, _, _, _, _, _]) dX12_isRest_90 rfl rfl ?_
                  refine e_goto 37 dX12_isRest_93 rfl ?_
                  skip
                  exact ih14 _ (by omega) (j + 1)  rfl  (by omega) (by omega) (fun q x z => by
                            by_cases w : q = j
                            · subst w; rw [x1, x2]; unfold fwZ swZ; constructor <;> (split <;> omega)
                            · exact I3 q x (by omega))
                · exfalso; omega
      exact lp14 _ 0  rfl  (by omega) (by omega) (fun q x z => by omega)
  · skip
    refine e_iload_n dX12_isRest_8 rfl ?_
    refine e_iload_n dX12_isRest_9 rfl ?_
    refine z_isub dX12_isRest_10 ?_
    refine e_goto 15 dX12_isRest_11 rfl ?_
    refine e_istore (L' := [_, _, _, _, _, _, _]) dX12_isRest_15 (Nat.le_of_ble_eq_true rfl) rfl ?_
    refine e_iload_n dX12_isRest_17 rfl ?_
    refine e_iload_n dX12_isRest_18 rfl ?_
    refine e_callS [.int _, .int _] dX12_isRest_19 tm_12_495 rfl (Nat.le_of_ble_eq_true rfl) (Nat.le_refl _) (Nat.le_refl _) rfl (zp_X12_sellsFirst a ⟨by omega, by omega⟩ e ⟨by omega, by omega⟩ ?_)
    refine z_ifb_eq 29 dX12_isRest_22 rfl (fun c25 => ?_) (fun c25 => ?_)
    · skip
      refine e_iload_n dX12_isRest_29 rfl ?_
      refine e_iload_n dX12_isRest_30 rfl ?_
      refine z_isub dX12_isRest_31 ?_
      refine e_istore (L' := [_, _, _, _, _, _, _]) dX12_isRest_32 (Nat.le_of_ble_eq_true rfl) rfl ?_
      have x1 : fwZ c a e = (a - c) := by unfold fwZ; first | (exfalso; omega) | rw [if_pos (by omega)] | rw [if_neg (by omega)]
      have x2 : swZ d a e = (e - d) := by unfold swZ; first | (exfalso; omega) | rw [if_pos (by omega)] | rw [if_neg (by omega)]
      refine z_iconst (0) dX12_isRest_34 rfl ?_
      refine e_istore (L' := [_, _, _, _, _, _, _]) dX12_isRest_35 (Nat.le_of_ble_eq_true rfl) rfl ?_
      skip
      have lp26 : ∀ (n26 : Nat) (j : Int), (21 - j).toNat = n26 → (0 ≤ j) → (j ≤ 21) → (∀ q : Int, 0 ≤ q → q < j → fwZ c q e ≤ fwZ c a e ∧ swZ d a q ≤ swZ d a e) → mEv TB0 ad M_X12_isRest (dd + 2) (0, 0) (mCal TB0 ad (dd + 1)) (fun v h' z => z.1 = 0 ∧ Q v h') 37 [some (.int (zI c)), some (.int (zI d)), some (.int (zI a)), some (.int (zI e)), some (.int (zI (a - c))), some (.int (zI (e - d))), some (.int (zI j))] [] h (0, 0) := by
        intro n26
        induction n26 using Nat.strongRecOn with
        | ind n26 ih26 =>
        intro j  hn26  I1 I2 I3
        refine e_iload dX12_isRest_37 rfl ?_
        refine z_bipush (20) dX12_isRest_39 rfl ?_
        refine z_icmp_gt 96 dX12_isRest_41 rfl ⟨by omega, by omega⟩ ⟨by omega, by omega⟩ (fun c27 => ?_) (fun c27 => ?_)
        · skip
          refine z_iconst (1) dX12_isRest_96 rfl ?_
          refine z_bret dX12_isRest_97 rfl (Or.inr rfl) ⟨rfl, ?_⟩
          refine z_q1 kq ?_
          have eq := rsP_i (c := c) (d := d) (k := 21 * a + e) (by omega)
          unfold rsP at eq
          rw [show (21 * a + e) / 21 = a by omega, show (21 * a + e) % 21 = e by omega] at eq
          first | exact eq.mpr (fun q x z => I3 q x (by omega)) | (intro q; have q2 := eq.mp q j (by omega) (by omega); rw [x1, x2] at q2; unfold fwZ swZ at q2; revert q2; split <;> split <;> (intro q2; omega))
        · skip
          refine e_iload dX12_isRest_44 rfl ?_
          refine e_iload_n dX12_isRest_46 rfl ?_
          refine e_callS [.int _, .int _] dX12_isRest_47 tm_12_495 rfl (Nat.le_of_ble_eq_true rfl) (Nat.le_refl _) (Nat.le_refl _) rfl (zp_X12_sellsFirst j ⟨by omega, by omega⟩ e ⟨by omega, by omega⟩ ?_)
          refine z_ifb_eq 60 dX12_isRest_50 rfl (fun c28 => ?_) (fun c28 => ?_)
          · skip
            refine z_iconst (0) dX12_isRest_60 rfl ?_
            refine e_iload dX12_isRest_61 rfl ?_
            refine z_icmp_gt 88 dX12_isRest_63 rfl ⟨by omega, by omega⟩ ⟨by omega, by omega⟩ (fun c29 => ?_) (fun c29 => ?_)
            · skip
              refine z_iconst (0) dX12_isRest_88 rfl ?_
              refine z_bret dX12_isRest_89 rfl (Or.inl rfl) ⟨rfl, ?_⟩
              refine z_q0 kq ?_
              have eq := rsP_i (c := c) (d := d) (k := 21 * a + e) (by omega)
              unfold rsP at eq
              rw [show (21 * a + e) / 21 = a by omega, show (21 * a + e) % 21 = e by omega] at eq
              first | exact eq.mpr (fun q x z => I3 q x (by omega)) | (intro q; have q2 := eq.mp q j (by omega) (by omega); rw [x1, x2] at q2; unfold fwZ swZ at q2; revert q2; split <;> split <;> (intro q2; omega))
            · skip
              refine e_iload_n dX12_isRest_66 rfl ?_
              refine e_iload dX12_isRest_67 rfl ?_
              refine e_callS [.int _, .int _] dX12_isRest_69 tm_12_495 rfl (Nat.le_of_ble_eq_true rfl) (Nat.le_refl _) (Nat.le_refl _) rfl (zp_X12_sellsFirst a ⟨by omega, by omega⟩ j ⟨by omega, by omega⟩ ?_)
              refine z_ifb_eq 79 dX12_isRest_72 rfl (fun c30 => ?_) (fun c30 => ?_)
              · skip
                refine e_iload dX12_isRest_79 rfl ?_
                refine e_iload_n dX12_isRest_81 rfl ?_
                refine z_isub dX12_isRest_82 ?_
                refine e_iload dX12_isRest_83 rfl ?_
                refine z_icmp_le 90 dX12_isRest_85 rfl ⟨by omega, by omega⟩ ⟨by omega, by omega⟩ (fun c31 => ?_) (fun c31 => ?_)
                · skip
                  refine z_iinc (L' := [_, _, _, _, _, _, _]) dX12_isRest_90 rfl rfl ?_
                  refine e_goto 37 dX12_isRest_93 rfl ?_
                  skip
                  exact ih26 _ (by omega) (j + 1)  rfl  (by omega) (by omega) (fun q x z => by
                            by_cases w : q = j
                            · subst w; rw [x1, x2]; unfold fwZ swZ; constructor <;> (split <;> omega)
                            · exact I3 q x (by omega))
                · skip
                  refine z_iconst (0) dX12_isRest_88 rfl ?_
                  refine z_bret dX12_isRest_89 rfl (Or.inl rfl) ⟨rfl, ?_⟩
                  refine z_q0 kq ?_
                  have eq := rsP_i (c := c) (d := d) (k := 21 * a + e) (by omega)
                  unfold rsP at eq
                  rw [show (21 * a + e) / 21 = a by omega, show (21 * a + e) % 21 = e by omega] at eq
                  first | exact eq.mpr (fun q x z => I3 q x (by omega)) | (intro q; have q2 := eq.mp q j (by omega) (by omega); rw [x1, x2] at q2; unfold fwZ swZ at q2; revert q2; split <;> split <;> (intro q2; omega))
              · skip
                refine z_iconst (0) dX12_isRest_75 rfl ?_
                refine e_goto 83 dX12_isRest_76 rfl ?_
                refine e_iload dX12_isRest_83 rfl ?_
                refine z_icmp_le 90 dX12_isRest_85 rfl ⟨by omega, by omega⟩ ⟨by omega, by omega⟩ (fun c32 => ?_) (fun c32 => ?_)
                · skip
                  refine z_iinc (L' := [_, _, _, _, _, _, _]) dX12_isRest_90 rfl rfl ?_
                  refine e_goto 37 dX12_isRest_93 rfl ?_
                  skip
                  exact ih26 _ (by omega) (j + 1)  rfl  (by omega) (by omega) (fun q x z => by
                            by_cases w : q = j
                            · subst w; rw [x1, x2]; unfold fwZ swZ; constructor <;> (split <;> omega)
                            · exact I3 q x (by omega))
                · skip
                  refine z_iconst (0) dX12_isRest_88 rfl ?_
                  refine z_bret dX12_isRest_89 rfl (Or.inl rfl) ⟨rfl, ?_⟩
                  refine z_q0 kq ?_
                  have eq := rsP_i (c := c) (d := d) (k := 21 * a + e) (by omega)
                  unfold rsP at eq
                  rw [show (21 * a + e) / 21 = a by omega, show (21 * a + e) % 21 = e by omega] at eq
                  first | exact eq.mpr (fun q x z => I3 q x (by omega)) | (intro q; have q2 := eq.mp q j (by omega) (by omega); rw [x1, x2] at q2; unfold fwZ swZ at q2; revert q2; split <;> split <;> (intro q2; omega))
          · skip
            refine e_iload dX12_isRest_53 rfl ?_
            refine e_iload_n dX12_isRest_55 rfl ?_
            refine z_isub dX12_isRest_56 ?_
            refine e_goto 61 dX12_isRest_57 rfl ?_
            refine e_iload dX12_isRest_61 rfl ?_
            refine z_icmp_gt 88 dX12_isRest_63 rfl ⟨by omega, by omega⟩ ⟨by omega, by omega⟩ (fun c33 => ?_) (fun c33 => ?_)
            · skip
              refine z_iconst (0) dX12_isRest_88 rfl ?_
              refine z_bret dX12_isRest_89 rfl (Or.inl rfl) ⟨rfl, ?_⟩
              refine z_q0 kq ?_
              have eq := rsP_i (c := c) (d := d) (k := 21 * a + e) (by omega)
              unfold rsP at eq
              rw [show (21 * a + e) / 21 = a by omega, show (21 * a + e) % 21 = e by omega] at eq
              first | exact eq.mpr (fun q x z => I3 q x (by omega)) | (intro q; have q2 := eq.mp q j (by omega) (by omega); rw [x1, x2] at q2; unfold fwZ swZ at q2; revert q2; split <;> split <;> (intro q2; omega))
            · skip
              refine e_iload_n dX12_isRest_66 rfl ?_
              refine e_iload dX12_isRest_67 rfl ?_
              refine e_callS [.int _, .int _] dX12_isRest_69 tm_12_495 rfl (Nat.le_of_ble_eq_true rfl) (Nat.le_refl _) (Nat.le_refl _) rfl (zp_X12_sellsFirst a ⟨by omega, by omega⟩ j ⟨by omega, by omega⟩ ?_)
              refine z_ifb_eq 79 dX12_isRest_72 rfl (fun c34 => ?_) (fun c34 => ?_)
              · skip
                refine e_iload dX12_isRest_79 rfl ?_
                refine e_iload_n dX12_isRest_81 rfl ?_
                refine z_isub dX12_isRest_82 ?_
                refine e_iload dX12_isRest_83 rfl ?_
                refine z_icmp_le 90 dX12_isRest_85 rfl ⟨by omega, by omega⟩ ⟨by omega, by omega⟩ (fun c35 => ?_) (fun c35 => ?_)
                · skip
                  refine z_iinc (L' := [_, _, _, _, _, _, _]) dX12_isRest_90 rfl rfl ?_
                  refine e_goto 37 dX12_isRest_93 rfl ?_
                  skip
                  exact ih26 _ (by omega) (j + 1)  rfl  (by omega) (by omega) (fun q x z => by
                            by_cases w : q = j
                            · subst w; rw [x1, x2]; unfold fwZ swZ; constructor <;> (split <;> omega)
                            · exact I3 q x (by omega))
                · skip
                  refine z_iconst (0) dX12_isRest_88 rfl ?_
                  refine z_bret dX12_isRest_89 rfl (Or.inl rfl) ⟨rfl, ?_⟩
                  refine z_q0 kq ?_
                  have eq := rsP_i (c := c) (d := d) (k := 21 * a + e) (by omega)
                  unfold rsP at eq
                  rw [show (21 * a + e) / 21 = a by omega, show (21 * a + e) % 21 = e by omega] at eq
                  first | exact eq.mpr (fun q x z => I3 q x (by omega)) | (intro q; have q2 := eq.mp q j (by omega) (by omega); rw [x1, x2] at q2; unfold fwZ swZ at q2; revert q2; split <;> split <;> (intro q2; omega))
              · skip
                refine z_iconst (0) dX12_isRest_75 rfl ?_
                refine e_goto 83 dX12_isRest_76 rfl ?_
                refine e_iload dX12_isRest_83 rfl ?_
                refine z_icmp_le 90 dX12_isRest_85 rfl ⟨by omega, by omega⟩ ⟨by omega, by omega⟩ (fun c36 => ?_) (fun c36 => ?_)
                · skip
                  refine z_iinc (L' := [_, _, _, _, _, _, _]) dX12_isRest_90 rfl rfl ?_
                  refine e_goto 37 dX12_isRest_93 rfl ?_
                  skip
                  exact ih26 _ (by omega) (j + 1)  rfl  (by omega) (by omega) (fun q x z => by
                            by_cases w : q = j
                            · subst w; rw [x1, x2]; unfold fwZ swZ; constructor <;> (split <;> omega)
                            · exact I3 q x (by omega))
                · skip
                  refine z_iconst (0) dX12_isRest_88 rfl ?_
                  refine z_bret dX12_isRest_89 rfl (Or.inl rfl) ⟨rfl, ?_⟩
                  refine z_q0 kq ?_
                  have eq := rsP_i (c := c) (d := d) (k := 21 * a + e) (by omega)
                  unfold rsP at eq
                  rw [show (21 * a + e) / 21 = a by omega, show (21 * a + e) % 21 = e by omega] at eq
                  first | exact eq.mpr (fun q x z => I3 q x (by omega)) | (intro q; have q2 := eq.mp q j (by omega) (by omega); rw [x1, x2] at q2; unfold fwZ swZ at q2; revert q2; split <;> split <;> (intro q2; omega))
      exact lp26 _ 0  rfl  (by omega) (by omega) (fun q x z => by omega)
    · skip
      refine z_iconst (0) dX12_isRest_25 rfl ?_
      refine e_goto 32 dX12_isRest_26 rfl ?_
      refine e_istore (L' := [_, _, _, _, _, _, _]) dX12_isRest_32 (Nat.le_of_ble_eq_true rfl) rfl ?_
      have x1 : fwZ c a e = (a - c) := by unfold fwZ; first | (exfalso; omega) | rw [if_pos (by omega)] | rw [if_neg (by omega)]
      have x2 : swZ d a e = 0 := by unfold swZ; first | (exfalso; omega) | rw [if_pos (by omega)] | rw [if_neg (by omega)]
      refine z_iconst (0) dX12_isRest_34 rfl ?_
      refine e_istore (L' := [_, _, _, _, _, _, _]) dX12_isRest_35 (Nat.le_of_ble_eq_true rfl) rfl ?_
      skip
      have lp37 : ∀ (n37 : Nat) (j : Int), (21 - j).toNat = n37 → (0 ≤ j) → (j ≤ 21) → (∀ q : Int, 0 ≤ q → q < j → fwZ c q e ≤ fwZ c a e ∧ swZ d a q ≤ swZ d a e) → mEv TB0 ad M_X12_isRest (dd + 2) (0, 0) (mCal TB0 ad (dd + 1)) (fun v h' z => z.1 = 0 ∧ Q v h') 37 [some (.int (zI c)), some (.int (zI d)), some (.int (zI a)), some (.int (zI e)), some (.int (zI (a - c))), some (.int (zI 0)), some (.int (zI j))] [] h (0, 0) := by
        intro n37
        induction n37 using Nat.strongRecOn with
        | ind n37 ih37 =>
        intro j  hn37  I1 I2 I3
        refine e_iload dX12_isRest_37 rfl ?_
        refine z_bipush (20) dX12_isRest_39 rfl ?_
        refine z_icmp_gt 96 dX12_isRest_41 rfl ⟨by omega, by omega⟩ ⟨by omega, by omega⟩ (fun c38 => ?_) (fun c38 => ?_)
        · skip
          refine z_iconst (1) dX12_isRest_96 rfl ?_
          refine z_bret dX12_isRest_97 rfl (Or.inr rfl) ⟨rfl, ?_⟩
          refine z_q1 kq ?_
          have eq := rsP_i (c := c) (d := d) (k := 21 * a + e) (by omega)
          unfold rsP at eq
          rw [show (21 * a + e) / 21 = a by omega, show (21 * a + e) % 21 = e by omega] at eq
          first | exact eq.mpr (fun q x z => I3 q x (by omega)) | (intro q; have q2 := eq.mp q j (by omega) (by omega); rw [x1, x2] at q2; unfold fwZ swZ at q2; revert q2; split <;> split <;> (intro q2; omega))
        · skip
          refine e_iload dX12_isRest_44 rfl ?_
          refine e_iload_n dX12_isRest_46 rfl ?_
          refine e_callS [.int _, .int _] dX12_isRest_47 tm_12_495 rfl (Nat.le_of_ble_eq_true rfl) (Nat.le_refl _) (Nat.le_refl _) rfl (zp_X12_sellsFirst j ⟨by omega, by omega⟩ e ⟨by omega, by omega⟩ ?_)
          refine z_ifb_eq 60 dX12_isRest_50 rfl (fun c39 => ?_) (fun c39 => ?_)
          · skip
            refine z_iconst (0) dX12_isRest_60 rfl ?_
            refine e_iload dX12_isRest_61 rfl ?_
            refine z_icmp_gt 88 dX12_isRest_63 rfl ⟨by omega, by omega⟩ ⟨by omega, by omega⟩ (fun c40 => ?_) (fun c40 => ?_)
            · skip
              refine z_iconst (0) dX12_isRest_88 rfl ?_
              refine z_bret dX12_isRest_89 rfl (Or.inl rfl) ⟨rfl, ?_⟩
              refine z_q0 kq ?_
              have eq := rsP_i (c := c) (d := d) (k := 21 * a + e) (by omega)
              unfold rsP at eq
              rw [show (21 * a + e) / 21 = a by omega, show (21 * a + e) % 21 = e by omega] at eq
              first | exact eq.mpr (fun q x z => I3 q x (by omega)) | (intro q; have q2 := eq.mp q j (by omega) (by omega); rw [x1, x2] at q2; unfold fwZ swZ at q2; revert q2; split <;> split <;> (intro q2; omega))
            · skip
              refine e_iload_n dX12_isRest_66 rfl ?_
              refine e_iload dX12_isRest_67 rfl ?_
              refine e_callS [.int _, .int _] dX12_isRest_69 tm_12_495 rfl (Nat.le_of_ble_eq_true rfl) (Nat.le_refl _) (Nat.le_refl _) rfl (zp_X12_sellsFirst a ⟨by omega, by omega⟩ j ⟨by omega, by omega⟩ ?_)
              refine z_ifb_eq 79 dX12_isRest_72 rfl (fun c41 => ?_) (fun c41 => ?_)
              · skip
                refine e_iload dX12_isRest_79 rfl ?_
                refine e_iload_n dX12_isRest_81 rfl ?_
                refine z_isub dX12_isRest_82 ?_
                refine e_iload dX12_isRest_83 rfl ?_
                refine z_icmp_le 90 dX12_isRest_85 rfl ⟨by omega, by omega⟩ ⟨by omega, by omega⟩ (fun c42 => ?_) (fun c42 => ?_)
                · skip
                  refine z_iinc (L' := [_, _, _, _, _, _, _]) dX12_isRest_90 rfl rfl ?_
                  refine e_goto 37 dX12_isRest_93 rfl ?_
                  skip
                  exact ih37 _ (by omega) (j + 1)  rfl  (by omega) (by omega) (fun q x z => by
                            by_cases w : q = j
                            · subst w; rw [x1, x2]; unfold fwZ swZ; constructor <;> (split <;> omega)
                            · exact I3 q x (by omega))
                · skip
                  refine z_iconst (0) dX12_isRest_88 rfl ?_
                  refine z_bret dX12_isRest_89 rfl (Or.inl rfl) ⟨rfl, ?_⟩
                  refine z_q0 kq ?_
                  have eq := rsP_i (c := c) (d := d) (k := 21 * a + e) (by omega)
                  unfold rsP at eq
                  rw [show (21 * a + e) / 21 = a by omega, show (21 * a + e) % 21 = e by omega] at eq
                  first | exact eq.mpr (fun q x z => I3 q x (by omega)) | (intro q; have q2 := eq.mp q j (by omega) (by omega); rw [x1, x2] at q2; unfold fwZ swZ at q2; revert q2; split <;> split <;> (intro q2; omega))
              · skip
                refine z_iconst (0) dX12_isRest_75 rfl ?_
                refine e_goto 83 dX12_isRest_76 rfl ?_
                refine e_iload dX12_isRest_83 rfl ?_
                refine z_icmp_le 90 dX12_isRest_85 rfl ⟨by omega, by omega⟩ ⟨by omega, by omega⟩ (fun c43 => ?_) (fun c43 => ?_)
                · skip
                  refine z_iinc (L' := [_, _, _, _, _, _, _]) dX12_isRest_90 rfl rfl ?_
                  refine e_goto 37 dX12_isRest_93 rfl ?_
                  skip
                  exact ih37 _ (by omega) (j + 1)  rfl  (by omega) (by omega) (fun q x z => by
                            by_cases w : q = j
                            · subst w; rw [x1, x2]; unfold fwZ swZ; constructor <;> (split <;> omega)
                            · exact I3 q x (by omega))
                · exfalso; omega
          · skip
            refine e_iload dX12_isRest_53 rfl ?_
            refine e_iload_n dX12_isRest_55 rfl ?_
            refine z_isub dX12_isRest_56 ?_
            refine e_goto 61 dX12_isRest_57 rfl ?_
            refine e_iload dX12_isRest_61 rfl ?_
            refine z_icmp_gt 88 dX12_isRest_63 rfl ⟨by omega, by omega⟩ ⟨by omega, by omega⟩ (fun c44 => ?_) (fun c44 => ?_)
            · skip
              refine z_iconst (0) dX12_isRest_88 rfl ?_
              refine z_bret dX12_isRest_89 rfl (Or.inl rfl) ⟨rfl, ?_⟩
              refine z_q0 kq ?_
              have eq := rsP_i (c := c) (d := d) (k := 21 * a + e) (by omega)
              unfold rsP at eq
              rw [show (21 * a + e) / 21 = a by omega, show (21 * a + e) % 21 = e by omega] at eq
              first | exact eq.mpr (fun q x z => I3 q x (by omega)) | (intro q; have q2 := eq.mp q j (by omega) (by omega); rw [x1, x2] at q2; unfold fwZ swZ at q2; revert q2; split <;> split <;> (intro q2; omega))
            · skip
              refine e_iload_n dX12_isRest_66 rfl ?_
              refine e_iload dX12_isRest_67 rfl ?_
              refine e_callS [.int _, .int _] dX12_isRest_69 tm_12_495 rfl (Nat.le_of_ble_eq_true rfl) (Nat.le_refl _) (Nat.le_refl _) rfl (zp_X12_sellsFirst a ⟨by omega, by omega⟩ j ⟨by omega, by omega⟩ ?_)
              refine z_ifb_eq 79 dX12_isRest_72 rfl (fun c45 => ?_) (fun c45 => ?_)
              · skip
                refine e_iload dX12_isRest_79 rfl ?_
                refine e_iload_n dX12_isRest_81 rfl ?_
                refine z_isub dX12_isRest_82 ?_
                refine e_iload dX12_isRest_83 rfl ?_
                refine z_icmp_le 90 dX12_isRest_85 rfl ⟨by omega, by omega⟩ ⟨by omega, by omega⟩ (fun c46 => ?_) (fun c46 => ?_)
                · skip
                  refine z_iinc (L' := [_, _, _, _, _, _, _]) dX12_isRest_90 rfl rfl ?_
                  refine e_goto 37 dX12_isRest_93 rfl ?_
                  skip
                  exact ih37 _ (by omega) (j + 1)  rfl  (by omega) (by omega) (fun q x z => by
                            by_cases w : q = j
                            · subst w; rw [x1, x2]; unfold fwZ swZ; constructor <;> (split <;> omega)
                            · exact I3 q x (by omega))
                · skip
                  refine z_iconst (0) dX12_isRest_88 rfl ?_
                  refine z_bret dX12_isRest_89 rfl (Or.inl rfl) ⟨rfl, ?_⟩
                  refine z_q0 kq ?_
                  have eq := rsP_i (c := c) (d := d) (k := 21 * a + e) (by omega)
                  unfold rsP at eq
                  rw [show (21 * a + e) / 21 = a by omega, show (21 * a + e) % 21 = e by omega] at eq
                  first | exact eq.mpr (fun q x z => I3 q x (by omega)) | (intro q; have q2 := eq.mp q j (by omega) (by omega); rw [x1, x2] at q2; unfold fwZ swZ at q2; revert q2; split <;> split <;> (intro q2; omega))
              · skip
                refine z_iconst (0) dX12_isRest_75 rfl ?_
                refine e_goto 83 dX12_isRest_76 rfl ?_
                refine e_iload dX12_isRest_83 rfl ?_
                refine z_icmp_le 90 dX12_isRest_85 rfl ⟨by omega, by omega⟩ ⟨by omega, by omega⟩ (fun c47 => ?_) (fun c47 => ?_)
                · skip
                  refine z_iinc (L' := [_, _, _, _, _, _, _]) dX12_isRest_90 rfl rfl ?_
                  refine e_goto 37 dX12_isRest_93 rfl ?_
                  skip
                  exact ih37 _ (by omega) (j + 1)  rfl  (by omega) (by omega) (fun q x z => by
                            by_cases w : q = j
                            · subst w; rw [x1, x2]; unfold fwZ swZ; constructor <;> (split <;> omega)
                            · exact I3 q x (by omega))
                · exfalso; omega
      exact lp37 _ 0  rfl  (by omega) (by omega) (fun q x z => by omega)
set_option maxHeartbeats 400000 in
theorem zp_X12_rest {ad : mA} {dd : Nat} {h : mH} {Q : mQ} {m : Nat}  (hk : rk h m)  (c : Int) (c_r : -2147483648 ≤ c ∧ c < 2147483648) (d : Int) (d_r : -2147483648 ≤ d ∧ d < 2147483648) (k : Int) (k_r : -2147483648 ≤ k ∧ k < 2147483648)  (kq : ∀ v : Int, (rsZ c d k v) → ∀ h1, frm (fun a i => a = m ∨ (m + 9 ≤ a ∧ a < m + 30)) h h1 → Q (some (.int (zI v))) h1) : mCal TB0 ad (dd + 3) M_X12_rest [.ref m, .int (zI c), .int (zI d), .int (zI k)] h 0 0 Q := by
  refine ⟨Nat.le_of_ble_eq_true rfl, ?_⟩
  show mEv TB0 ad M_X12_rest (dd + 3) (0, 0) (mCal TB0 ad (dd + 2)) (fun v h' z => z.1 = 0 ∧ Q v h') 0 [some (.ref m), some (.int (zI c)), some (.int (zI d)), some (.int (zI k)), none, none, none] [] h (0, 0)
  have FR0 : frm (fun a i => a = m ∨ (m + 9 ≤ a ∧ a < m + 30)) h h := frm_0 h
  refine e_aload_n dX12_rest_0 rfl ?_
  refine z_iconst (0) dX12_rest_1 rfl ?_
  refine z_put dX12_rest_2 tf_12_103 (rk_s hk) rfl (Or.inl rfl) (fun h1 e2 => ?_)
  have f3 := frm_1 e2
  have k4 := rk_q (frm_s f3) hk
  have FR5 := frm_t FR0 (frm_m (S' := (fun a i => a = m ∨ (m + 9 ≤ a ∧ a < m + 30))) f3 (fun a k q => by omega))
  refine e_iload_n dX12_rest_5 rfl ?_
  refine z_iconst (0) dX12_rest_6 rfl ?_
  refine z_bipush (20) dX12_rest_7 rfl ?_
  refine e_callS [.int _, .int _, .int _] dX12_rest_9 tm_12_115 rfl (Nat.le_of_ble_eq_true rfl) (Nat.le_refl _) (Nat.le_refl _) rfl (zp_X12_in c ⟨by omega, by omega⟩ 0 ⟨by omega, by omega⟩ 20 ⟨by omega, by omega⟩ ?_)
  refine z_ifb_eq 25 dX12_rest_12 rfl (fun c6 => ?_) (fun c6 => ?_)
  · skip
    refine z_iconst (-1) dX12_rest_25 rfl ?_
    refine z_iret dX12_rest_26 rfl ⟨rfl, ?_⟩
    refine kq _ ?_ _ FR5
    first | exact rsZ_n (by omega) | exact rsZ_m (by omega) (by omega) (show n = rsN c d 441 by rw [I3, show i = 441 by omega]) (fun j a w => I5 j a (by omega)) (by omega) (by omega)
  · skip
    refine e_iload_n dX12_rest_15 rfl ?_
    refine z_iconst (0) dX12_rest_16 rfl ?_
    refine z_bipush (20) dX12_rest_17 rfl ?_
    refine e_callS [.int _, .int _, .int _] dX12_rest_19 tm_12_115 rfl (Nat.le_of_ble_eq_true rfl) (Nat.le_refl _) (Nat.le_refl _) rfl (zp_X12_in d ⟨by omega, by omega⟩ 0 ⟨by omega, by omega⟩ 20 ⟨by omega, by omega⟩ ?_)
    refine z_ifb_ne 27 dX12_rest_22 rfl (fun c7 => ?_) (fun c7 => ?_)
    · skip
      refine z_iconst (0) dX12_rest_27 rfl ?_
      refine e_istore (L' := [_, _, _, _, _, _, _]) dX12_rest_28 (Nat.le_of_ble_eq_true rfl) rfl ?_
      refine z_iconst (0) dX12_rest_30 rfl ?_
      refine e_istore (L' := [_, _, _, _, _, _, _]) dX12_rest_31 (Nat.le_of_ble_eq_true rfl) rfl ?_
      refine z_iconst (0) dX12_rest_33 rfl ?_
      refine e_istore (L' := [_, _, _, _, _, _, _]) dX12_rest_34 (Nat.le_of_ble_eq_true rfl) rfl ?_
      have lp8 : ∀ (n8 : Nat) (n o i : Int), (441 - i).toNat = n8 → (0 ≤ i) → (i ≤ 441) → (n = rsN c d i) → (o = rsA c d i) → (∀ j, 0 ≤ j → j < i → ¬ (rsP c d j ∧ rsN c d j = k)) → mEv TB0 ad M_X12_rest (dd + 3) (0, 0) (mCal TB0 ad (dd + 2)) (fun v h' z => z.1 = 0 ∧ Q v h') 36 [some (.ref m), some (.int (zI c)), some (.int (zI d)), some (.int (zI k)), some (.int (zI n)), some (.int (zI o)), some (.int (zI i))] [] h1 (0, 0) := by
        intro n8
        induction n8 using Nat.strongRecOn with
        | ind n8 ih8 =>
        intro n o i  hn8  I1 I2 I3 I4 I5
        refine e_iload dX12_rest_36 rfl ?_
        refine z_sipush (441) dX12_rest_38 rfl ?_
        refine z_icmp_ge 106 dX12_rest_41 rfl ⟨by omega, by omega⟩ ⟨by omega, by omega⟩ (fun c9 => ?_) (fun c9 => ?_)
        · skip
          have n1 := rsN_b (c := c) (d := d) I1
          have n2 := rsA_b (c := c) (d := d) I1
          have kk : k < -2 ∨ k = -2 ∨ k = -1 ∨ 0 ≤ k := by omega
          refine e_iload_n dX12_rest_106 rfl ?_
          refine z_iconst (-1) dX12_rest_107 rfl ?_
          refine z_icmp_ne 116 dX12_rest_108 rfl ⟨by omega, by omega⟩ ⟨by omega, by omega⟩ (fun c10 => ?_) (fun c10 => ?_)
          · skip
            refine e_iload_n dX12_rest_116 rfl ?_
            refine z_bipush (-2) dX12_rest_117 rfl ?_
            refine z_icmp_ne 144 dX12_rest_119 rfl ⟨by omega, by omega⟩ ⟨by omega, by omega⟩ (fun c11 => ?_) (fun c11 => ?_)
            · skip
              refine z_iconst (-1) dX12_rest_144 rfl ?_
              refine z_iret dX12_rest_145 rfl ⟨rfl, ?_⟩
              refine kq _ ?_ _ FR5
              first | exact rsZ_n (by omega) | exact rsZ_m (by omega) (by omega) (show n = rsN c d 441 by rw [I3, show i = 441 by omega]) (fun j a w => I5 j a (by omega)) (by omega) (by omega)
            · skip
              refine e_iload dX12_rest_122 rfl ?_
              refine z_if_le 144 dX12_rest_124 rfl ⟨by omega, by omega⟩ (fun c12 => ?_) (fun c12 => ?_)
              · skip
                refine z_iconst (-1) dX12_rest_144 rfl ?_
                refine z_iret dX12_rest_145 rfl ⟨rfl, ?_⟩
                refine kq _ ?_ _ FR5
                first | exact rsZ_n (by omega) | exact rsZ_m (by omega) (by omega) (show n = rsN c d 441 by rw [I3, show i = 441 by omega]) (fun j a w => I5 j a (by omega)) (by omega) (by omega)
              · skip
                refine z_iconst (2) dX12_rest_127 rfl ?_
                refine e_iload dX12_rest_128 rfl ?_
                refine z_imul dX12_rest_130 ?_
                refine e_iload dX12_rest_131 rfl ?_
                refine z_icmp_lt 140 dX12_rest_133 rfl ⟨by omega, by omega⟩ ⟨by omega, by omega⟩ (fun c13 => ?_) (fun c13 => ?_)
                · skip
                  refine z_iconst (1) dX12_rest_140 rfl ?_
                  refine e_goto 145 dX12_rest_141 rfl ?_
                  refine z_iret dX12_rest_145 rfl ⟨rfl, ?_⟩
                  refine kq _ ?_ _ FR5
                  first | exact Or.inr ⟨by omega, rfl⟩ | exact Or.inl ⟨by omega, by omega, Or.inr (Or.inr (Or.inl ⟨by omega, Or.inr ⟨by omega, ⟨by assumption, by omega⟩, I5⟩⟩))⟩ | exact Or.inl ⟨by omega, by omega, Or.inl ⟨by omega, by rw [I3, show i = 441 by omega]⟩⟩ | exact Or.inl ⟨by omega, by omega, Or.inr (Or.inl ⟨by omega, by rw [show i = 441 by omega] at I3 I4; unfold rsM; have z1 : rsN c d 441 = rsA c d 441 + rsB c d 441 := rs_sum c d 441; have z2 := rsA_b (c := c) (d := d) (show 0 ≤ 441 by omega); have z3 := rsB_b (c := c) (d := d) (show 0 ≤ 441 by omega); first | rw [if_pos (by omega)] | (rw [if_neg (by omega), if_pos (by omega)]) | (rw [if_neg (by omega), if_neg (by omega)])⟩)⟩ | exact Or.inl ⟨by omega, by omega, Or.inr (Or.inr (Or.inr ⟨by omega, rfl⟩))⟩ | exact Or.inl ⟨by omega, by omega, Or.inr (Or.inr (Or.inl ⟨by omega, Or.inl ⟨rfl, fun j a z => I5 j a (by omega)⟩⟩))⟩
                · skip
                  refine z_iconst (0) dX12_rest_136 rfl ?_
                  refine e_goto 145 dX12_rest_137 rfl ?_
                  refine z_iret dX12_rest_145 rfl ⟨rfl, ?_⟩
                  refine kq _ ?_ _ FR5
                  first | exact Or.inr ⟨by omega, rfl⟩ | exact Or.inl ⟨by omega, by omega, Or.inr (Or.inr (Or.inl ⟨by omega, Or.inr ⟨by omega, ⟨by assumption, by omega⟩, I5⟩⟩))⟩ | exact Or.inl ⟨by omega, by omega, Or.inl ⟨by omega, by rw [I3, show i = 441 by omega]⟩⟩ | exact Or.inl ⟨by omega, by omega, Or.inr (Or.inl ⟨by omega, by rw [show i = 441 by omega] at I3 I4; unfold rsM; have z1 : rsN c d 441 = rsA c d 441 + rsB c d 441 := rs_sum c d 441; have z2 := rsA_b (c := c) (d := d) (show 0 ≤ 441 by omega); have z3 := rsB_b (c := c) (d := d) (show 0 ≤ 441 by omega); first | rw [if_pos (by omega)] | (rw [if_neg (by omega), if_pos (by omega)]) | (rw [if_neg (by omega), if_neg (by omega)])⟩)⟩ | exact Or.inl ⟨by omega, by omega, Or.inr (Or.inr (Or.inr ⟨by omega, rfl⟩))⟩ | exact Or.inl ⟨by omega, by omega, Or.inr (Or.inr (Or.inl ⟨by omega, Or.inl ⟨rfl, fun j a z => I5 j a (by omega)⟩⟩))⟩
          · skip
            refine e_iload dX12_rest_111 rfl ?_
            refine e_goto 145 dX12_rest_113 rfl ?_
            refine z_iret dX12_rest_145 rfl ⟨rfl, ?_⟩
            refine kq _ ?_ _ FR5
            first | exact Or.inr ⟨by omega, rfl⟩ | exact Or.inl ⟨by omega, by omega, Or.inr (Or.inr (Or.inl ⟨by omega, Or.inr ⟨by omega, ⟨by assumption, by omega⟩, I5⟩⟩))⟩ | exact Or.inl ⟨by omega, by omega, Or.inl ⟨by omega, by rw [I3, show i = 441 by omega]⟩⟩ | exact Or.inl ⟨by omega, by omega, Or.inr (Or.inl ⟨by omega, by rw [show i = 441 by omega] at I3 I4; unfold rsM; have z1 : rsN c d 441 = rsA c d 441 + rsB c d 441 := rs_sum c d 441; have z2 := rsA_b (c := c) (d := d) (show 0 ≤ 441 by omega); have z3 := rsB_b (c := c) (d := d) (show 0 ≤ 441 by omega); first | rw [if_pos (by omega)] | (rw [if_neg (by omega), if_pos (by omega)]) | (rw [if_neg (by omega), if_neg (by omega)])⟩)⟩ | exact Or.inl ⟨by omega, by omega, Or.inr (Or.inr (Or.inr ⟨by omega, rfl⟩))⟩ | exact Or.inl ⟨by omega, by omega, Or.inr (Or.inr (Or.inl ⟨by omega, Or.inl ⟨rfl, fun j a z => I5 j a (by omega)⟩⟩))⟩
        · skip
          have n1 := rsN_b (c := c) (d := d) I1
          have n2 := rsA_b (c := c) (d := d) I1
          refine e_iload_n dX12_rest_44 rfl ?_
          refine e_iload_n dX12_rest_45 rfl ?_
          refine e_iload dX12_rest_46 rfl ?_
          refine z_bipush (21) dX12_rest_48 rfl ?_
          refine z_idiv dX12_rest_50 (by omega) (by omega) (by omega) (by omega) ?_
          refine e_iload dX12_rest_51 rfl ?_
          refine z_bipush (21) dX12_rest_53 rfl ?_
          refine z_irem dX12_rest_55 (by omega) (by omega) (by omega) (by omega) ?_
          refine e_callS [.int _, .int _, .int _, .int _] dX12_rest_56 tm_12_498 rfl (Nat.le_of_ble_eq_true rfl) (Nat.le_refl _) (Nat.le_refl _) rfl (zp_X12_isRest c ⟨by omega, by omega⟩ d ⟨by omega, by omega⟩ (i / 21) ⟨by omega, by omega⟩ (i % 21) ⟨by omega, by omega⟩ (by omega) (by omega) (by omega) (by omega) ?_)
          refine z_ifb_eq 100 dX12_rest_59 rfl (fun c14 => ?_) (fun c14 => ?_)
          · skip
            refine z_iinc (L' := [_, _, _, _, _, _, _]) dX12_rest_100 rfl rfl ?_
            refine e_goto 36 dX12_rest_103 rfl ?_
            exact ih8 _ (by omega) n o (i + 1)  rfl  (by omega) (by omega) (by rw [rsN_s (by omega)]; first | (rw [bZ_1 (by assumption)]; omega) | (rw [bZ_0 (by assumption)]; omega) | (rw [bZ_1 ⟨by assumption, by omega⟩]; omega) | (rw [bZ_0 (fun q => absurd q.1 (by assumption))]; omega) | (rw [bZ_0 (fun q => absurd q.2 (by omega))]; omega)) (by rw [rsA_s (by omega)]; first | (rw [bZ_1 (by assumption)]; omega) | (rw [bZ_0 (by assumption)]; omega) | (rw [bZ_1 ⟨by assumption, by omega⟩]; omega) | (rw [bZ_0 (fun q => absurd q.1 (by assumption))]; omega) | (rw [bZ_0 (fun q => absurd q.2 (by omega))]; omega)) (allS (P := fun j => rsP c d j ∧ rsN c d j = k) I5 (by rintro ⟨q1, q2⟩; first | exact absurd q1 (by assumption) | omega))
          · skip
            refine e_iload dX12_rest_62 rfl ?_
            refine e_iload_n dX12_rest_64 rfl ?_
            refine z_icmp_ne 71 dX12_rest_65 rfl ⟨by omega, by omega⟩ ⟨by omega, by omega⟩ (fun c15 => ?_) (fun c15 => ?_)
            · skip
              refine z_iinc (L' := [_, _, _, _, _, _, _]) dX12_rest_71 rfl rfl ?_
              refine e_iload dX12_rest_74 rfl ?_
              refine e_iload dX12_rest_76 rfl ?_
              refine z_bipush (21) dX12_rest_78 rfl ?_
              refine z_idiv dX12_rest_80 (by omega) (by omega) (by omega) (by omega) ?_
              refine e_iload dX12_rest_81 rfl ?_
              refine z_bipush (21) dX12_rest_83 rfl ?_
              refine z_irem dX12_rest_85 (by omega) (by omega) (by omega) (by omega) ?_
              refine e_callS [.int _, .int _] dX12_rest_86 tm_12_495 rfl (Nat.le_of_ble_eq_true rfl) (Nat.le_refl _) (Nat.le_refl _) rfl (zp_X12_sellsFirst (i / 21) ⟨by omega, by omega⟩ (i % 21) ⟨by omega, by omega⟩ ?_)
              refine z_ifb_eq 96 dX12_rest_89 rfl (fun c16 => ?_) (fun c16 => ?_)
              · skip
                refine z_iconst (0) dX12_rest_96 rfl ?_
                refine z_iadd dX12_rest_97 ?_
                refine e_istore (L' := [_, _, _, _, _, _, _]) dX12_rest_98 (Nat.le_of_ble_eq_true rfl) rfl ?_
                refine z_iinc (L' := [_, _, _, _, _, _, _]) dX12_rest_100 rfl rfl ?_
                refine e_goto 36 dX12_rest_103 rfl ?_
                exact ih8 _ (by omega) (n + 1) (o + 0) (i + 1)  rfl  (by omega) (by omega) (by rw [rsN_s (by omega)]; first | (rw [bZ_1 (by assumption)]; omega) | (rw [bZ_0 (by assumption)]; omega) | (rw [bZ_1 ⟨by assumption, by omega⟩]; omega) | (rw [bZ_0 (fun q => absurd q.1 (by assumption))]; omega) | (rw [bZ_0 (fun q => absurd q.2 (by omega))]; omega)) (by rw [rsA_s (by omega)]; first | (rw [bZ_1 (by assumption)]; omega) | (rw [bZ_0 (by assumption)]; omega) | (rw [bZ_1 ⟨by assumption, by omega⟩]; omega) | (rw [bZ_0 (fun q => absurd q.1 (by assumption))]; omega) | (rw [bZ_0 (fun q => absurd q.2 (by omega))]; omega)) (allS (P := fun j => rsP c d j ∧ rsN c d j = k) I5 (by rintro ⟨q1, q2⟩; first | exact absurd q1 (by assumption) | omega))
              · skip
                refine z_iconst (1) dX12_rest_92 rfl ?_
                refine e_goto 97 dX12_rest_93 rfl ?_
                refine z_iadd dX12_rest_97 ?_
                refine e_istore (L' := [_, _, _, _, _, _, _]) dX12_rest_98 (Nat.le_of_ble_eq_true rfl) rfl ?_
                refine z_iinc (L' := [_, _, _, _, _, _, _]) dX12_rest_100 rfl rfl ?_
                refine e_goto 36 dX12_rest_103 rfl ?_
                exact ih8 _ (by omega) (n + 1) (o + 1) (i + 1)  rfl  (by omega) (by omega) (by rw [rsN_s (by omega)]; first | (rw [bZ_1 (by assumption)]; omega) | (rw [bZ_0 (by assumption)]; omega) | (rw [bZ_1 ⟨by assumption, by omega⟩]; omega) | (rw [bZ_0 (fun q => absurd q.1 (by assumption))]; omega) | (rw [bZ_0 (fun q => absurd q.2 (by omega))]; omega)) (by rw [rsA_s (by omega)]; first | (rw [bZ_1 (by assumption)]; omega) | (rw [bZ_0 (by assumption)]; omega) | (rw [bZ_1 ⟨by assumption, by omega⟩]; omega) | (rw [bZ_0 (fun q => absurd q.1 (by assumption))]; omega) | (rw [bZ_0 (fun q => absurd q.2 (by omega))]; omega)) (allS (P := fun j => rsP c d j ∧ rsN c d j = k) I5 (by rintro ⟨q1, q2⟩; first | exact absurd q1 (by assumption) | omega))
            · skip
              refine e_iload dX12_rest_68 rfl ?_
              refine z_iret dX12_rest_70 rfl ⟨rfl, ?_⟩
              refine kq _ ?_ _ FR5
              first | exact Or.inr ⟨by omega, rfl⟩ | exact Or.inl ⟨by omega, by omega, Or.inr (Or.inr (Or.inl ⟨by omega, Or.inr ⟨by omega, ⟨by assumption, by omega⟩, I5⟩⟩))⟩ | exact Or.inl ⟨by omega, by omega, Or.inl ⟨by omega, by rw [I3, show i = 441 by omega]⟩⟩ | exact Or.inl ⟨by omega, by omega, Or.inr (Or.inl ⟨by omega, by rw [show i = 441 by omega] at I3 I4; unfold rsM; have z1 : rsN c d 441 = rsA c d 441 + rsB c d 441 := rs_sum c d 441; have z2 := rsA_b (c := c) (d := d) (show 0 ≤ 441 by omega); have z3 := rsB_b (c := c) (d := d) (show 0 ≤ 441 by omega); first | rw [if_pos (by omega)] | (rw [if_neg (by omega), if_pos (by omega)]) | (rw [if_neg (by omega), if_neg (by omega)])⟩)⟩ | exact Or.inl ⟨by omega, by omega, Or.inr (Or.inr (Or.inr ⟨by omega, rfl⟩))⟩ | exact Or.inl ⟨by omega, by omega, Or.inr (Or.inr (Or.inl ⟨by omega, Or.inl ⟨rfl, fun j a z => I5 j a (by omega)⟩⟩))⟩
      exact lp8 _ 0 0 0  rfl  (by omega) (by omega) rfl rfl (fun j a z => by omega)
    · skip
      refine z_iconst (-1) dX12_rest_25 rfl ?_
      refine z_iret dX12_rest_26 rfl ⟨rfl, ?_⟩
      refine kq _ ?_ _ FR5
      first | exact rsZ_n (by omega) | exact rsZ_m (by omega) (by omega) (show n = rsN c d 441 by rw [I3, show i = 441 by omega]) (fun j a w => I5 j a (by omega)) (by omega) (by omega)
theorem op16 {ad : mA} {B : Nat} : op_16 ad B (Inv B) := by
  intro a b c 
  rw [← zI_toInt a]
  rw [← zI_toInt b]
  rw [← zI_toInt c]
  have ra := in_of a
  generalize a.toInt = a at *
  have rb := in_of b
  generalize b.toInt = b at *
  have rc := in_of c
  generalize c.toInt = c at *
  refine opq_I (fun σ r => rsZ a b c r) (fun σ r r' x y => rsZ_u x y) (fun h σ hk HX Q kq => ?_) (fun h σ hr HR Q kq => ?_)
  · exact zp_X11_rest hk a ra b rb c rc (fun v p h1 f => kq v h1 f p)
  · exact zp_X12_rest hr a ra b rb c rc (fun v p h1 f => kq v h1 f p)

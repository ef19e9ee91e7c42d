/-! THE REFERENCE'S YEAR: deeds, a year, till, state -/
theorem dX12_does_0 : decode cX12_does 0 = .ok (.iload_n 1, 1) := by decide +kernel
theorem dX12_does_1 : decode cX12_does 1 = .ok (.bipush 6, 2) := by decide +kernel
theorem dX12_does_3 : decode cX12_does 3 = .ok (.if_icmp .eq 8, 3) := by decide +kernel
theorem dX12_does_6 : decode cX12_does 6 = .ok (.iload_n 1, 1) := by decide +kernel
theorem dX12_does_7 : decode cX12_does 7 = .ok (.iconst 4, 1) := by decide +kernel
theorem dX12_does_8 : decode cX12_does 8 = .ok (.if_icmp .ne 23, 3) := by decide +kernel
theorem dX12_does_11 : decode cX12_does 11 = .ok (.iload_n 1, 1) := by decide +kernel
theorem dX12_does_12 : decode cX12_does 12 = .ok (.bipush 6, 2) := by decide +kernel
theorem dX12_does_14 : decode cX12_does 14 = .ok (.if_icmp .ne 10, 3) := by decide +kernel
theorem dX12_does_17 : decode cX12_does 17 = .ok (.aload_n 0, 1) := by decide +kernel
theorem dX12_does_18 : decode cX12_does 18 = .ok (.invokevirtual 343, 3) := by decide +kernel
theorem dX12_does_21 : decode cX12_does 21 = .ok (.goto 9, 3) := by decide +kernel
theorem dX12_does_24 : decode cX12_does 24 = .ok (.aload_n 0, 1) := by decide +kernel
theorem dX12_does_25 : decode cX12_does 25 = .ok (.iload_n 2, 1) := by decide +kernel
theorem dX12_does_26 : decode cX12_does 26 = .ok (.iload_n 3, 1) := by decide +kernel
theorem dX12_does_27 : decode cX12_does 27 = .ok (.invokevirtual 346, 3) := by decide +kernel
theorem dX12_does_30 : decode cX12_does 30 = .ok (.ireturn, 1) := by decide +kernel
theorem dX12_does_31 : decode cX12_does 31 = .ok (.aload_n 0, 1) := by decide +kernel
theorem dX12_does_32 : decode cX12_does 32 = .ok (.iload_n 2, 1) := by decide +kernel
theorem dX12_does_33 : decode cX12_does 33 = .ok (.invokevirtual 295, 3) := by decide +kernel
theorem dX12_does_36 : decode cX12_does 36 = .ok (.ifCond .ne 5, 3) := by decide +kernel
theorem dX12_does_39 : decode cX12_does 39 = .ok (.iconst 0, 1) := by decide +kernel
theorem dX12_does_40 : decode cX12_does 40 = .ok (.ireturn, 1) := by decide +kernel
theorem dX12_does_41 : decode cX12_does 41 = .ok (.iload_n 1, 1) := by decide +kernel
theorem dX12_does_42 : decode cX12_does 42 = .ok (.tableswitch 56 0 3 #[30, 37, 43, 49], 30) := by decide +kernel
theorem dX12_does_72 : decode cX12_does 72 = .ok (.aload_n 0, 1) := by decide +kernel
theorem dX12_does_73 : decode cX12_does 73 = .ok (.iload_n 2, 1) := by decide +kernel
theorem dX12_does_74 : decode cX12_does 74 = .ok (.iload_n 3, 1) := by decide +kernel
theorem dX12_does_75 : decode cX12_does 75 = .ok (.invokevirtual 349, 3) := by decide +kernel
theorem dX12_does_78 : decode cX12_does 78 = .ok (.ireturn, 1) := by decide +kernel
theorem dX12_does_79 : decode cX12_does 79 = .ok (.aload_n 0, 1) := by decide +kernel
theorem dX12_does_80 : decode cX12_does 80 = .ok (.iload_n 2, 1) := by decide +kernel
theorem dX12_does_81 : decode cX12_does 81 = .ok (.invokevirtual 352, 3) := by decide +kernel
theorem dX12_does_84 : decode cX12_does 84 = .ok (.ireturn, 1) := by decide +kernel
theorem dX12_does_85 : decode cX12_does 85 = .ok (.aload_n 0, 1) := by decide +kernel
theorem dX12_does_86 : decode cX12_does 86 = .ok (.iload_n 2, 1) := by decide +kernel
theorem dX12_does_87 : decode cX12_does 87 = .ok (.invokevirtual 355, 3) := by decide +kernel
theorem dX12_does_90 : decode cX12_does 90 = .ok (.ireturn, 1) := by decide +kernel
theorem dX12_does_91 : decode cX12_does 91 = .ok (.aload_n 0, 1) := by decide +kernel
theorem dX12_does_92 : decode cX12_does 92 = .ok (.iload_n 2, 1) := by decide +kernel
theorem dX12_does_93 : decode cX12_does 93 = .ok (.iload_n 3, 1) := by decide +kernel
theorem dX12_does_94 : decode cX12_does 94 = .ok (.invokevirtual 358, 3) := by decide +kernel
theorem dX12_does_97 : decode cX12_does 97 = .ok (.ireturn, 1) := by decide +kernel
theorem dX12_does_98 : decode cX12_does 98 = .ok (.aload_n 0, 1) := by decide +kernel
theorem dX12_does_99 : decode cX12_does 99 = .ok (.iload_n 2, 1) := by decide +kernel
theorem dX12_does_100 : decode cX12_does 100 = .ok (.invokevirtual 361, 3) := by decide +kernel
theorem dX12_does_103 : decode cX12_does 103 = .ok (.ireturn, 1) := by decide +kernel
theorem dX12_play_0 : decode cX12_play 0 = .ok (.aload_n 0, 1) := by decide +kernel
theorem dX12_play_1 : decode cX12_play 1 = .ok (.invokevirtual 364, 3) := by decide +kernel
theorem dX12_play_4 : decode cX12_play 4 = .ok (.iconst 0, 1) := by decide +kernel
theorem dX12_play_5 : decode cX12_play 5 = .ok (.istore_n 2, 1) := by decide +kernel
theorem dX12_play_6 : decode cX12_play 6 = .ok (.iload_n 2, 1) := by decide +kernel
theorem dX12_play_7 : decode cX12_play 7 = .ok (.iload_n 1, 1) := by decide +kernel
theorem dX12_play_8 : decode cX12_play 8 = .ok (.if_icmp .ge 34, 3) := by decide +kernel
theorem dX12_play_11 : decode cX12_play 11 = .ok (.aload_n 0, 1) := by decide +kernel
theorem dX12_play_12 : decode cX12_play 12 = .ok (.aload_n 0, 1) := by decide +kernel
theorem dX12_play_13 : decode cX12_play 13 = .ok (.iload_n 2, 1) := by decide +kernel
theorem dX12_play_14 : decode cX12_play 14 = .ok (.iconst 0, 1) := by decide +kernel
theorem dX12_play_15 : decode cX12_play 15 = .ok (.invokevirtual 310, 3) := by decide +kernel
theorem dX12_play_18 : decode cX12_play 18 = .ok (.aload_n 0, 1) := by decide +kernel
theorem dX12_play_19 : decode cX12_play 19 = .ok (.iload_n 2, 1) := by decide +kernel
theorem dX12_play_20 : decode cX12_play 20 = .ok (.iconst 1, 1) := by decide +kernel
theorem dX12_play_21 : decode cX12_play 21 = .ok (.invokevirtual 310, 3) := by decide +kernel
theorem dX12_play_24 : decode cX12_play 24 = .ok (.aload_n 0, 1) := by decide +kernel
theorem dX12_play_25 : decode cX12_play 25 = .ok (.iload_n 2, 1) := by decide +kernel
theorem dX12_play_26 : decode cX12_play 26 = .ok (.iconst 2, 1) := by decide +kernel
theorem dX12_play_27 : decode cX12_play 27 = .ok (.invokevirtual 310, 3) := by decide +kernel
theorem dX12_play_30 : decode cX12_play 30 = .ok (.invokevirtual 367, 3) := by decide +kernel
theorem dX12_play_33 : decode cX12_play 33 = .ok (.ifCond .eq 9, 3) := by decide +kernel
theorem dX12_play_36 : decode cX12_play 36 = .ok (.iinc 2 1, 3) := by decide +kernel
theorem dX12_play_39 : decode cX12_play 39 = .ok (.goto (-33), 3) := by decide +kernel
theorem dX12_play_42 : decode cX12_play 42 = .ok (.iload_n 2, 1) := by decide +kernel
theorem dX12_play_43 : decode cX12_play 43 = .ok (.ireturn, 1) := by decide +kernel
theorem dX12_layAll_0 : decode cX12_layAll 0 = .ok (.aload_n 0, 1) := by decide +kernel
theorem dX12_layAll_1 : decode cX12_layAll 1 = .ok (.iload_n 2, 1) := by decide +kernel
theorem dX12_layAll_2 : decode cX12_layAll 2 = .ok (.invokevirtual 304, 3) := by decide +kernel
theorem dX12_layAll_5 : decode cX12_layAll 5 = .ok (.ifCond .eq 15, 3) := by decide +kernel
theorem dX12_layAll_8 : decode cX12_layAll 8 = .ok (.aload_n 0, 1) := by decide +kernel
theorem dX12_layAll_9 : decode cX12_layAll 9 = .ok (.iload_n 1, 1) := by decide +kernel
theorem dX12_layAll_10 : decode cX12_layAll 10 = .ok (.invokevirtual 292, 3) := by decide +kernel
theorem dX12_layAll_13 : decode cX12_layAll 13 = .ok (.ifCond .eq 7, 3) := by decide +kernel
theorem dX12_layAll_16 : decode cX12_layAll 16 = .ok (.iconst 1, 1) := by decide +kernel
theorem dX12_layAll_17 : decode cX12_layAll 17 = .ok (.goto 4, 3) := by decide +kernel
theorem dX12_layAll_20 : decode cX12_layAll 20 = .ok (.iconst 0, 1) := by decide +kernel
theorem dX12_layAll_21 : decode cX12_layAll 21 = .ok (.ireturn, 1) := by decide +kernel
theorem dX12_till_0 : decode cX12_till 0 = .ok (.aload_n 0, 1) := by decide +kernel
theorem dX12_till_1 : decode cX12_till 1 = .ok (.iconst 0, 1) := by decide +kernel
theorem dX12_till_2 : decode cX12_till 2 = .ok (.putfield 103, 3) := by decide +kernel
theorem dX12_till_5 : decode cX12_till 5 = .ok (.aload_n 0, 1) := by decide +kernel
theorem dX12_till_6 : decode cX12_till 6 = .ok (.iload_n 1, 1) := by decide +kernel
theorem dX12_till_7 : decode cX12_till 7 = .ok (.iload_n 2, 1) := by decide +kernel
theorem dX12_till_8 : decode cX12_till 8 = .ok (.invokevirtual 370, 3) := by decide +kernel
theorem dX12_till_11 : decode cX12_till 11 = .ok (.ifCond .eq 14, 3) := by decide +kernel
theorem dX12_till_14 : decode cX12_till 14 = .ok (.aload_n 0, 1) := by decide +kernel
theorem dX12_till_15 : decode cX12_till 15 = .ok (.aload_n 0, 1) := by decide +kernel
theorem dX12_till_16 : decode cX12_till 16 = .ok (.invokevirtual 307, 3) := by decide +kernel
theorem dX12_till_19 : decode cX12_till 19 = .ok (.invokevirtual 373, 3) := by decide +kernel
theorem dX12_till_22 : decode cX12_till 22 = .ok (.goto 4, 3) := by decide +kernel
theorem dX12_till_25 : decode cX12_till 25 = .ok (.iconst (-1), 1) := by decide +kernel
theorem dX12_till_26 : decode cX12_till 26 = .ok (.ireturn, 1) := by decide +kernel
theorem dX12_ofState_0 : decode cX12_ofState 0 = .ok (.iload_n 1, 1) := by decide +kernel
theorem dX12_ofState_1 : decode cX12_ofState 1 = .ok (.bipush 10, 2) := by decide +kernel
theorem dX12_ofState_3 : decode cX12_ofState 3 = .ok (.irem, 1) := by decide +kernel
theorem dX12_ofState_4 : decode cX12_ofState 4 = .ok (.istore_n 2, 1) := by decide +kernel
theorem dX12_ofState_5 : decode cX12_ofState 5 = .ok (.iload_n 1, 1) := by decide +kernel
theorem dX12_ofState_6 : decode cX12_ofState 6 = .ok (.bipush 10, 2) := by decide +kernel
theorem dX12_ofState_8 : decode cX12_ofState 8 = .ok (.idiv, 1) := by decide +kernel
theorem dX12_ofState_9 : decode cX12_ofState 9 = .ok (.tableswitch 141 1 5 #[35, 55, 75, 95, 118], 35) := by decide +kernel
theorem dX12_ofState_44 : decode cX12_ofState 44 = .ok (.aload_n 0, 1) := by decide +kernel
theorem dX12_ofState_45 : decode cX12_ofState 45 = .ok (.iload_n 2, 1) := by decide +kernel
theorem dX12_ofState_46 : decode cX12_ofState 46 = .ok (.invokevirtual 295, 3) := by decide +kernel
theorem dX12_ofState_49 : decode cX12_ofState 49 = .ok (.ifCond .eq 12, 3) := by decide +kernel
theorem dX12_ofState_52 : decode cX12_ofState 52 = .ok (.aload_n 0, 1) := by decide +kernel
theorem dX12_ofState_53 : decode cX12_ofState 53 = .ok (.getfield 47, 3) := by decide +kernel
theorem dX12_ofState_56 : decode cX12_ofState 56 = .ok (.iload_n 2, 1) := by decide +kernel
theorem dX12_ofState_57 : decode cX12_ofState 57 = .ok (.iaload, 1) := by decide +kernel
theorem dX12_ofState_58 : decode cX12_ofState 58 = .ok (.goto 5, 3) := by decide +kernel
theorem dX12_ofState_61 : decode cX12_ofState 61 = .ok (.bipush (-2), 2) := by decide +kernel
theorem dX12_ofState_63 : decode cX12_ofState 63 = .ok (.ireturn, 1) := by decide +kernel
theorem dX12_ofState_64 : decode cX12_ofState 64 = .ok (.aload_n 0, 1) := by decide +kernel
theorem dX12_ofState_65 : decode cX12_ofState 65 = .ok (.iload_n 2, 1) := by decide +kernel
theorem dX12_ofState_66 : decode cX12_ofState 66 = .ok (.invokevirtual 295, 3) := by decide +kernel
theorem dX12_ofState_69 : decode cX12_ofState 69 = .ok (.ifCond .eq 12, 3) := by decide +kernel
theorem dX12_ofState_72 : decode cX12_ofState 72 = .ok (.aload_n 0, 1) := by decide +kernel
theorem dX12_ofState_73 : decode cX12_ofState 73 = .ok (.getfield 41, 3) := by decide +kernel
theorem dX12_ofState_76 : decode cX12_ofState 76 = .ok (.iload_n 2, 1) := by decide +kernel
theorem dX12_ofState_77 : decode cX12_ofState 77 = .ok (.iaload, 1) := by decide +kernel
theorem dX12_ofState_78 : decode cX12_ofState 78 = .ok (.goto 5, 3) := by decide +kernel
theorem dX12_ofState_81 : decode cX12_ofState 81 = .ok (.bipush (-2), 2) := by decide +kernel
theorem dX12_ofState_83 : decode cX12_ofState 83 = .ok (.ireturn, 1) := by decide +kernel
theorem dX12_ofState_84 : decode cX12_ofState 84 = .ok (.aload_n 0, 1) := by decide +kernel
theorem dX12_ofState_85 : decode cX12_ofState 85 = .ok (.iload_n 2, 1) := by decide +kernel
theorem dX12_ofState_86 : decode cX12_ofState 86 = .ok (.invokevirtual 295, 3) := by decide +kernel
theorem dX12_ofState_89 : decode cX12_ofState 89 = .ok (.ifCond .eq 12, 3) := by decide +kernel
theorem dX12_ofState_92 : decode cX12_ofState 92 = .ok (.aload_n 0, 1) := by decide +kernel
theorem dX12_ofState_93 : decode cX12_ofState 93 = .ok (.getfield 53, 3) := by decide +kernel
theorem dX12_ofState_96 : decode cX12_ofState 96 = .ok (.iload_n 2, 1) := by decide +kernel
theorem dX12_ofState_97 : decode cX12_ofState 97 = .ok (.iaload, 1) := by decide +kernel
theorem dX12_ofState_98 : decode cX12_ofState 98 = .ok (.goto 5, 3) := by decide +kernel
theorem dX12_ofState_101 : decode cX12_ofState 101 = .ok (.bipush (-2), 2) := by decide +kernel
theorem dX12_ofState_103 : decode cX12_ofState 103 = .ok (.ireturn, 1) := by decide +kernel
theorem dX12_ofState_104 : decode cX12_ofState 104 = .ok (.aload_n 0, 1) := by decide +kernel
theorem dX12_ofState_105 : decode cX12_ofState 105 = .ok (.iload_n 2, 1) := by decide +kernel
theorem dX12_ofState_106 : decode cX12_ofState 106 = .ok (.invokevirtual 298, 3) := by decide +kernel
theorem dX12_ofState_109 : decode cX12_ofState 109 = .ok (.ifCond .eq 15, 3) := by decide +kernel
theorem dX12_ofState_112 : decode cX12_ofState 112 = .ok (.aload_n 0, 1) := by decide +kernel
theorem dX12_ofState_113 : decode cX12_ofState 113 = .ok (.getfield 47, 3) := by decide +kernel
theorem dX12_ofState_116 : decode cX12_ofState 116 = .ok (.bipush 6, 2) := by decide +kernel
theorem dX12_ofState_118 : decode cX12_ofState 118 = .ok (.iload_n 2, 1) := by decide +kernel
theorem dX12_ofState_119 : decode cX12_ofState 119 = .ok (.iadd, 1) := by decide +kernel
theorem dX12_ofState_120 : decode cX12_ofState 120 = .ok (.iaload, 1) := by decide +kernel
theorem dX12_ofState_121 : decode cX12_ofState 121 = .ok (.goto 5, 3) := by decide +kernel
theorem dX12_ofState_124 : decode cX12_ofState 124 = .ok (.bipush (-2), 2) := by decide +kernel
theorem dX12_ofState_126 : decode cX12_ofState 126 = .ok (.ireturn, 1) := by decide +kernel
theorem dX12_ofState_127 : decode cX12_ofState 127 = .ok (.aload_n 0, 1) := by decide +kernel
theorem dX12_ofState_128 : decode cX12_ofState 128 = .ok (.iload_n 2, 1) := by decide +kernel
theorem dX12_ofState_129 : decode cX12_ofState 129 = .ok (.invokevirtual 298, 3) := by decide +kernel
theorem dX12_ofState_132 : decode cX12_ofState 132 = .ok (.ifCond .eq 15, 3) := by decide +kernel
theorem dX12_ofState_135 : decode cX12_ofState 135 = .ok (.aload_n 0, 1) := by decide +kernel
theorem dX12_ofState_136 : decode cX12_ofState 136 = .ok (.getfield 41, 3) := by decide +kernel
theorem dX12_ofState_139 : decode cX12_ofState 139 = .ok (.bipush 6, 2) := by decide +kernel
theorem dX12_ofState_141 : decode cX12_ofState 141 = .ok (.iload_n 2, 1) := by decide +kernel
theorem dX12_ofState_142 : decode cX12_ofState 142 = .ok (.iadd, 1) := by decide +kernel
theorem dX12_ofState_143 : decode cX12_ofState 143 = .ok (.iaload, 1) := by decide +kernel
theorem dX12_ofState_144 : decode cX12_ofState 144 = .ok (.goto 5, 3) := by decide +kernel
theorem dX12_ofState_147 : decode cX12_ofState 147 = .ok (.bipush (-2), 2) := by decide +kernel
theorem dX12_ofState_149 : decode cX12_ofState 149 = .ok (.ireturn, 1) := by decide +kernel
theorem dX12_ofState_150 : decode cX12_ofState 150 = .ok (.aload_n 0, 1) := by decide +kernel
theorem dX12_ofState_151 : decode cX12_ofState 151 = .ok (.iload_n 1, 1) := by decide +kernel
theorem dX12_ofState_152 : decode cX12_ofState 152 = .ok (.invokevirtual 376, 3) := by decide +kernel
theorem dX12_ofState_155 : decode cX12_ofState 155 = .ok (.ireturn, 1) := by decide +kernel
theorem dX12_ofYear_0 : decode cX12_ofYear 0 = .ok (.iload_n 1, 1) := by decide +kernel
theorem dX12_ofYear_1 : decode cX12_ofYear 1 = .ok (.tableswitch 63 0 4 #[35, 40, 45, 50, 55], 35) := by decide +kernel
theorem dX12_ofYear_36 : decode cX12_ofYear 36 = .ok (.aload_n 0, 1) := by decide +kernel
theorem dX12_ofYear_37 : decode cX12_ofYear 37 = .ok (.getfield 313, 3) := by decide +kernel
theorem dX12_ofYear_40 : decode cX12_ofYear 40 = .ok (.ireturn, 1) := by decide +kernel
theorem dX12_ofYear_41 : decode cX12_ofYear 41 = .ok (.aload_n 0, 1) := by decide +kernel
theorem dX12_ofYear_42 : decode cX12_ofYear 42 = .ok (.getfield 316, 3) := by decide +kernel
theorem dX12_ofYear_45 : decode cX12_ofYear 45 = .ok (.ireturn, 1) := by decide +kernel
theorem dX12_ofYear_46 : decode cX12_ofYear 46 = .ok (.aload_n 0, 1) := by decide +kernel
theorem dX12_ofYear_47 : decode cX12_ofYear 47 = .ok (.getfield 319, 3) := by decide +kernel
theorem dX12_ofYear_50 : decode cX12_ofYear 50 = .ok (.ireturn, 1) := by decide +kernel
theorem dX12_ofYear_51 : decode cX12_ofYear 51 = .ok (.aload_n 0, 1) := by decide +kernel
theorem dX12_ofYear_52 : decode cX12_ofYear 52 = .ok (.getfield 322, 3) := by decide +kernel
theorem dX12_ofYear_55 : decode cX12_ofYear 55 = .ok (.ireturn, 1) := by decide +kernel
theorem dX12_ofYear_56 : decode cX12_ofYear 56 = .ok (.aload_n 0, 1) := by decide +kernel
theorem dX12_ofYear_57 : decode cX12_ofYear 57 = .ok (.getfield 325, 3) := by decide +kernel
theorem dX12_ofYear_60 : decode cX12_ofYear 60 = .ok (.bipush 63, 2) := by decide +kernel
theorem dX12_ofYear_62 : decode cX12_ofYear 62 = .ok (.iand, 1) := by decide +kernel
theorem dX12_ofYear_63 : decode cX12_ofYear 63 = .ok (.ireturn, 1) := by decide +kernel
theorem dX12_ofYear_64 : decode cX12_ofYear 64 = .ok (.bipush (-2), 2) := by decide +kernel
theorem dX12_ofYear_66 : decode cX12_ofYear 66 = .ok (.ireturn, 1) := by decide +kernel
theorem dX12_state_0 : decode cX12_state 0 = .ok (.aload_n 0, 1) := by decide +kernel
theorem dX12_state_1 : decode cX12_state 1 = .ok (.iconst 0, 1) := by decide +kernel
theorem dX12_state_2 : decode cX12_state 2 = .ok (.putfield 103, 3) := by decide +kernel
theorem dX12_state_5 : decode cX12_state 5 = .ok (.aload_n 0, 1) := by decide +kernel
theorem dX12_state_6 : decode cX12_state 6 = .ok (.iload_n 1, 1) := by decide +kernel
theorem dX12_state_7 : decode cX12_state 7 = .ok (.iload_n 2, 1) := by decide +kernel
theorem dX12_state_8 : decode cX12_state 8 = .ok (.invokevirtual 370, 3) := by decide +kernel
theorem dX12_state_11 : decode cX12_state 11 = .ok (.ifCond .eq 33, 3) := by decide +kernel
theorem dX12_state_14 : decode cX12_state 14 = .ok (.iload_n 3, 1) := by decide +kernel
theorem dX12_state_15 : decode cX12_state 15 = .ok (.iconst 0, 1) := by decide +kernel
theorem dX12_state_16 : decode cX12_state 16 = .ok (.aload_n 0, 1) := by decide +kernel
theorem dX12_state_17 : decode cX12_state 17 = .ok (.invokevirtual 307, 3) := by decide +kernel
theorem dX12_state_20 : decode cX12_state 20 = .ok (.invokestatic 115, 3) := by decide +kernel
theorem dX12_state_23 : decode cX12_state 23 = .ok (.ifCond .eq 21, 3) := by decide +kernel
theorem dX12_state_26 : decode cX12_state 26 = .ok (.aload_n 0, 1) := by decide +kernel
theorem dX12_state_27 : decode cX12_state 27 = .ok (.iload_n 3, 1) := by decide +kernel
theorem dX12_state_28 : decode cX12_state 28 = .ok (.invokevirtual 373, 3) := by decide +kernel
theorem dX12_state_31 : decode cX12_state 31 = .ok (.iload_n 3, 1) := by decide +kernel
theorem dX12_state_32 : decode cX12_state 32 = .ok (.if_icmp .ne 12, 3) := by decide +kernel
theorem dX12_state_35 : decode cX12_state 35 = .ok (.aload_n 0, 1) := by decide +kernel
theorem dX12_state_36 : decode cX12_state 36 = .ok (.iload 4, 2) := by decide +kernel
theorem dX12_state_38 : decode cX12_state 38 = .ok (.invokevirtual 379, 3) := by decide +kernel
theorem dX12_state_41 : decode cX12_state 41 = .ok (.goto 5, 3) := by decide +kernel
theorem dX12_state_44 : decode cX12_state 44 = .ok (.bipush (-2), 2) := by decide +kernel
theorem dX12_state_46 : decode cX12_state 46 = .ok (.ireturn, 1) := by decide +kernel
set_option maxRecDepth 20000 in
theorem tm_12_343 : tMet TB0 12 343 = some (0, M_X12_dayEnds) := rfl
set_option maxRecDepth 20000 in
theorem tm_12_346 : tMet TB0 12 346 = some (0, M_X12_grinds) := rfl
set_option maxRecDepth 20000 in
theorem tm_12_349 : tMet TB0 12 349 = some (0, M_X12_rivets) := rfl
set_option maxRecDepth 20000 in
theorem tm_12_352 : tMet TB0 12 352 = some (0, M_X12_heats) := rfl
set_option maxRecDepth 20000 in
theorem tm_12_355 : tMet TB0 12 355 = some (0, M_X12_parts) := rfl
set_option maxRecDepth 20000 in
theorem tm_12_358 : tMet TB0 12 358 = some (0, M_X12_cutsNow) := rfl
set_option maxRecDepth 20000 in
theorem tm_12_361 : tMet TB0 12 361 = some (0, M_X12_oils) := rfl
set_option maxRecDepth 20000 in
theorem tm_12_364 : tMet TB0 12 364 = some (0, M_X12_begin) := rfl
set_option maxRecDepth 20000 in
theorem tm_12_367 : tMet TB0 12 367 = some (0, M_X12_does) := rfl
set_option maxRecDepth 20000 in
theorem tm_12_370 : tMet TB0 12 370 = some (0, M_X12_layAll) := rfl
set_option maxRecDepth 20000 in
theorem tm_12_373 : tMet TB0 12 373 = some (0, M_X12_play) := rfl
set_option maxRecDepth 20000 in
theorem tm_12_376 : tMet TB0 12 376 = some (0, M_X12_ofYear) := rfl
set_option maxRecDepth 20000 in
theorem tm_12_379 : tMet TB0 12 379 = some (0, M_X12_ofState) := rfl
theorem and63 {x y : Int} (hx : 0 ≤ x ∧ x < 64) (hy : 0 ≤ y) : andZ (x + 64 * y) 63 = x := by
  unfold andZ
  rw [show (63 : Int).toNat = 2 ^ 6 - 1 from rfl, Nat.and_two_pow_sub_one_eq_mod]
  omega
def stR (y g : Int → Int) (n w r : Int) : Prop := ((0 ≤ n ∧ n ≤ y 0) ∧ (∀ j, 0 ≤ j → j < n → okK y g j) ∧ r = tlS (stG y g n) (stQ y g n) w) ∨ (¬ ((0 ≤ n ∧ n ≤ y 0) ∧ ∀ j, 0 ≤ j → j < n → okK y g j) ∧ r = -2)
theorem stR_u {y g : Int → Int} {n w r r' : Int} (a : stR y g n w r) (b : stR y g n w r') : r = r' := by
  rcases a with ⟨a1, a2, a3⟩ | ⟨a1, a2⟩ <;> rcases b with ⟨b1, b2, b3⟩ | ⟨b1, b2⟩
  · rw [a3, b3]
  · exact absurd ⟨a1, a2⟩ b1
  · exact absurd ⟨b1, b2⟩ a1
  · rw [a2, b2]
theorem stR_y {y g : Int → Int} {n w v : Int} (h : lvR y g n v) (e : v = n) : stR y g n w (tlS (stG y g v) (stQ y g v) w) := by
  obtain ⟨h1, h2, h3⟩ := h
  subst e
  exact Or.inl ⟨⟨h1.1, h1.2.2⟩, h2, rfl⟩
theorem stR_n {y g : Int → Int} {n w v : Int} (h : lvR y g n v) (e : ¬ v = n) : stR y g n w (-2) := by
  obtain ⟨h1, h2, h3⟩ := h
  have hv : v < n := by have a := h1.2.1; clear h3 h2; omega
  have hw : v ≤ y 0 := h1.2.2
  refine Or.inr ⟨fun ⟨z1, z2⟩ => ?_, rfl⟩
  rcases h3 with q | q | q
  · exact e q
  · exact absurd hv (Int.not_lt.mpr (q ▸ z1.2))
  · exact q (z2 v h1.1 hv)
theorem stR_o {y g : Int → Int} {n w : Int} (e : ¬ (0 ≤ n ∧ n ≤ y 0)) : stR y g n w (-2) := Or.inr ⟨fun z => e z.1, rfl⟩
def ansFY (f y none_ : Int) (R : Sg → Int → Prop) (σ : Sg) (r : Int) : Prop := (((0 ≤ f ∧ f < cn σ 0) ∧ (0 ≤ y ∧ y < cn σ 1)) ∧ R σ r) ∨ (¬ ((0 ≤ f ∧ f < cn σ 0) ∧ (0 ≤ y ∧ y < cn σ 1)) ∧ r = none_)
theorem ansFY_u {f y n : Int} {R : Sg → Int → Prop} (hR : ∀ σ r r', R σ r → R σ r' → r = r') (σ : Sg) (r r' : Int) (a : ansFY f y n R σ r) (b : ansFY f y n R σ r') : r = r' := by
  rcases a with ⟨a1, a3⟩ | ⟨a1, a2⟩ <;> rcases b with ⟨b1, b3⟩ | ⟨b1, b2⟩
  · exact hR _ _ _ a3 b3
  · exact absurd a1 b1
  · exact absurd b1 a1
  · rw [a2, b2]
theorem ok_dn {g q : Int → Int} {s a b : Int} (h : ¬ (0 ≤ a ∧ a < nd g)) (h4 : s ≠ 4) (h6 : s ≠ 6) : ¬ okZ g q s a b := by
  rintro (z | z | z | z | z | z | z)
  · exact h z.2.1.1
  · exact h z.2.1.1
  · exact h z.2.1.1
  · exact h z.2.1.1.1
  · exact h4 z.1
  · exact h z.2
  · exact h6 z.1
set_option maxHeartbeats 400000 in
theorem zp_X12_does {ad : mA} {dd : Nat} {h : mH} {Q : mQ} {m : Nat} {g q : Int → Int} {n : Int} (hk : rk h m) (HB : rB h m g) (HM : rM h m g) (HC : rC h m g) (HQ : rQ h m q n)  (w : Int) (w_r : -2147483648 ≤ w ∧ w < 2147483648) (a : Int) (a_r : -2147483648 ≤ a ∧ a < 2147483648) (b : Int) (b_r : -2147483648 ≤ b ∧ b < 2147483648) (pn : n < 1000) (p1 : 0 ≤ w ∧ w ≤ 6) (p2 : w = 4 → a = 0 ∨ a = 1) (kq : ∀ h1, frm (fun a i => a = m + 11 ∨ a = m + 13 ∨ a = m + 15 ∨ (a = m ∧ 33 ≤ i ∧ i ≤ 38)) h h1 → (rB h1 m (nG g q w a b)) → (rM h1 m (nG g q w a b)) → (rC h1 m (nG g q w a b)) → (rQ h1 m (nQ g q w a b) (n + 1)) → Q (some (.int (zI (bZ (okZ g q w a b))))) h1) : mCal TB0 ad (dd + 6) M_X12_does [.ref m, .int (zI w), .int (zI a), .int (zI b)] h 0 0 Q := by
  refine ⟨Nat.le_of_ble_eq_true rfl, ?_⟩
  show mEv TB0 ad M_X12_does (dd + 6) (0, 0) (mCal TB0 ad (dd + 5)) (fun v h' z => z.1 = 0 ∧ Q v h') 0 [some (.ref m), some (.int (zI w)), some (.int (zI a)), some (.int (zI b))] [] h (0, 0)
  have FR0 : frm (fun a i => a = m + 11 ∨ a = m + 13 ∨ a = m + 15 ∨ (a = m ∧ 33 ≤ i ∧ i ≤ 38)) h h := frm_0 h
  have w1 := rB_n HB
  have w2 := rB_nd HB
  have w3 := rB_nu HB
  have wq := wfQ_e HQ.1
  refine e_iload_n dX12_does_0 rfl ?_
  refine z_bipush (6) dX12_does_1 rfl ?_
  refine z_icmp_eq 11 dX12_does_3 rfl ⟨by omega, by omega⟩ ⟨by omega, by omega⟩ (fun c1 => ?_) (fun c1 => ?_)
  · skip
    refine e_iload_n dX12_does_11 rfl ?_
    refine z_bipush (6) dX12_does_12 rfl ?_
    refine z_icmp_ne 24 dX12_does_14 rfl ⟨by omega, by omega⟩ ⟨by omega, by omega⟩ (fun c2 => ?_) (fun c2 => ?_)
    · skip
      refine e_aload_n dX12_does_24 rfl ?_
      refine e_iload_n dX12_does_25 rfl ?_
      refine e_iload_n dX12_does_26 rfl ?_
      refine e_callV [.int _, .int _] dX12_does_27 tm_12_346 rfl (Nat.le_of_ble_eq_true rfl) (rk_s hk) (Nat.le_of_ble_eq_true rfl) (Nat.le_refl _) (Nat.le_refl _) rfl (zp_X12_grinds hk HB HM HC HQ a ⟨by omega, by omega⟩ b ⟨by omega, by omega⟩ (by omega) (fun  h3 f4 p5 p6 p7 => ?_))
      have k8 := rk_q (frm_s f4) hk
      have H9 := rQ_c f4 (fun a k q1 q2 q3 => by omega) HQ
      have FR10 := frm_t FR0 (frm_m (S' := (fun a i => a = m + 11 ∨ a = m + 13 ∨ a = m + 15 ∨ (a = m ∧ 33 ≤ i ∧ i ≤ 38))) f4 (fun a k q => by omega))
      refine z_bret dX12_does_30 rfl (bZ_01 _) ⟨rfl, ?_⟩
      have e6 : w = 4 := by omega
      subst e6
      refine z_qb (kq _ FR10 ?_ ?_ ?_ ?_) ok4
      · rw [nG4]; exact p5
      · rw [nG4]; exact p6
      · rw [nG4]; exact p7
      · rw [nQ4]; exact (rQ_1 H9 pn)
    · skip
      refine e_aload_n dX12_does_17 rfl ?_
      refine e_callV [] dX12_does_18 tm_12_343 rfl (Nat.le_of_ble_eq_true rfl) (rk_s hk) (Nat.le_of_ble_eq_true rfl) (Nat.le_refl _) (Nat.le_refl _) rfl (zp_X12_dayEnds hk HB HM HC HQ (by omega) (fun  h11 f12 p13 p14 p15 p16 => ?_))
      have k17 := rk_q (frm_s f12) hk
      have FR18 := frm_t FR0 (frm_m (S' := (fun a i => a = m + 11 ∨ a = m + 13 ∨ a = m + 15 ∨ (a = m ∧ 33 ≤ i ∧ i ≤ 38))) f12 (fun a k q => by omega))
      refine e_goto 30 dX12_does_21 rfl ?_
      refine z_bret dX12_does_30 rfl (bZ_01 _) ⟨rfl, ?_⟩
      have e6 : w = 6 := by omega
      subst e6
      refine z_qb (kq _ FR18 ?_ ?_ ?_ ?_) ok6
      · rw [nG6]; exact p13
      · rw [nG6]; exact p14
      · rw [nG6]; exact p15
      · rw [nQ6]; exact p16
  · skip
    refine e_iload_n dX12_does_6 rfl ?_
    refine z_iconst (4) dX12_does_7 rfl ?_
    refine z_icmp_ne 31 dX12_does_8 rfl ⟨by omega, by omega⟩ ⟨by omega, by omega⟩ (fun c19 => ?_) (fun c19 => ?_)
    · skip
      refine e_aload_n dX12_does_31 rfl ?_
      refine e_iload_n dX12_does_32 rfl ?_
      refine e_callV [.int _] dX12_does_33 tm_12_295 rfl (Nat.le_of_ble_eq_true rfl) (rk_s hk) (Nat.le_of_ble_eq_true rfl) (Nat.le_refl _) (Nat.le_refl _) rfl (zp_X12_isDown hk HB a ⟨by omega, by omega⟩ ?_)
      refine z_ifb_ne 41 dX12_does_36 rfl (fun c20 => ?_) (fun c20 => ?_)
      · skip
        refine e_iload_n dX12_does_41 rfl ?_
        by_cases c21 : w = 0
        · skip
          refine z_tableV (0) 72 dX12_does_42 c21 (by decide) (by decide +kernel) ?_
          refine e_aload_n dX12_does_72 rfl ?_
          refine e_iload_n dX12_does_73 rfl ?_
          refine e_iload_n dX12_does_74 rfl ?_
          refine e_callV [.int _, .int _] dX12_does_75 tm_12_349 rfl (Nat.le_of_ble_eq_true rfl) (rk_s hk) (Nat.le_of_ble_eq_true rfl) (Nat.le_refl _) (Nat.le_refl _) rfl (zp_X12_rivets hk HB HM HC a ⟨by omega, by omega⟩ b ⟨by omega, by omega⟩ (by omega) (fun  h22 f23 p24 p25 p26 => ?_))
          have k27 := rk_q (frm_s f23) hk
          have H28 := rQ_c f23 (fun a k q1 q2 q3 => by omega) HQ
          have FR29 := frm_t FR0 (frm_m (S' := (fun a i => a = m + 11 ∨ a = m + 13 ∨ a = m + 15 ∨ (a = m ∧ 33 ≤ i ∧ i ≤ 38))) f23 (fun a k q => by omega))
          refine z_bret dX12_does_78 rfl (bZ_01 _) ⟨rfl, ?_⟩
          have e6 : w = 0 := by omega
          subst e6
          refine z_qb (kq _ FR29 ?_ ?_ ?_ ?_) ok0
          · rw [nG0]; exact p24
          · rw [nG0]; exact p25
          · rw [nG0]; exact p26
          · rw [nQ0]; exact (rQ_1 H28 pn)
        by_cases c30 : w = 1
        · skip
          refine z_tableV (1) 79 dX12_does_42 c30 (by decide) (by decide +kernel) ?_
          refine e_aload_n dX12_does_79 rfl ?_
          refine e_iload_n dX12_does_80 rfl ?_
          refine e_callV [.int _] dX12_does_81 tm_12_352 rfl (Nat.le_of_ble_eq_true rfl) (rk_s hk) (Nat.le_of_ble_eq_true rfl) (Nat.le_refl _) (Nat.le_refl _) rfl (zp_X12_heats hk HB HM HQ a ⟨by omega, by omega⟩ (by omega) (by omega) (fun  h31 f32 p33 => ?_))
          have k34 := rk_q (frm_s f32) hk
          have H35 := rB_c f32 (fun a k q => by omega) HB
          have H36 := rM_c f32 (fun a k q => by omega) HM
          have H37 := rC_c f32 (fun a k q => by omega) HC
          have FR38 := frm_t FR0 (frm_m (S' := (fun a i => a = m + 11 ∨ a = m + 13 ∨ a = m + 15 ∨ (a = m ∧ 33 ≤ i ∧ i ≤ 38))) f32 (fun a k q => by omega))
          refine z_bret dX12_does_84 rfl (bZ_01 _) ⟨rfl, ?_⟩
          have e6 : w = 1 := by omega
          subst e6
          refine z_qb (kq _ FR38 ?_ ?_ ?_ ?_) ok1
          · rw [nG1]; exact H35
          · rw [nG1]; exact H36
          · rw [nG1]; exact H37
          · rw [nQ1]; exact p33
        by_cases c39 : w = 2
        · skip
          refine z_tableV (2) 85 dX12_does_42 c39 (by decide) (by decide +kernel) ?_
          refine e_aload_n dX12_does_85 rfl ?_
          refine e_iload_n dX12_does_86 rfl ?_
          refine e_callV [.int _] dX12_does_87 tm_12_355 rfl (Nat.le_of_ble_eq_true rfl) (rk_s hk) (Nat.le_of_ble_eq_true rfl) (Nat.le_refl _) (Nat.le_refl _) rfl (zp_X12_parts hk HB HM HC HQ a ⟨by omega, by omega⟩ (by omega) (fun  h40 f41 p42 p43 p44 => ?_))
          have k45 := rk_q (frm_s f41) hk
          have H46 := rQ_c f41 (fun a k q1 q2 q3 => by omega) HQ
          have FR47 := frm_t FR0 (frm_m (S' := (fun a i => a = m + 11 ∨ a = m + 13 ∨ a = m + 15 ∨ (a = m ∧ 33 ≤ i ∧ i ≤ 38))) f41 (fun a k q => by omega))
          refine z_bret dX12_does_90 rfl (bZ_01 _) ⟨rfl, ?_⟩
          have e6 : w = 2 := by omega
          subst e6
          refine z_qb (kq _ FR47 ?_ ?_ ?_ ?_) ok2
          · rw [nG2]; exact p42
          · rw [nG2]; exact p43
          · rw [nG2]; exact p44
          · rw [nQ2]; exact (rQ_1 H46 pn)
        by_cases c48 : w = 3
        · skip
          refine z_tableV (3) 91 dX12_does_42 c48 (by decide) (by decide +kernel) ?_
          refine e_aload_n dX12_does_91 rfl ?_
          refine e_iload_n dX12_does_92 rfl ?_
          refine e_iload_n dX12_does_93 rfl ?_
          refine e_callV [.int _, .int _] dX12_does_94 tm_12_358 rfl (Nat.le_of_ble_eq_true rfl) (rk_s hk) (Nat.le_of_ble_eq_true rfl) (Nat.le_refl _) (Nat.le_refl _) rfl (zp_X12_cutsNow hk HB HM HC HQ a ⟨by omega, by omega⟩ b ⟨by omega, by omega⟩ (by omega) (by omega) (fun  h49 f50 p51 p52 p53 p54 => ?_))
          have k55 := rk_q (frm_s f50) hk
          have FR56 := frm_t FR0 (frm_m (S' := (fun a i => a = m + 11 ∨ a = m + 13 ∨ a = m + 15 ∨ (a = m ∧ 33 ≤ i ∧ i ≤ 38))) f50 (fun a k q => by omega))
          refine z_bret dX12_does_97 rfl (bZ_01 _) ⟨rfl, ?_⟩
          have e6 : w = 3 := by omega
          subst e6
          refine z_qb (kq _ FR56 ?_ ?_ ?_ ?_) ok3
          · rw [nG3]; exact p51
          · rw [nG3]; exact p52
          · rw [nG3]; exact p53
          · rw [nQ3]; exact p54
        refine z_tableD 98 dX12_does_42 ⟨by omega, by omega⟩ (by omega) rfl ?_
        refine e_aload_n dX12_does_98 rfl ?_
        refine e_iload_n dX12_does_99 rfl ?_
        refine e_callV [.int _] dX12_does_100 tm_12_361 rfl (Nat.le_of_ble_eq_true rfl) (rk_s hk) (Nat.le_of_ble_eq_true rfl) (Nat.le_refl _) (Nat.le_refl _) rfl (zp_X12_oils hk HB HM HQ a ⟨by omega, by omega⟩ (by omega) (by omega) (fun  h57 f58 p59 => ?_))
        have k60 := rk_q (frm_s f58) hk
        have H61 := rB_c f58 (fun a k q => by omega) HB
        have H62 := rM_c f58 (fun a k q => by omega) HM
        have H63 := rC_c f58 (fun a k q => by omega) HC
        have FR64 := frm_t FR0 (frm_m (S' := (fun a i => a = m + 11 ∨ a = m + 13 ∨ a = m + 15 ∨ (a = m ∧ 33 ≤ i ∧ i ≤ 38))) f58 (fun a k q => by omega))
        refine z_bret dX12_does_103 rfl (bZ_01 _) ⟨rfl, ?_⟩
        have e6 : w = 5 := by omega
        subst e6
        refine z_qb (kq _ FR64 ?_ ?_ ?_ ?_) ok5
        · rw [nG5]; exact H61
        · rw [nG5]; exact H62
        · rw [nG5]; exact H63
        · rw [nQ5]; exact p59
      · skip
        refine z_iconst (0) dX12_does_39 rfl ?_
        refine z_bret dX12_does_40 rfl (Or.inl rfl) ⟨rfl, ?_⟩
        have C : ¬ okZ g q w a b := ok_dn (by assumption) (by omega) (by omega)
        have N := n_no (by omega) (by omega) C
        refine z_q0 (kq _ FR0 ?_ ?_ ?_ ?_) C
        · rw [N.1]; exact HB
        · rw [N.1]; exact HM
        · rw [N.1]; exact HC
        · rw [N.2]; exact rQ_1 HQ pn
    · skip
      refine e_iload_n dX12_does_11 rfl ?_
      refine z_bipush (6) dX12_does_12 rfl ?_
      refine z_icmp_ne 24 dX12_does_14 rfl ⟨by omega, by omega⟩ ⟨by omega, by omega⟩ (fun c65 => ?_) (fun c65 => ?_)
      · skip
        refine e_aload_n dX12_does_24 rfl ?_
        refine e_iload_n dX12_does_25 rfl ?_
        refine e_iload_n dX12_does_26 rfl ?_
        refine e_callV [.int _, .int _] dX12_does_27 tm_12_346 rfl (Nat.le_of_ble_eq_true rfl) (rk_s hk) (Nat.le_of_ble_eq_true rfl) (Nat.le_refl _) (Nat.le_refl _) rfl (zp_X12_grinds hk HB HM HC HQ a ⟨by omega, by omega⟩ b ⟨by omega, by omega⟩ (by omega) (fun  h66 f67 p68 p69 p70 => ?_))
        have k71 := rk_q (frm_s f67) hk
        have H72 := rQ_c f67 (fun a k q1 q2 q3 => by omega) HQ
        have FR73 := frm_t FR0 (frm_m (S' := (fun a i => a = m + 11 ∨ a = m + 13 ∨ a = m + 15 ∨ (a = m ∧ 33 ≤ i ∧ i ≤ 38))) f67 (fun a k q => by omega))
        refine z_bret dX12_does_30 rfl (bZ_01 _) ⟨rfl, ?_⟩
        have e6 : w = 4 := by omega
        subst e6
        refine z_qb (kq _ FR73 ?_ ?_ ?_ ?_) ok4
        · rw [nG4]; exact p68
        · rw [nG4]; exact p69
        · rw [nG4]; exact p70
        · rw [nQ4]; exact (rQ_1 H72 pn)
      · skip
        refine e_aload_n dX12_does_17 rfl ?_
        refine e_callV [] dX12_does_18 tm_12_343 rfl (Nat.le_of_ble_eq_true rfl) (rk_s hk) (Nat.le_of_ble_eq_true rfl) (Nat.le_refl _) (Nat.le_refl _) rfl (zp_X12_dayEnds hk HB HM HC HQ (by omega) (fun  h74 f75 p76 p77 p78 p79 => ?_))
        have k80 := rk_q (frm_s f75) hk
        have FR81 := frm_t FR0 (frm_m (S' := (fun a i => a = m + 11 ∨ a = m + 13 ∨ a = m + 15 ∨ (a = m ∧ 33 ≤ i ∧ i ≤ 38))) f75 (fun a k q => by omega))
        refine e_goto 30 dX12_does_21 rfl ?_
        refine z_bret dX12_does_30 rfl (bZ_01 _) ⟨rfl, ?_⟩
        have e6 : w = 6 := by omega
        subst e6
        refine z_qb (kq _ FR81 ?_ ?_ ?_ ?_) ok6
        · rw [nG6]; exact p76
        · rw [nG6]; exact p77
        · rw [nG6]; exact p78
        · rw [nQ6]; exact p79
set_option maxHeartbeats 2000000 in
theorem zp_X12_play {ad : mA} {dd : Nat} {h : mH} {Q : mQ} {m : Nat} {σ : Sg} {g : Int → Int} {ky : Int} (hk : rk h m) (HR : refT h m 0 σ) (HY : rYr h m ky) (HB : rB h m g) (HM : rM h m g) (HC : rC h m g)  (t : Int) (t_r : -2147483648 ≤ t ∧ t < 2147483648) (pk : ky < cn σ 1) (pt : 0 ≤ t ∧ t ≤ (sY σ ky) 0) (kq : ∀ v : Int, (lvR (sY σ ky) g t v) → ∀ h1, frm (fun a i => a = m + 11 ∨ a = m + 13 ∨ a = m + 15 ∨ (a = m ∧ 33 ≤ i ∧ i ≤ 38)) h h1 → (rB h1 m (stG (sY σ ky) g v)) → (rM h1 m (stG (sY σ ky) g v)) → (rC h1 m (stG (sY σ ky) g v)) → (rQ h1 m (stQ (sY σ ky) g v) v) → Q (some (.int (zI v))) h1) : mCal TB0 ad (dd + 7) M_X12_play [.ref m, .int (zI t)] h 0 0 Q := by
  refine ⟨Nat.le_of_ble_eq_true rfl, ?_⟩
  show mEv TB0 ad M_X12_play (dd + 7) (0, 0) (mCal TB0 ad (dd + 6)) (fun v h' z => z.1 = 0 ∧ Q v h') 0 [some (.ref m), some (.int (zI t)), none] [] h (0, 0)
  have FR0 : frm (fun a i => a = m + 11 ∨ a = m + 13 ∨ a = m + 15 ∨ (a = m ∧ 33 ≤ i ∧ i ≤ 38)) h h := frm_0 h
  have w1 := wS_n (refT_w HR)
  have WY := (refT_w HR).2.2.2.1 ky HY.2 pk
  have wy := WY.1
  have hy0 := HY.2
  refine e_aload_n dX12_play_0 rfl ?_
  refine e_callV [] dX12_play_1 tm_12_364 rfl (Nat.le_of_ble_eq_true rfl) (rk_s hk) (Nat.le_of_ble_eq_true rfl) (Nat.le_refl _) (Nat.le_refl _) rfl (zp_X12_begin hk (fun  h1 f2 p3 => ?_))
  have k4 := rk_q (frm_s f2) hk
  have H5 := refT_c f2 (fun a k q1 q2 => by omega) HR
  have H6 := rYr_c f2 (fun a k q1 q2 => by omega) HY
  have H7 := rB_c f2 (fun a k q => by omega) HB
  have H8 := rM_c f2 (fun a k q => by omega) HM
  have H9 := rC_c f2 (fun a k q => by omega) HC
  have FR10 := frm_t FR0 (frm_m (S' := (fun a i => a = m + 11 ∨ a = m + 13 ∨ a = m + 15 ∨ (a = m ∧ 33 ≤ i ∧ i ≤ 38))) f2 (fun a k q => by omega))
  refine z_iconst (0) dX12_play_4 rfl ?_
  refine e_istore_n (L' := [_, _, _]) dX12_play_5 (Nat.le_of_ble_eq_true rfl) rfl ?_
  have lp11 : ∀ (n11 : Nat) (k : Int) (h11 : mH), (40 - k).toNat = n11 → (rk h11 m) → (refT h11 m 0 σ) → (rYr h11 m ky) → (frm (fun a i => a = m + 11 ∨ a = m + 13 ∨ a = m + 15 ∨ (a = m ∧ 33 ≤ i ∧ i ≤ 38)) h h11) → (0 ≤ k) → (k ≤ t) → (rB h11 m (stG (sY σ ky) g k)) → (rM h11 m (stG (sY σ ky) g k)) → (rC h11 m (stG (sY σ ky) g k)) → (rQ h11 m (stQ (sY σ ky) g k) k) → (∀ j, 0 ≤ j → j < k → okK (sY σ ky) g j) → mEv TB0 ad M_X12_play (dd + 7) (0, 0) (mCal TB0 ad (dd + 6)) (fun v h' z => z.1 = 0 ∧ Q v h') 6 [some (.ref m), some (.int (zI t)), some (.int (zI k))] [] h11 (0, 0) := by
    intro n11
    induction n11 using Nat.strongRecOn with
    | ind n11 ih11 =>
    intro k h11 hn11 k12 H13 H14 FR15 I1 I2 I3 I4 I5 I6 I7
    refine e_iload_n dX12_play_6 rfl ?_
    refine e_iload_n dX12_play_7 rfl ?_
    refine z_icmp_ge 42 dX12_play_8 rfl ⟨by omega, by omega⟩ ⟨by omega, by omega⟩ (fun c16 => ?_) (fun c16 => ?_)
    · skip
      refine e_iload_n dX12_play_42 rfl ?_
      refine z_iret dX12_play_43 rfl ⟨rfl, ?_⟩
      exact kq _ ⟨by omega, I7, by omega⟩ _ FR15 I3 I4 I5 I6
    · skip
      skip
      skip
      skip
      skip
      have wk := wY_r WY (k := k) (by omega) (by omega)
      refine e_aload_n dX12_play_11 rfl ?_
      refine e_aload_n dX12_play_12 rfl ?_
      refine e_iload_n dX12_play_13 rfl ?_
      refine z_iconst (0) dX12_play_14 rfl ?_
      refine e_callV [.int _, .int _] dX12_play_15 tm_12_310 rfl (Nat.le_of_ble_eq_true rfl) (rk_s k12) (Nat.le_of_ble_eq_true rfl) (Nat.le_refl _) (Nat.le_refl _) rfl (zp_X12_deedOf k12 H13 H14 k ⟨by omega, by omega⟩ 0 ⟨by omega, by omega⟩ (by omega) (by omega) (by omega) (by omega) (by omega) ?_)
      rw [show (sY σ ky (1 + 3 * k + 0)) = ysr (sY σ ky) k from congrArg (sY σ ky) (by omega)]
      refine e_aload_n dX12_play_18 rfl ?_
      refine e_iload_n dX12_play_19 rfl ?_
      refine z_iconst (1) dX12_play_20 rfl ?_
      refine e_callV [.int _, .int _] dX12_play_21 tm_12_310 rfl (Nat.le_of_ble_eq_true rfl) (rk_s k12) (Nat.le_of_ble_eq_true rfl) (Nat.le_refl _) (Nat.le_refl _) rfl (zp_X12_deedOf k12 H13 H14 k ⟨by omega, by omega⟩ 1 ⟨by omega, by omega⟩ (by omega) (by omega) (by omega) (by omega) (by omega) ?_)
      rw [show (sY σ ky (1 + 3 * k + 1)) = yfi (sY σ ky) k from congrArg (sY σ ky) (by omega)]
      refine e_aload_n dX12_play_24 rfl ?_
      refine e_iload_n dX12_play_25 rfl ?_
      refine z_iconst (2) dX12_play_26 rfl ?_
      refine e_callV [.int _, .int _] dX12_play_27 tm_12_310 rfl (Nat.le_of_ble_eq_true rfl) (rk_s k12) (Nat.le_of_ble_eq_true rfl) (Nat.le_refl _) (Nat.le_refl _) rfl (zp_X12_deedOf k12 H13 H14 k ⟨by omega, by omega⟩ 2 ⟨by omega, by omega⟩ (by omega) (by omega) (by omega) (by omega) (by omega) ?_)
      rw [show (sY σ ky (1 + 3 * k + 2)) = yse (sY σ ky) k from congrArg (sY σ ky) (by omega)]
      refine e_callV [.int _, .int _, .int _] dX12_play_30 tm_12_367 rfl (Nat.le_of_ble_eq_true rfl) (rk_s k12) (Nat.le_of_ble_eq_true rfl) (Nat.le_refl _) (Nat.le_refl _) rfl (zp_X12_does k12 I3 I4 I5 I6 (ysr (sY σ ky) k) ⟨by omega, by omega⟩ (yfi (sY σ ky) k) ⟨by omega, by omega⟩ (yse (sY σ ky) k) ⟨by omega, by omega⟩ (by omega) (by omega) (wY_4 WY (by omega) (by omega)) (fun  h17 f18 p19 p20 p21 p22 => ?_))
      have k23 := rk_q (frm_s f18) k12
      have H24 := refT_c f18 (fun a k q1 q2 => by omega) H13
      have H25 := rYr_c f18 (fun a k q1 q2 => by omega) H14
      have FR26 := frm_t FR15 (frm_m (S' := (fun a i => a = m + 11 ∨ a = m + 13 ∨ a = m + 15 ∨ (a = m ∧ 33 ≤ i ∧ i ≤ 38))) f18 (fun a k q => by omega))
      refine z_ifb_eq 42 dX12_play_33 rfl (fun c27 => ?_) (fun c27 => ?_)
      · skip
        refine e_iload_n dX12_play_42 rfl ?_
        refine z_iret dX12_play_43 rfl ⟨rfl, ?_⟩
        have CX : ¬ okK (sY σ ky) g k := by assumption
        have N := n_no (by omega) (by omega) CX
        exact kq _ ⟨by omega, I7, Or.inr (Or.inr CX)⟩ _ FR26 (by rw [← N.1]; exact p19) (by rw [← N.1]; exact p20) (by rw [← N.1]; exact p21) (by have z := p22; rw [N.2] at z; exact ⟨I6.1, z.2⟩)
      · skip
        refine z_iinc (L' := [_, _, _]) dX12_play_36 rfl rfl ?_
        refine e_goto 6 dX12_play_39 rfl ?_
        exact ih11 _ (by omega) (k + 1) h17 rfl k23 H24 H25 FR26 (by omega) (by omega) (by rw [stG_s I1]; exact p19) (by rw [stG_s I1]; exact p20) (by rw [stG_s I1]; exact p21) (by rw [stQ_s I1]; exact p22) (okAll I7 (by assumption))
  exact lp11 _ 0 h1 rfl k4 H5 H6 FR10 (by omega) (by omega) H7 H8 H9 p3 (fun j a c => by omega)
set_option maxHeartbeats 400000 in
theorem zp_X12_ofYear {ad : mA} {dd : Nat} {h : mH} {Q : mQ} {m : Nat} {q : Int → Int} {n : Int} (hk : rk h m) (HQ : rQ h m q n)  (w : Int) (w_r : -2147483648 ≤ w ∧ w < 2147483648)  (kq : Q (some (.int (zI (if w = 0 then q 0 else if w = 1 then q 1 else if w = 2 then q 2 else if w = 3 then q 3 else if w = 4 then q 4 else -2)))) h) : mCal TB0 ad (dd + 1) M_X12_ofYear [.ref m, .int (zI w)] h 0 0 Q := by
  refine ⟨Nat.le_of_ble_eq_true rfl, ?_⟩
  show mEv TB0 ad M_X12_ofYear (dd + 1) (0, 0) (mCal TB0 ad (dd + 0)) (fun v h' z => z.1 = 0 ∧ Q v h') 0 [some (.ref m), some (.int (zI w))] [] h (0, 0)
  have wq := wfQ_e HQ.1
  refine e_iload_n dX12_ofYear_0 rfl ?_
  by_cases c1 : w = 0
  · skip
    refine z_tableV (0) 36 dX12_ofYear_1 c1 (by decide) (by decide +kernel) ?_
    refine e_aload_n dX12_ofYear_36 rfl ?_
    refine z_get (q 0) dX12_ofYear_37 tf_12_313 (rk_s hk) (Or.inl rfl) HQ.2.1 ?_
    have y2 := wfQ_e HQ.1
    refine z_iret dX12_ofYear_40 rfl ⟨rfl, ?_⟩
    refine z_q kq ?_
    repeat' split
    all_goals first | rfl | omega
  by_cases c3 : w = 1
  · skip
    refine z_tableV (1) 41 dX12_ofYear_1 c3 (by decide) (by decide +kernel) ?_
    refine e_aload_n dX12_ofYear_41 rfl ?_
    refine z_get (q 1) dX12_ofYear_42 tf_12_316 (rk_s hk) (Or.inl rfl) HQ.2.2.1 ?_
    have y4 := wfQ_e HQ.1
    refine z_iret dX12_ofYear_45 rfl ⟨rfl, ?_⟩
    refine z_q kq ?_
    repeat' split
    all_goals first | rfl | omega
  by_cases c5 : w = 2
  · skip
    refine z_tableV (2) 46 dX12_ofYear_1 c5 (by decide) (by decide +kernel) ?_
    refine e_aload_n dX12_ofYear_46 rfl ?_
    refine z_get (q 2) dX12_ofYear_47 tf_12_319 (rk_s hk) (Or.inl rfl) HQ.2.2.2.1 ?_
    have y6 := wfQ_e HQ.1
    refine z_iret dX12_ofYear_50 rfl ⟨rfl, ?_⟩
    refine z_q kq ?_
    repeat' split
    all_goals first | rfl | omega
  by_cases c7 : w = 3
  · skip
    refine z_tableV (3) 51 dX12_ofYear_1 c7 (by decide) (by decide +kernel) ?_
    refine e_aload_n dX12_ofYear_51 rfl ?_
    refine z_get (q 3) dX12_ofYear_52 tf_12_322 (rk_s hk) (Or.inl rfl) HQ.2.2.2.2.1 ?_
    have y8 := wfQ_e HQ.1
    refine z_iret dX12_ofYear_55 rfl ⟨rfl, ?_⟩
    refine z_q kq ?_
    repeat' split
    all_goals first | rfl | omega
  by_cases c9 : w = 4
  · skip
    refine z_tableV (4) 56 dX12_ofYear_1 c9 (by decide) (by decide +kernel) ?_
    refine e_aload_n dX12_ofYear_56 rfl ?_
    refine z_get (q 4 + 64 * q 5) dX12_ofYear_57 tf_12_325 (rk_s hk) (Or.inl rfl) HQ.2.2.2.2.2.1 ?_
    have y10 := wfQ_e HQ.1
    refine z_bipush (63) dX12_ofYear_60 rfl ?_
    refine z_iand dX12_ofYear_62 (by omega) (by omega) (by omega) (by omega) ?_
    have y11 := andZ_b (q 4 + 64 * q 5) 63
    refine z_iret dX12_ofYear_63 rfl ⟨rfl, ?_⟩
    refine z_q kq ?_
    rw [and63 (by omega) (by omega)]
    repeat' split
    all_goals first | rfl | omega
  refine z_tableD 64 dX12_ofYear_1 ⟨by omega, by omega⟩ (by omega) rfl ?_
  refine z_bipush (-2) dX12_ofYear_64 rfl ?_
  refine z_iret dX12_ofYear_66 rfl ⟨rfl, ?_⟩
  refine z_q kq ?_
  repeat' split
  all_goals first | rfl | omega
set_option maxHeartbeats 400000 in
theorem zp_X12_ofState {ad : mA} {dd : Nat} {h : mH} {Q : mQ} {m : Nat} {g q : Int → Int} {n : Int} (hk : rk h m) (HB : rB h m g) (HM : rM h m g) (HQ : rQ h m q n)  (w : Int) (w_r : -2147483648 ≤ w ∧ w < 2147483648)  (kq : Q (some (.int (zI (tlS g q w)))) h) : mCal TB0 ad (dd + 3) M_X12_ofState [.ref m, .int (zI w)] h 0 0 Q := by
  refine ⟨Nat.le_of_ble_eq_true rfl, ?_⟩
  show mEv TB0 ad M_X12_ofState (dd + 3) (0, 0) (mCal TB0 ad (dd + 2)) (fun v h' z => z.1 = 0 ∧ Q v h') 0 [some (.ref m), some (.int (zI w)), none] [] h (0, 0)
  have w1 := rB_n HB
  have w2 := rB_nd HB
  have w3 := rB_nu HB
  have wq := wfQ_e HQ.1
  refine e_iload_n dX12_ofState_0 rfl ?_
  refine z_bipush (10) dX12_ofState_1 rfl ?_
  refine z_iremT dX12_ofState_3 ⟨by omega, by omega⟩ (by omega) (by omega) ?_
  refine e_istore_n (L' := [_, _, _]) dX12_ofState_4 (Nat.le_of_ble_eq_true rfl) rfl ?_
  have t0 : 0 ≤ w → w.tdiv 10 = w / 10 ∧ w.tmod 10 = w % 10 := fun y => ⟨Int.tdiv_eq_ediv_of_nonneg y, Int.tmod_eq_emod_of_nonneg y⟩
  have t1 : w < 0 → w.tdiv 10 ≤ 0 := fun y => by have z := Int.tdiv_nonneg (a := -w) (b := 10) (by omega) (by omega); rw [Int.neg_tdiv] at z; omega
  have t2 := Int.natAbs_tdiv_le_natAbs w 10
  refine e_iload_n dX12_ofState_5 rfl ?_
  refine z_bipush (10) dX12_ofState_6 rfl ?_
  refine z_idivT dX12_ofState_8 ⟨by omega, by omega⟩ (by omega) (by omega) ?_
  by_cases c1 : (w.tdiv 10) = 1
  · skip
    refine z_tableV (1) 44 dX12_ofState_9 c1 (by decide) (by decide +kernel) ?_
    have z0 : 0 ≤ w := by omega
    have zt := t0 z0
    have zt1 := zt.1
    have zt2 := zt.2
    refine e_aload_n dX12_ofState_44 rfl ?_
    refine e_iload_n dX12_ofState_45 rfl ?_
    refine e_callV [.int _] dX12_ofState_46 tm_12_295 rfl (Nat.le_of_ble_eq_true rfl) (rk_s hk) (Nat.le_of_ble_eq_true rfl) (Nat.le_refl _) (Nat.le_refl _) rfl (zp_X12_isDown hk HB (w.tmod 10) ⟨by omega, by omega⟩ ?_)
    refine z_ifb_eq 61 dX12_ofState_49 rfl (fun c2 => ?_) (fun c2 => ?_)
    · skip
      refine z_bipush (-2) dX12_ofState_61 rfl ?_
      refine z_iret dX12_ofState_63 rfl ⟨rfl, ?_⟩
      refine z_q kq ?_
      unfold tlS; rw [if_neg (show ¬ (0 ≤ w ∧ w < 10) by omega), if_pos (show w / 10 = 1 by omega), if_neg (by omega)]
    · skip
      refine e_aload_n dX12_ofState_52 rfl ?_
      refine e_get (.ref (m + 13)) dX12_ofState_53 tf_12_47 (rk_s hk) (congrArg va_rf (rk_r13 hk)) ?_
      refine e_iload_n dX12_ofState_56 rfl ?_
      refine z_ild (de g (w.tmod 10)) dX12_ofState_57 (rk_a13 hk) (by decide) (by omega) (by omega) (rB_de HB (by omega) (by omega)) ?_
      have y3 := wB_d (rB_w HB) (show 0 ≤ (w.tmod 10) by omega) (by omega)
      refine e_goto 63 dX12_ofState_58 rfl ?_
      refine z_iret dX12_ofState_63 rfl ⟨rfl, ?_⟩
      refine z_q kq ?_
      unfold tlS; rw [if_neg (show ¬ (0 ≤ w ∧ w < 10) by omega), if_pos (show w / 10 = 1 by omega), if_pos (by omega), zt.2]
  by_cases c4 : (w.tdiv 10) = 2
  · skip
    refine z_tableV (2) 64 dX12_ofState_9 c4 (by decide) (by decide +kernel) ?_
    have z0 : 0 ≤ w := by omega
    have zt := t0 z0
    have zt1 := zt.1
    have zt2 := zt.2
    refine e_aload_n dX12_ofState_64 rfl ?_
    refine e_iload_n dX12_ofState_65 rfl ?_
    refine e_callV [.int _] dX12_ofState_66 tm_12_295 rfl (Nat.le_of_ble_eq_true rfl) (rk_s hk) (Nat.le_of_ble_eq_true rfl) (Nat.le_refl _) (Nat.le_refl _) rfl (zp_X12_isDown hk HB (w.tmod 10) ⟨by omega, by omega⟩ ?_)
    refine z_ifb_eq 81 dX12_ofState_69 rfl (fun c5 => ?_) (fun c5 => ?_)
    · skip
      refine z_bipush (-2) dX12_ofState_81 rfl ?_
      refine z_iret dX12_ofState_83 rfl ⟨rfl, ?_⟩
      refine z_q kq ?_
      unfold tlS; rw [if_neg (show ¬ (0 ≤ w ∧ w < 10) by omega), if_neg (show ¬ w / 10 = 1 by omega), if_pos (show w / 10 = 2 by omega), if_neg (by omega)]
    · skip
      refine e_aload_n dX12_ofState_72 rfl ?_
      refine e_get (.ref (m + 11)) dX12_ofState_73 tf_12_41 (rk_s hk) (congrArg va_rf (rk_r11 hk)) ?_
      refine e_iload_n dX12_ofState_76 rfl ?_
      refine z_ild (dl g (w.tmod 10)) dX12_ofState_77 (rk_a11 hk) (by decide) (by omega) (by omega) (rB_dl HB (by omega) (by omega)) ?_
      have y6 := wB_d (rB_w HB) (show 0 ≤ (w.tmod 10) by omega) (by omega)
      refine e_goto 83 dX12_ofState_78 rfl ?_
      refine z_iret dX12_ofState_83 rfl ⟨rfl, ?_⟩
      refine z_q kq ?_
      unfold tlS; rw [if_neg (show ¬ (0 ≤ w ∧ w < 10) by omega), if_neg (show ¬ w / 10 = 1 by omega), if_pos (show w / 10 = 2 by omega), if_pos (by omega), zt.2]
  by_cases c7 : (w.tdiv 10) = 3
  · skip
    refine z_tableV (3) 84 dX12_ofState_9 c7 (by decide) (by decide +kernel) ?_
    have z0 : 0 ≤ w := by omega
    have zt := t0 z0
    have zt1 := zt.1
    have zt2 := zt.2
    refine e_aload_n dX12_ofState_84 rfl ?_
    refine e_iload_n dX12_ofState_85 rfl ?_
    refine e_callV [.int _] dX12_ofState_86 tm_12_295 rfl (Nat.le_of_ble_eq_true rfl) (rk_s hk) (Nat.le_of_ble_eq_true rfl) (Nat.le_refl _) (Nat.le_refl _) rfl (zp_X12_isDown hk HB (w.tmod 10) ⟨by omega, by omega⟩ ?_)
    refine z_ifb_eq 101 dX12_ofState_89 rfl (fun c8 => ?_) (fun c8 => ?_)
    · skip
      refine z_bipush (-2) dX12_ofState_101 rfl ?_
      refine z_iret dX12_ofState_103 rfl ⟨rfl, ?_⟩
      refine z_q kq ?_
      unfold tlS; rw [if_neg (show ¬ (0 ≤ w ∧ w < 10) by omega), if_neg (show ¬ w / 10 = 1 by omega), if_neg (show ¬ w / 10 = 2 by omega), if_pos (show w / 10 = 3 by omega), if_neg (by omega)]
    · skip
      refine e_aload_n dX12_ofState_92 rfl ?_
      refine e_get (.ref (m + 15)) dX12_ofState_93 tf_12_53 (rk_s hk) (congrArg va_rf (rk_r15 hk)) ?_
      refine e_iload_n dX12_ofState_96 rfl ?_
      refine z_ild (dm g (w.tmod 10)) dX12_ofState_97 (rk_a15 hk) (by decide) (by omega) (by omega) (rM_d HM (by omega) (by omega)) ?_
      have y9 := wM_d (rM_w HM) (show 0 ≤ (w.tmod 10) by omega) (by omega)
      refine e_goto 103 dX12_ofState_98 rfl ?_
      refine z_iret dX12_ofState_103 rfl ⟨rfl, ?_⟩
      refine z_q kq ?_
      unfold tlS; rw [if_neg (show ¬ (0 ≤ w ∧ w < 10) by omega), if_neg (show ¬ w / 10 = 1 by omega), if_neg (show ¬ w / 10 = 2 by omega), if_pos (show w / 10 = 3 by omega), if_pos (by omega), zt.2]
  by_cases c10 : (w.tdiv 10) = 4
  · skip
    refine z_tableV (4) 104 dX12_ofState_9 c10 (by decide) (by decide +kernel) ?_
    have z0 : 0 ≤ w := by omega
    have zt := t0 z0
    have zt1 := zt.1
    have zt2 := zt.2
    refine e_aload_n dX12_ofState_104 rfl ?_
    refine e_iload_n dX12_ofState_105 rfl ?_
    refine e_callV [.int _] dX12_ofState_106 tm_12_298 rfl (Nat.le_of_ble_eq_true rfl) (rk_s hk) (Nat.le_of_ble_eq_true rfl) (Nat.le_refl _) (Nat.le_refl _) rfl (zp_X12_isUp hk HB (w.tmod 10) ⟨by omega, by omega⟩ ?_)
    refine z_ifb_eq 124 dX12_ofState_109 rfl (fun c11 => ?_) (fun c11 => ?_)
    · skip
      refine z_bipush (-2) dX12_ofState_124 rfl ?_
      refine z_iret dX12_ofState_126 rfl ⟨rfl, ?_⟩
      refine z_q kq ?_
      unfold tlS; rw [if_neg (show ¬ (0 ≤ w ∧ w < 10) by omega), if_neg (show ¬ w / 10 = 1 by omega), if_neg (show ¬ w / 10 = 2 by omega), if_neg (show ¬ w / 10 = 3 by omega), if_pos (show w / 10 = 4 by omega), if_neg (by omega)]
    · skip
      refine e_aload_n dX12_ofState_112 rfl ?_
      refine e_get (.ref (m + 13)) dX12_ofState_113 tf_12_47 (rk_s hk) (congrArg va_rf (rk_r13 hk)) ?_
      refine z_bipush (6) dX12_ofState_116 rfl ?_
      refine e_iload_n dX12_ofState_118 rfl ?_
      refine z_iadd dX12_ofState_119 ?_
      refine z_ild (ue g (w.tmod 10)) dX12_ofState_120 (rk_a13 hk) (by decide) (by omega) (by omega) (rB_ue HB (by omega) (by omega)) ?_
      have y12 := wB_u (rB_w HB) (show 0 ≤ (w.tmod 10) by omega) (by omega)
      refine e_goto 126 dX12_ofState_121 rfl ?_
      refine z_iret dX12_ofState_126 rfl ⟨rfl, ?_⟩
      refine z_q kq ?_
      unfold tlS; rw [if_neg (show ¬ (0 ≤ w ∧ w < 10) by omega), if_neg (show ¬ w / 10 = 1 by omega), if_neg (show ¬ w / 10 = 2 by omega), if_neg (show ¬ w / 10 = 3 by omega), if_pos (show w / 10 = 4 by omega), if_pos (by omega), zt.2]
  by_cases c13 : (w.tdiv 10) = 5
  · skip
    refine z_tableV (5) 127 dX12_ofState_9 c13 (by decide) (by decide +kernel) ?_
    have z0 : 0 ≤ w := by omega
    have zt := t0 z0
    have zt1 := zt.1
    have zt2 := zt.2
    refine e_aload_n dX12_ofState_127 rfl ?_
    refine e_iload_n dX12_ofState_128 rfl ?_
    refine e_callV [.int _] dX12_ofState_129 tm_12_298 rfl (Nat.le_of_ble_eq_true rfl) (rk_s hk) (Nat.le_of_ble_eq_true rfl) (Nat.le_refl _) (Nat.le_refl _) rfl (zp_X12_isUp hk HB (w.tmod 10) ⟨by omega, by omega⟩ ?_)
    refine z_ifb_eq 147 dX12_ofState_132 rfl (fun c14 => ?_) (fun c14 => ?_)
    · skip
      refine z_bipush (-2) dX12_ofState_147 rfl ?_
      refine z_iret dX12_ofState_149 rfl ⟨rfl, ?_⟩
      refine z_q kq ?_
      unfold tlS; rw [if_neg (show ¬ (0 ≤ w ∧ w < 10) by omega), if_neg (show ¬ w / 10 = 1 by omega), if_neg (show ¬ w / 10 = 2 by omega), if_neg (show ¬ w / 10 = 3 by omega), if_neg (show ¬ w / 10 = 4 by omega), if_pos (show w / 10 = 5 by omega), if_neg (by omega)]
    · skip
      refine e_aload_n dX12_ofState_135 rfl ?_
      refine e_get (.ref (m + 11)) dX12_ofState_136 tf_12_41 (rk_s hk) (congrArg va_rf (rk_r11 hk)) ?_
      refine z_bipush (6) dX12_ofState_139 rfl ?_
      refine e_iload_n dX12_ofState_141 rfl ?_
      refine z_iadd dX12_ofState_142 ?_
      refine z_ild (ul g (w.tmod 10)) dX12_ofState_143 (rk_a11 hk) (by decide) (by omega) (by omega) (rB_ul HB (by omega) (by omega)) ?_
      have y15 := wB_u (rB_w HB) (show 0 ≤ (w.tmod 10) by omega) (by omega)
      refine e_goto 149 dX12_ofState_144 rfl ?_
      refine z_iret dX12_ofState_149 rfl ⟨rfl, ?_⟩
      refine z_q kq ?_
      unfold tlS; rw [if_neg (show ¬ (0 ≤ w ∧ w < 10) by omega), if_neg (show ¬ w / 10 = 1 by omega), if_neg (show ¬ w / 10 = 2 by omega), if_neg (show ¬ w / 10 = 3 by omega), if_neg (show ¬ w / 10 = 4 by omega), if_pos (show w / 10 = 5 by omega), if_pos (by omega), zt.2]
  refine z_tableD 150 dX12_ofState_9 ⟨by omega, by omega⟩ (by omega) rfl ?_
  refine e_aload_n dX12_ofState_150 rfl ?_
  refine e_iload_n dX12_ofState_151 rfl ?_
  refine e_callV [.int _] dX12_ofState_152 tm_12_376 rfl (Nat.le_of_ble_eq_true rfl) (rk_s hk) (Nat.le_of_ble_eq_true rfl) (Nat.le_refl _) (Nat.le_refl _) rfl (zp_X12_ofYear hk HQ w ⟨by omega, by omega⟩ ?_)
  refine z_iret dX12_ofState_155 rfl ⟨rfl, ?_⟩
  refine z_q kq ?_
  unfold tlS
  by_cases z : 0 ≤ w ∧ w < 10
  · rw [if_pos z]
  · have z2 : 0 ≤ w → w.tdiv 10 = w / 10 := fun y => (t0 y).1
    rw [if_neg z, if_neg (show ¬ w / 10 = 1 by omega), if_neg (show ¬ w / 10 = 2 by omega), if_neg (show ¬ w / 10 = 3 by omega), if_neg (show ¬ w / 10 = 4 by omega), if_neg (show ¬ w / 10 = 5 by omega), if_neg (by omega), if_neg (by omega), if_neg (by omega), if_neg (by omega), if_neg (by omega)]
set_option maxHeartbeats 400000 in
theorem zp_X12_layAll_in {ad : mA} {dd : Nat} {h : mH} {Q : mQ} {m : Nat} {σ : Sg} (hk : rk h m) (HR : refT h m 0 σ)  (f : Int) (f_r : -2147483648 ≤ f ∧ f < 2147483648) (y : Int) (y_r : -2147483648 ≤ y ∧ y < 2147483648) (p1 : 0 ≤ f ∧ f < cn σ 0) (p2 : 0 ≤ y ∧ y < cn σ 1) (kq : ∀ h1, frm (fun a i => (a = m ∧ (i = 32 ∨ (23 ≤ i ∧ i ≤ 26))) ∨ (m + 11 ≤ a ∧ a < m + 16)) h h1 → (rB h1 m (sG σ f)) → (rM h1 m (sG σ f)) → (rC h1 m (sG σ f)) → (rYr h1 m y) → Q (some (.int (zI (bZ True)))) h1) : mCal TB0 ad (dd + 4) M_X12_layAll [.ref m, .int (zI f), .int (zI y)] h 0 0 Q := by
  refine ⟨Nat.le_of_ble_eq_true rfl, ?_⟩
  show mEv TB0 ad M_X12_layAll (dd + 4) (0, 0) (mCal TB0 ad (dd + 3)) (fun v h' z => z.1 = 0 ∧ Q v h') 0 [some (.ref m), some (.int (zI f)), some (.int (zI y))] [] h (0, 0)
  have FR0 : frm (fun a i => (a = m ∧ (i = 32 ∨ (23 ≤ i ∧ i ≤ 26))) ∨ (m + 11 ≤ a ∧ a < m + 16)) h h := frm_0 h
  have w1 := wS_n (refT_w HR)
  refine e_aload_n dX12_layAll_0 rfl ?_
  refine e_iload_n dX12_layAll_1 rfl ?_
  refine e_callV [.int _] dX12_layAll_2 tm_12_304 rfl (Nat.le_of_ble_eq_true rfl) (rk_s hk) (Nat.le_of_ble_eq_true rfl) (Nat.le_refl _) (Nat.le_refl _) rfl (zp_X12_hasYear_in hk HR y ⟨by omega, by omega⟩ (by omega) (by omega) (fun  h1 f2 p3 => ?_))
  have k4 := rk_q (frm_s f2) hk
  have H5 := refT_c f2 (fun a k q1 q2 => by omega) HR
  have FR6 := frm_t FR0 (frm_m (S' := (fun a i => (a = m ∧ (i = 32 ∨ (23 ≤ i ∧ i ≤ 26))) ∨ (m + 11 ≤ a ∧ a < m + 16))) f2 (fun a k q => by omega))
  refine z_ifb_eq 20 dX12_layAll_5 rfl (fun c7 => ?_) (fun c7 => ?_)
  · exact absurd trivial c7
  · skip
    refine e_aload_n dX12_layAll_8 rfl ?_
    refine e_iload_n dX12_layAll_9 rfl ?_
    refine e_callV [.int _] dX12_layAll_10 tm_12_292 rfl (Nat.le_of_ble_eq_true rfl) (rk_s k4) (Nat.le_of_ble_eq_true rfl) (Nat.le_refl _) (Nat.le_refl _) rfl (zp_X12_hand_in k4 H5 f ⟨by omega, by omega⟩ (by omega) (by omega) (fun  h8 f9 p10 p11 p12 p13 => ?_))
    have k14 := rk_q (frm_s f9) k4
    have H15 := refT_c f9 (fun a k q1 q2 => by omega) H5
    have H16 := rYr_c f9 (fun a k q1 q2 => by omega) p3
    have FR17 := frm_t FR6 (frm_m (S' := (fun a i => (a = m ∧ (i = 32 ∨ (23 ≤ i ∧ i ≤ 26))) ∨ (m + 11 ≤ a ∧ a < m + 16))) f9 (fun a k q => by omega))
    refine z_ifb_eq 20 dX12_layAll_13 rfl (fun c18 => ?_) (fun c18 => ?_)
    · exact absurd trivial c18
    · skip
      refine z_iconst (1) dX12_layAll_16 rfl ?_
      refine e_goto 21 dX12_layAll_17 rfl ?_
      refine z_bret dX12_layAll_21 rfl (Or.inr rfl) ⟨rfl, ?_⟩
      exact z_q1 (kq _ FR17 p10 p11 p12 H16) trivial
set_option maxHeartbeats 400000 in
theorem zp_X12_layAll_oy {ad : mA} {dd : Nat} {h : mH} {Q : mQ} {m : Nat} {σ : Sg} (hk : rk h m) (HR : refT h m 0 σ)  (f : Int) (f_r : -2147483648 ≤ f ∧ f < 2147483648) (y : Int) (y_r : -2147483648 ≤ y ∧ y < 2147483648) (p2 : ¬ (0 ≤ y ∧ y < cn σ 1)) (kq : ∀ h1, frm (fun a i => (a = m ∧ (i = 32 ∨ (23 ≤ i ∧ i ≤ 26))) ∨ (m + 11 ≤ a ∧ a < m + 16)) h h1 → Q (some (.int (zI (bZ False)))) h1) : mCal TB0 ad (dd + 4) M_X12_layAll [.ref m, .int (zI f), .int (zI y)] h 0 0 Q := by
  refine ⟨Nat.le_of_ble_eq_true rfl, ?_⟩
  show mEv TB0 ad M_X12_layAll (dd + 4) (0, 0) (mCal TB0 ad (dd + 3)) (fun v h' z => z.1 = 0 ∧ Q v h') 0 [some (.ref m), some (.int (zI f)), some (.int (zI y))] [] h (0, 0)
  have FR0 : frm (fun a i => (a = m ∧ (i = 32 ∨ (23 ≤ i ∧ i ≤ 26))) ∨ (m + 11 ≤ a ∧ a < m + 16)) h h := frm_0 h
  have w1 := wS_n (refT_w HR)
  refine e_aload_n dX12_layAll_0 rfl ?_
  refine e_iload_n dX12_layAll_1 rfl ?_
  refine e_callV [.int _] dX12_layAll_2 tm_12_304 rfl (Nat.le_of_ble_eq_true rfl) (rk_s hk) (Nat.le_of_ble_eq_true rfl) (Nat.le_refl _) (Nat.le_refl _) rfl (zp_X12_hasYear_out hk HR y ⟨by omega, by omega⟩ (by omega) (fun  h1 f2  => ?_))
  have k3 := rk_q (frm_s f2) hk
  have H4 := refT_c f2 (fun a k q1 q2 => by omega) HR
  have FR5 := frm_t FR0 (frm_m (S' := (fun a i => (a = m ∧ (i = 32 ∨ (23 ≤ i ∧ i ≤ 26))) ∨ (m + 11 ≤ a ∧ a < m + 16))) f2 (fun a k q => by omega))
  refine z_ifb_eq 20 dX12_layAll_5 rfl (fun c6 => ?_) (fun c6 => ?_)
  · skip
    refine z_iconst (0) dX12_layAll_20 rfl ?_
    refine z_bret dX12_layAll_21 rfl (Or.inl rfl) ⟨rfl, ?_⟩
    exact z_q0 (kq _ FR5) id
  · exact absurd c6 id
set_option maxHeartbeats 400000 in
theorem zp_X12_layAll_of {ad : mA} {dd : Nat} {h : mH} {Q : mQ} {m : Nat} {σ : Sg} (hk : rk h m) (HR : refT h m 0 σ)  (f : Int) (f_r : -2147483648 ≤ f ∧ f < 2147483648) (y : Int) (y_r : -2147483648 ≤ y ∧ y < 2147483648) (p1 : ¬ (0 ≤ f ∧ f < cn σ 0)) (p2 : 0 ≤ y ∧ y < cn σ 1) (kq : ∀ h1, frm (fun a i => (a = m ∧ (i = 32 ∨ (23 ≤ i ∧ i ≤ 26))) ∨ (m + 11 ≤ a ∧ a < m + 16)) h h1 → Q (some (.int (zI (bZ False)))) h1) : mCal TB0 ad (dd + 4) M_X12_layAll [.ref m, .int (zI f), .int (zI y)] h 0 0 Q := by
  refine ⟨Nat.le_of_ble_eq_true rfl, ?_⟩
  show mEv TB0 ad M_X12_layAll (dd + 4) (0, 0) (mCal TB0 ad (dd + 3)) (fun v h' z => z.1 = 0 ∧ Q v h') 0 [some (.ref m), some (.int (zI f)), some (.int (zI y))] [] h (0, 0)
  have FR0 : frm (fun a i => (a = m ∧ (i = 32 ∨ (23 ≤ i ∧ i ≤ 26))) ∨ (m + 11 ≤ a ∧ a < m + 16)) h h := frm_0 h
  have w1 := wS_n (refT_w HR)
  refine e_aload_n dX12_layAll_0 rfl ?_
  refine e_iload_n dX12_layAll_1 rfl ?_
  refine e_callV [.int _] dX12_layAll_2 tm_12_304 rfl (Nat.le_of_ble_eq_true rfl) (rk_s hk) (Nat.le_of_ble_eq_true rfl) (Nat.le_refl _) (Nat.le_refl _) rfl (zp_X12_hasYear_in hk HR y ⟨by omega, by omega⟩ (by omega) (by omega) (fun  h1 f2 p3 => ?_))
  have k4 := rk_q (frm_s f2) hk
  have H5 := refT_c f2 (fun a k q1 q2 => by omega) HR
  have FR6 := frm_t FR0 (frm_m (S' := (fun a i => (a = m ∧ (i = 32 ∨ (23 ≤ i ∧ i ≤ 26))) ∨ (m + 11 ≤ a ∧ a < m + 16))) f2 (fun a k q => by omega))
  refine z_ifb_eq 20 dX12_layAll_5 rfl (fun c7 => ?_) (fun c7 => ?_)
  · exact absurd trivial c7
  · skip
    refine e_aload_n dX12_layAll_8 rfl ?_
    refine e_iload_n dX12_layAll_9 rfl ?_
    refine e_callV [.int _] dX12_layAll_10 tm_12_292 rfl (Nat.le_of_ble_eq_true rfl) (rk_s k4) (Nat.le_of_ble_eq_true rfl) (Nat.le_refl _) (Nat.le_refl _) rfl (zp_X12_hand_out k4 H5 f ⟨by omega, by omega⟩ (by omega) ?_)
    refine z_ifb_eq 20 dX12_layAll_13 rfl (fun c8 => ?_) (fun c8 => ?_)
    · skip
      refine z_iconst (0) dX12_layAll_20 rfl ?_
      refine z_bret dX12_layAll_21 rfl (Or.inl rfl) ⟨rfl, ?_⟩
      exact z_q0 (kq _ FR6) id
    · exact absurd c8 id
set_option maxHeartbeats 400000 in
theorem zp_X12_till_in {ad : mA} {dd : Nat} {h : mH} {Q : mQ} {m : Nat} {σ : Sg} (hk : rk h m) (HR : refT h m 0 σ)  (f : Int) (f_r : -2147483648 ≤ f ∧ f < 2147483648) (y : Int) (y_r : -2147483648 ≤ y ∧ y < 2147483648) (p1 : 0 ≤ f ∧ f < cn σ 0) (p2 : 0 ≤ y ∧ y < cn σ 1) (kq : ∀ v : Int, (lvR (sY σ y) (sG σ f) (sY σ y 0) v) → ∀ h1, frm (fun a i => a = m ∨ (m + 9 ≤ a ∧ a < m + 30)) h h1 → Q (some (.int (zI v))) h1) : mCal TB0 ad (dd + 8) M_X12_till [.ref m, .int (zI f), .int (zI y)] h 0 0 Q := by
  refine ⟨Nat.le_of_ble_eq_true rfl, ?_⟩
  show mEv TB0 ad M_X12_till (dd + 8) (0, 0) (mCal TB0 ad (dd + 7)) (fun v h' z => z.1 = 0 ∧ Q v h') 0 [some (.ref m), some (.int (zI f)), some (.int (zI y))] [] h (0, 0)
  have FR0 : frm (fun a i => a = m ∨ (m + 9 ≤ a ∧ a < m + 30)) h h := frm_0 h
  have w1 := wS_n (refT_w HR)
  refine e_aload_n dX12_till_0 rfl ?_
  refine z_iconst (0) dX12_till_1 rfl ?_
  refine z_put dX12_till_2 tf_12_103 (rk_s hk) rfl (Or.inl rfl) (fun h1 e2 => ?_)
  have f3 := frm_1 e2
  have k4 := rk_q (frm_s f3) hk
  have H5 := refT_c f3 (fun a k q1 q2 => by omega) HR
  have FR6 := frm_t FR0 (frm_m (S' := (fun a i => a = m ∨ (m + 9 ≤ a ∧ a < m + 30))) f3 (fun a k q => by omega))
  refine e_aload_n dX12_till_5 rfl ?_
  refine e_iload_n dX12_till_6 rfl ?_
  refine e_iload_n dX12_till_7 rfl ?_
  refine e_callV [.int _, .int _] dX12_till_8 tm_12_370 rfl (Nat.le_of_ble_eq_true rfl) (rk_s k4) (Nat.le_of_ble_eq_true rfl) (Nat.le_refl _) (Nat.le_refl _) rfl (zp_X12_layAll_in k4 H5 f ⟨by omega, by omega⟩ y ⟨by omega, by omega⟩ (by omega) (by omega) (fun  h7 f8 p9 p10 p11 p12 => ?_))
  have k13 := rk_q (frm_s f8) k4
  have H14 := refT_c f8 (fun a k q1 q2 => by omega) H5
  have FR15 := frm_t FR6 (frm_m (S' := (fun a i => a = m ∨ (m + 9 ≤ a ∧ a < m + 30))) f8 (fun a k q => by omega))
  refine z_ifb_eq 25 dX12_till_11 rfl (fun c16 => ?_) (fun c16 => ?_)
  · exact absurd trivial c16
  · skip
    refine e_aload_n dX12_till_14 rfl ?_
    refine e_aload_n dX12_till_15 rfl ?_
    refine e_callV [] dX12_till_16 tm_12_307 rfl (Nat.le_of_ble_eq_true rfl) (rk_s k13) (Nat.le_of_ble_eq_true rfl) (Nat.le_refl _) (Nat.le_refl _) rfl (zp_X12_deeds k13 H14 p12 (by omega) ?_)
    have y17 := ((refT_w H14).2.2.2.1 y (by omega) (by omega)).1
    refine e_callV [.int _] dX12_till_19 tm_12_373 rfl (Nat.le_of_ble_eq_true rfl) (rk_s k13) (Nat.le_of_ble_eq_true rfl) (Nat.le_refl _) (Nat.le_refl _) rfl (zp_X12_play k13 H14 p12 p9 p10 p11 (sY σ y 0) ⟨by omega, by omega⟩ (by omega) (by omega) (fun v18 p19 h20 f21 p22 p23 p24 p25 => ?_))
    have k26 := rk_q (frm_s f21) k13
    have H27 := refT_c f21 (fun a k q1 q2 => by omega) H14
    have H28 := rYr_c f21 (fun a k q1 q2 => by omega) p12
    have FR29 := frm_t FR15 (frm_m (S' := (fun a i => a = m ∨ (m + 9 ≤ a ∧ a < m + 30))) f21 (fun a k q => by omega))
    refine e_goto 26 dX12_till_22 rfl ?_
    refine z_iret dX12_till_26 rfl ⟨rfl, ?_⟩
    exact kq _ (by assumption) _ FR29
set_option maxHeartbeats 400000 in
theorem zp_X12_till_oy {ad : mA} {dd : Nat} {h : mH} {Q : mQ} {m : Nat} {σ : Sg} (hk : rk h m) (HR : refT h m 0 σ)  (f : Int) (f_r : -2147483648 ≤ f ∧ f < 2147483648) (y : Int) (y_r : -2147483648 ≤ y ∧ y < 2147483648) (p2 : ¬ (0 ≤ y ∧ y < cn σ 1)) (kq : ∀ h1, frm (fun a i => a = m ∨ (m + 9 ≤ a ∧ a < m + 30)) h h1 → Q (some (.int (zI (-1)))) h1) : mCal TB0 ad (dd + 8) M_X12_till [.ref m, .int (zI f), .int (zI y)] h 0 0 Q := by
  refine ⟨Nat.le_of_ble_eq_true rfl, ?_⟩
  show mEv TB0 ad M_X12_till (dd + 8) (0, 0) (mCal TB0 ad (dd + 7)) (fun v h' z => z.1 = 0 ∧ Q v h') 0 [some (.ref m), some (.int (zI f)), some (.int (zI y))] [] h (0, 0)
  have FR0 : frm (fun a i => a = m ∨ (m + 9 ≤ a ∧ a < m + 30)) h h := frm_0 h
  have w1 := wS_n (refT_w HR)
  refine e_aload_n dX12_till_0 rfl ?_
  refine z_iconst (0) dX12_till_1 rfl ?_
  refine z_put dX12_till_2 tf_12_103 (rk_s hk) rfl (Or.inl rfl) (fun h1 e2 => ?_)
  have f3 := frm_1 e2
  have k4 := rk_q (frm_s f3) hk
  have H5 := refT_c f3 (fun a k q1 q2 => by omega) HR
  have FR6 := frm_t FR0 (frm_m (S' := (fun a i => a = m ∨ (m + 9 ≤ a ∧ a < m + 30))) f3 (fun a k q => by omega))
  refine e_aload_n dX12_till_5 rfl ?_
  refine e_iload_n dX12_till_6 rfl ?_
  refine e_iload_n dX12_till_7 rfl ?_
  refine e_callV [.int _, .int _] dX12_till_8 tm_12_370 rfl (Nat.le_of_ble_eq_true rfl) (rk_s k4) (Nat.le_of_ble_eq_true rfl) (Nat.le_refl _) (Nat.le_refl _) rfl (zp_X12_layAll_oy k4 H5 f ⟨by omega, by omega⟩ y ⟨by omega, by omega⟩ (by omega) (fun  h7 f8  => ?_))
  have k9 := rk_q (frm_s f8) k4
  have H10 := refT_c f8 (fun a k q1 q2 => by omega) H5
  have FR11 := frm_t FR6 (frm_m (S' := (fun a i => a = m ∨ (m + 9 ≤ a ∧ a < m + 30))) f8 (fun a k q => by omega))
  refine z_ifb_eq 25 dX12_till_11 rfl (fun c12 => ?_) (fun c12 => ?_)
  · skip
    refine z_iconst (-1) dX12_till_25 rfl ?_
    refine z_iret dX12_till_26 rfl ⟨rfl, ?_⟩
    exact kq _ FR11
  · exact absurd c12 id
set_option maxHeartbeats 400000 in
theorem zp_X12_till_of {ad : mA} {dd : Nat} {h : mH} {Q : mQ} {m : Nat} {σ : Sg} (hk : rk h m) (HR : refT h m 0 σ)  (f : Int) (f_r : -2147483648 ≤ f ∧ f < 2147483648) (y : Int) (y_r : -2147483648 ≤ y ∧ y < 2147483648) (p1 : ¬ (0 ≤ f ∧ f < cn σ 0)) (p2 : 0 ≤ y ∧ y < cn σ 1) (kq : ∀ h1, frm (fun a i => a = m ∨ (m + 9 ≤ a ∧ a < m + 30)) h h1 → Q (some (.int (zI (-1)))) h1) : mCal TB0 ad (dd + 8) M_X12_till [.ref m, .int (zI f), .int (zI y)] h 0 0 Q := by
  refine ⟨Nat.le_of_ble_eq_true rfl, ?_⟩
  show mEv TB0 ad M_X12_till (dd + 8) (0, 0) (mCal TB0 ad (dd + 7)) (fun v h' z => z.1 = 0 ∧ Q v h') 0 [some (.ref m), some (.int (zI f)), some (.int (zI y))] [] h (0, 0)
  have FR0 : frm (fun a i => a = m ∨ (m + 9 ≤ a ∧ a < m + 30)) h h := frm_0 h
  have w1 := wS_n (refT_w HR)
  refine e_aload_n dX12_till_0 rfl ?_
  refine z_iconst (0) dX12_till_1 rfl ?_
  refine z_put dX12_till_2 tf_12_103 (rk_s hk) rfl (Or.inl rfl) (fun h1 e2 => ?_)
  have f3 := frm_1 e2
  have k4 := rk_q (frm_s f3) hk
  have H5 := refT_c f3 (fun a k q1 q2 => by omega) HR
  have FR6 := frm_t FR0 (frm_m (S' := (fun a i => a = m ∨ (m + 9 ≤ a ∧ a < m + 30))) f3 (fun a k q => by omega))
  refine e_aload_n dX12_till_5 rfl ?_
  refine e_iload_n dX12_till_6 rfl ?_
  refine e_iload_n dX12_till_7 rfl ?_
  refine e_callV [.int _, .int _] dX12_till_8 tm_12_370 rfl (Nat.le_of_ble_eq_true rfl) (rk_s k4) (Nat.le_of_ble_eq_true rfl) (Nat.le_refl _) (Nat.le_refl _) rfl (zp_X12_layAll_of k4 H5 f ⟨by omega, by omega⟩ y ⟨by omega, by omega⟩ (by omega) (by omega) (fun  h7 f8  => ?_))
  have k9 := rk_q (frm_s f8) k4
  have H10 := refT_c f8 (fun a k q1 q2 => by omega) H5
  have FR11 := frm_t FR6 (frm_m (S' := (fun a i => a = m ∨ (m + 9 ≤ a ∧ a < m + 30))) f8 (fun a k q => by omega))
  refine z_ifb_eq 25 dX12_till_11 rfl (fun c12 => ?_) (fun c12 => ?_)
  · skip
    refine z_iconst (-1) dX12_till_25 rfl ?_
    refine z_iret dX12_till_26 rfl ⟨rfl, ?_⟩
    exact kq _ FR11
  · exact absurd c12 id
set_option maxHeartbeats 400000 in
theorem zp_X12_state_in {ad : mA} {dd : Nat} {h : mH} {Q : mQ} {m : Nat} {σ : Sg} (hk : rk h m) (HR : refT h m 0 σ)  (f : Int) (f_r : -2147483648 ≤ f ∧ f < 2147483648) (y : Int) (y_r : -2147483648 ≤ y ∧ y < 2147483648) (n : Int) (n_r : -2147483648 ≤ n ∧ n < 2147483648) (w : Int) (w_r : -2147483648 ≤ w ∧ w < 2147483648) (p1 : 0 ≤ f ∧ f < cn σ 0) (p2 : 0 ≤ y ∧ y < cn σ 1) (kq : ∀ v : Int, (stR (sY σ y) (sG σ f) n w v) → ∀ h1, frm (fun a i => a = m ∨ (m + 9 ≤ a ∧ a < m + 30)) h h1 → Q (some (.int (zI v))) h1) : mCal TB0 ad (dd + 8) M_X12_state [.ref m, .int (zI f), .int (zI y), .int (zI n), .int (zI w)] h 0 0 Q := by
  refine ⟨Nat.le_of_ble_eq_true rfl, ?_⟩
  show mEv TB0 ad M_X12_state (dd + 8) (0, 0) (mCal TB0 ad (dd + 7)) (fun v h' z => z.1 = 0 ∧ Q v h') 0 [some (.ref m), some (.int (zI f)), some (.int (zI y)), some (.int (zI n)), some (.int (zI w))] [] h (0, 0)
  have FR0 : frm (fun a i => a = m ∨ (m + 9 ≤ a ∧ a < m + 30)) h h := frm_0 h
  have w1 := wS_n (refT_w HR)
  refine e_aload_n dX12_state_0 rfl ?_
  refine z_iconst (0) dX12_state_1 rfl ?_
  refine z_put dX12_state_2 tf_12_103 (rk_s hk) rfl (Or.inl rfl) (fun h1 e2 => ?_)
  have f3 := frm_1 e2
  have k4 := rk_q (frm_s f3) hk
  have H5 := refT_c f3 (fun a k q1 q2 => by omega) HR
  have FR6 := frm_t FR0 (frm_m (S' := (fun a i => a = m ∨ (m + 9 ≤ a ∧ a < m + 30))) f3 (fun a k q => by omega))
  refine e_aload_n dX12_state_5 rfl ?_
  refine e_iload_n dX12_state_6 rfl ?_
  refine e_iload_n dX12_state_7 rfl ?_
  refine e_callV [.int _, .int _] dX12_state_8 tm_12_370 rfl (Nat.le_of_ble_eq_true rfl) (rk_s k4) (Nat.le_of_ble_eq_true rfl) (Nat.le_refl _) (Nat.le_refl _) rfl (zp_X12_layAll_in k4 H5 f ⟨by omega, by omega⟩ y ⟨by omega, by omega⟩ (by omega) (by omega) (fun  h7 f8 p9 p10 p11 p12 => ?_))
  have k13 := rk_q (frm_s f8) k4
  have H14 := refT_c f8 (fun a k q1 q2 => by omega) H5
  have FR15 := frm_t FR6 (frm_m (S' := (fun a i => a = m ∨ (m + 9 ≤ a ∧ a < m + 30))) f8 (fun a k q => by omega))
  refine z_ifb_eq 44 dX12_state_11 rfl (fun c16 => ?_) (fun c16 => ?_)
  · exact absurd trivial c16
  · skip
    refine e_iload_n dX12_state_14 rfl ?_
    refine z_iconst (0) dX12_state_15 rfl ?_
    refine e_aload_n dX12_state_16 rfl ?_
    refine e_callV [] dX12_state_17 tm_12_307 rfl (Nat.le_of_ble_eq_true rfl) (rk_s k13) (Nat.le_of_ble_eq_true rfl) (Nat.le_refl _) (Nat.le_refl _) rfl (zp_X12_deeds k13 H14 p12 (by omega) ?_)
    have y17 := ((refT_w H14).2.2.2.1 y (by omega) (by omega)).1
    refine e_callS [.int _, .int _, .int _] dX12_state_20 tm_12_115 rfl (Nat.le_of_ble_eq_true rfl) (Nat.le_refl _) (Nat.le_refl _) rfl (zp_X12_in n ⟨by omega, by omega⟩ 0 ⟨by omega, by omega⟩ (sY σ y 0) ⟨by omega, by omega⟩ ?_)
    refine z_ifb_eq 44 dX12_state_23 rfl (fun c18 => ?_) (fun c18 => ?_)
    · skip
      refine z_bipush (-2) dX12_state_44 rfl ?_
      refine z_iret dX12_state_46 rfl ⟨rfl, ?_⟩
      refine kq _ ?_ _ FR15
      first | exact stR_o (by omega) | exact stR_y (by assumption) (by assumption) | exact stR_n (by assumption) (by assumption)
    · skip
      refine e_aload_n dX12_state_26 rfl ?_
      refine e_iload_n dX12_state_27 rfl ?_
      refine e_callV [.int _] dX12_state_28 tm_12_373 rfl (Nat.le_of_ble_eq_true rfl) (rk_s k13) (Nat.le_of_ble_eq_true rfl) (Nat.le_refl _) (Nat.le_refl _) rfl (zp_X12_play k13 H14 p12 p9 p10 p11 n ⟨by omega, by omega⟩ (by omega) (by omega) (fun v19 p20 h21 f22 p23 p24 p25 p26 => ?_))
      have k27 := rk_q (frm_s f22) k13
      have H28 := refT_c f22 (fun a k q1 q2 => by omega) H14
      have H29 := rYr_c f22 (fun a k q1 q2 => by omega) p12
      have FR30 := frm_t FR15 (frm_m (S' := (fun a i => a = m ∨ (m + 9 ≤ a ∧ a < m + 30))) f22 (fun a k q => by omega))
      refine e_iload_n dX12_state_31 rfl ?_
      have lb : lvR (sY σ y) (sG σ f) n v19 := by assumption
      have lb2 := lb.1
      refine z_icmp_ne 44 dX12_state_32 rfl ⟨by omega, by omega⟩ ⟨by omega, by omega⟩ (fun c31 => ?_) (fun c31 => ?_)
      · skip
        refine z_bipush (-2) dX12_state_44 rfl ?_
        refine z_iret dX12_state_46 rfl ⟨rfl, ?_⟩
        refine kq _ ?_ _ FR30
        first | exact stR_o (by omega) | exact stR_y (by assumption) (by assumption) | exact stR_n (by assumption) (by assumption)
      · skip
        refine e_aload_n dX12_state_35 rfl ?_
        refine e_iload dX12_state_36 rfl ?_
        refine e_callV [.int _] dX12_state_38 tm_12_379 rfl (Nat.le_of_ble_eq_true rfl) (rk_s k27) (Nat.le_of_ble_eq_true rfl) (Nat.le_refl _) (Nat.le_refl _) rfl (zp_X12_ofState k27 p23 p24 p26 w ⟨by omega, by omega⟩ ?_)
        refine e_goto 46 dX12_state_41 rfl ?_
        refine z_iret dX12_state_46 rfl ⟨rfl, ?_⟩
        refine kq _ ?_ _ FR30
        first | exact stR_o (by omega) | exact stR_y (by assumption) (by assumption) | exact stR_n (by assumption) (by assumption)
set_option maxHeartbeats 400000 in
theorem zp_X12_state_oy {ad : mA} {dd : Nat} {h : mH} {Q : mQ} {m : Nat} {σ : Sg} (hk : rk h m) (HR : refT h m 0 σ)  (f : Int) (f_r : -2147483648 ≤ f ∧ f < 2147483648) (y : Int) (y_r : -2147483648 ≤ y ∧ y < 2147483648) (n : Int) (n_r : -2147483648 ≤ n ∧ n < 2147483648) (w : Int) (w_r : -2147483648 ≤ w ∧ w < 2147483648) (p2 : ¬ (0 ≤ y ∧ y < cn σ 1)) (kq : ∀ h1, frm (fun a i => a = m ∨ (m + 9 ≤ a ∧ a < m + 30)) h h1 → Q (some (.int (zI (-2)))) h1) : mCal TB0 ad (dd + 8) M_X12_state [.ref m, .int (zI f), .int (zI y), .int (zI n), .int (zI w)] h 0 0 Q := by
  refine ⟨Nat.le_of_ble_eq_true rfl, ?_⟩
  show mEv TB0 ad M_X12_state (dd + 8) (0, 0) (mCal TB0 ad (dd + 7)) (fun v h' z => z.1 = 0 ∧ Q v h') 0 [some (.ref m), some (.int (zI f)), some (.int (zI y)), some (.int (zI n)), some (.int (zI w))] [] h (0, 0)
  have FR0 : frm (fun a i => a = m ∨ (m + 9 ≤ a ∧ a < m + 30)) h h := frm_0 h
  have w1 := wS_n (refT_w HR)
  refine e_aload_n dX12_state_0 rfl ?_
  refine z_iconst (0) dX12_state_1 rfl ?_
  refine z_put dX12_state_2 tf_12_103 (rk_s hk) rfl (Or.inl rfl) (fun h1 e2 => ?_)
  have f3 := frm_1 e2
  have k4 := rk_q (frm_s f3) hk
  have H5 := refT_c f3 (fun a k q1 q2 => by omega) HR
  have FR6 := frm_t FR0 (frm_m (S' := (fun a i => a = m ∨ (m + 9 ≤ a ∧ a < m + 30))) f3 (fun a k q => by omega))
  refine e_aload_n dX12_state_5 rfl ?_
  refine e_iload_n dX12_state_6 rfl ?_
  refine e_iload_n dX12_state_7 rfl ?_
  refine e_callV [.int _, .int _] dX12_state_8 tm_12_370 rfl (Nat.le_of_ble_eq_true rfl) (rk_s k4) (Nat.le_of_ble_eq_true rfl) (Nat.le_refl _) (Nat.le_refl _) rfl (zp_X12_layAll_oy k4 H5 f ⟨by omega, by omega⟩ y ⟨by omega, by omega⟩ (by omega) (fun  h7 f8  => ?_))
  have k9 := rk_q (frm_s f8) k4
  have H10 := refT_c f8 (fun a k q1 q2 => by omega) H5
  have FR11 := frm_t FR6 (frm_m (S' := (fun a i => a = m ∨ (m + 9 ≤ a ∧ a < m + 30))) f8 (fun a k q => by omega))
  refine z_ifb_eq 44 dX12_state_11 rfl (fun c12 => ?_) (fun c12 => ?_)
  · skip
    refine z_bipush (-2) dX12_state_44 rfl ?_
    refine z_iret dX12_state_46 rfl ⟨rfl, ?_⟩
    exact kq _ FR11
  · exact absurd c12 id
set_option maxHeartbeats 400000 in
theorem zp_X12_state_of {ad : mA} {dd : Nat} {h : mH} {Q : mQ} {m : Nat} {σ : Sg} (hk : rk h m) (HR : refT h m 0 σ)  (f : Int) (f_r : -2147483648 ≤ f ∧ f < 2147483648) (y : Int) (y_r : -2147483648 ≤ y ∧ y < 2147483648) (n : Int) (n_r : -2147483648 ≤ n ∧ n < 2147483648) (w : Int) (w_r : -2147483648 ≤ w ∧ w < 2147483648) (p1 : ¬ (0 ≤ f ∧ f < cn σ 0)) (p2 : 0 ≤ y ∧ y < cn σ 1) (kq : ∀ h1, frm (fun a i => a = m ∨ (m + 9 ≤ a ∧ a < m + 30)) h h1 → Q (some (.int (zI (-2)))) h1) : mCal TB0 ad (dd + 8) M_X12_state [.ref m, .int (zI f), .int (zI y), .int (zI n), .int (zI w)] h 0 0 Q := by
  refine ⟨Nat.le_of_ble_eq_true rfl, ?_⟩
  show mEv TB0 ad M_X12_state (dd + 8) (0, 0) (mCal TB0 ad (dd + 7)) (fun v h' z => z.1 = 0 ∧ Q v h') 0 [some (.ref m), some (.int (zI f)), some (.int (zI y)), some (.int (zI n)), some (.int (zI w))] [] h (0, 0)
  have FR0 : frm (fun a i => a = m ∨ (m + 9 ≤ a ∧ a < m + 30)) h h := frm_0 h
  have w1 := wS_n (refT_w HR)
  refine e_aload_n dX12_state_0 rfl ?_
  refine z_iconst (0) dX12_state_1 rfl ?_
  refine z_put dX12_state_2 tf_12_103 (rk_s hk) rfl (Or.inl rfl) (fun h1 e2 => ?_)
  have f3 := frm_1 e2
  have k4 := rk_q (frm_s f3) hk
  have H5 := refT_c f3 (fun a k q1 q2 => by omega) HR
  have FR6 := frm_t FR0 (frm_m (S' := (fun a i => a = m ∨ (m + 9 ≤ a ∧ a < m + 30))) f3 (fun a k q => by omega))
  refine e_aload_n dX12_state_5 rfl ?_
  refine e_iload_n dX12_state_6 rfl ?_
  refine e_iload_n dX12_state_7 rfl ?_
  refine e_callV [.int _, .int _] dX12_state_8 tm_12_370 rfl (Nat.le_of_ble_eq_true rfl) (rk_s k4) (Nat.le_of_ble_eq_true rfl) (Nat.le_refl _) (Nat.le_refl _) rfl (zp_X12_layAll_of k4 H5 f ⟨by omega, by omega⟩ y ⟨by omega, by omega⟩ (by omega) (by omega) (fun  h7 f8  => ?_))
  have k9 := rk_q (frm_s f8) k4
  have H10 := refT_c f8 (fun a k q1 q2 => by omega) H5
  have FR11 := frm_t FR6 (frm_m (S' := (fun a i => a = m ∨ (m + 9 ≤ a ∧ a < m + 30))) f8 (fun a k q => by omega))
  refine z_ifb_eq 44 dX12_state_11 rfl (fun c12 => ?_) (fun c12 => ?_)
  · skip
    refine z_bipush (-2) dX12_state_44 rfl ?_
    refine z_iret dX12_state_46 rfl ⟨rfl, ?_⟩
    exact kq _ FR11
  · exact absurd c12 id

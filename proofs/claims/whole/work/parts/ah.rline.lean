/-! TEXT: the reference takes numbers; its lines of a forge -/
theorem dX12_take_0 : decode cX12_take 0 = .ok (.aload_n 0, 1) := by decide +kernel
theorem dX12_take_1 : decode cX12_take 1 = .ok (.getfield 140, 3) := by decide +kernel
theorem dX12_take_4 : decode cX12_take 4 = .ok (.iconst 3, 1) := by decide +kernel
theorem dX12_take_5 : decode cX12_take 5 = .ok (.if_icmp .eq 8, 3) := by decide +kernel
theorem dX12_take_8 : decode cX12_take 8 = .ok (.aload_n 0, 1) := by decide +kernel
theorem dX12_take_9 : decode cX12_take 9 = .ok (.invokevirtual 155, 3) := by decide +kernel
theorem dX12_take_12 : decode cX12_take 12 = .ok (.ireturn, 1) := by decide +kernel
theorem dX12_take_13 : decode cX12_take 13 = .ok (.aload_n 0, 1) := by decide +kernel
theorem dX12_take_14 : decode cX12_take 14 = .ok (.getfield 38, 3) := by decide +kernel
theorem dX12_take_17 : decode cX12_take 17 = .ok (.iload_n 1, 1) := by decide +kernel
theorem dX12_take_18 : decode cX12_take 18 = .ok (.aload_n 0, 1) := by decide +kernel
theorem dX12_take_19 : decode cX12_take 19 = .ok (.getfield 143, 3) := by decide +kernel
theorem dX12_take_22 : decode cX12_take 22 = .ok (.iastore, 1) := by decide +kernel
theorem dX12_take_23 : decode cX12_take 23 = .ok (.aload_n 0, 1) := by decide +kernel
theorem dX12_take_24 : decode cX12_take 24 = .ok (.getfield 143, 3) := by decide +kernel
theorem dX12_take_27 : decode cX12_take 27 = .ok (.iload_n 2, 1) := by decide +kernel
theorem dX12_take_28 : decode cX12_take 28 = .ok (.iload_n 3, 1) := by decide +kernel
theorem dX12_take_29 : decode cX12_take 29 = .ok (.invokestatic 115, 3) := by decide +kernel
theorem dX12_take_32 : decode cX12_take 32 = .ok (.ifCond .ne 17, 3) := by decide +kernel
theorem dX12_take_35 : decode cX12_take 35 = .ok (.aload_n 0, 1) := by decide +kernel
theorem dX12_take_36 : decode cX12_take 36 = .ok (.iconst 2, 1) := by decide +kernel
theorem dX12_take_37 : decode cX12_take 37 = .ok (.aload_n 0, 1) := by decide +kernel
theorem dX12_take_38 : decode cX12_take 38 = .ok (.getfield 133, 3) := by decide +kernel
theorem dX12_take_41 : decode cX12_take 41 = .ok (.invokevirtual 159, 3) := by decide +kernel
theorem dX12_take_44 : decode cX12_take 44 = .ok (.aload_n 0, 1) := by decide +kernel
theorem dX12_take_45 : decode cX12_take 45 = .ok (.iconst 0, 1) := by decide +kernel
theorem dX12_take_46 : decode cX12_take 46 = .ok (.putfield 163, 3) := by decide +kernel
theorem dX12_take_49 : decode cX12_take 49 = .ok (.aload_n 0, 1) := by decide +kernel
theorem dX12_take_50 : decode cX12_take 50 = .ok (.invokevirtual 167, 3) := by decide +kernel
theorem dX12_take_53 : decode cX12_take 53 = .ok (.iconst 1, 1) := by decide +kernel
theorem dX12_take_54 : decode cX12_take 54 = .ok (.ireturn, 1) := by decide +kernel
theorem dX12_full_0 : decode cX12_full 0 = .ok (.aload_n 0, 1) := by decide +kernel
theorem dX12_full_1 : decode cX12_full 1 = .ok (.getfield 35, 3) := by decide +kernel
theorem dX12_full_4 : decode cX12_full 4 = .ok (.iload_n 1, 1) := by decide +kernel
theorem dX12_full_5 : decode cX12_full 5 = .ok (.iaload, 1) := by decide +kernel
theorem dX12_full_6 : decode cX12_full 6 = .ok (.iload_n 2, 1) := by decide +kernel
theorem dX12_full_7 : decode cX12_full 7 = .ok (.if_icmp .ne 9, 3) := by decide +kernel
theorem dX12_full_10 : decode cX12_full 10 = .ok (.aload_n 0, 1) := by decide +kernel
theorem dX12_full_11 : decode cX12_full 11 = .ok (.iconst 3, 1) := by decide +kernel
theorem dX12_full_12 : decode cX12_full 12 = .ok (.iload_n 3, 1) := by decide +kernel
theorem dX12_full_13 : decode cX12_full 13 = .ok (.invokevirtual 159, 3) := by decide +kernel
theorem dX12_full_16 : decode cX12_full 16 = .ok (.return_, 1) := by decide +kernel
theorem dX12_bladeLine_0 : decode cX12_bladeLine 0 = .ok (.aload_n 0, 1) := by decide +kernel
theorem dX12_bladeLine_1 : decode cX12_bladeLine 1 = .ok (.iconst 0, 1) := by decide +kernel
theorem dX12_bladeLine_2 : decode cX12_bladeLine 2 = .ok (.iconst 1, 1) := by decide +kernel
theorem dX12_bladeLine_3 : decode cX12_bladeLine 3 = .ok (.bipush 20, 2) := by decide +kernel
theorem dX12_bladeLine_5 : decode cX12_bladeLine 5 = .ok (.invokevirtual 170, 3) := by decide +kernel
theorem dX12_bladeLine_8 : decode cX12_bladeLine 8 = .ok (.ifCond .eq 34, 3) := by decide +kernel
theorem dX12_bladeLine_11 : decode cX12_bladeLine 11 = .ok (.aload_n 0, 1) := by decide +kernel
theorem dX12_bladeLine_12 : decode cX12_bladeLine 12 = .ok (.iconst 1, 1) := by decide +kernel
theorem dX12_bladeLine_13 : decode cX12_bladeLine 13 = .ok (.iconst 0, 1) := by decide +kernel
theorem dX12_bladeLine_14 : decode cX12_bladeLine 14 = .ok (.iconst 3, 1) := by decide +kernel
theorem dX12_bladeLine_15 : decode cX12_bladeLine 15 = .ok (.invokevirtual 170, 3) := by decide +kernel
theorem dX12_bladeLine_18 : decode cX12_bladeLine 18 = .ok (.ifCond .eq 24, 3) := by decide +kernel
theorem dX12_bladeLine_21 : decode cX12_bladeLine 21 = .ok (.aload_n 0, 1) := by decide +kernel
theorem dX12_bladeLine_22 : decode cX12_bladeLine 22 = .ok (.iconst 2, 1) := by decide +kernel
theorem dX12_bladeLine_23 : decode cX12_bladeLine 23 = .ok (.iconst 0, 1) := by decide +kernel
theorem dX12_bladeLine_24 : decode cX12_bladeLine 24 = .ok (.bipush 20, 2) := by decide +kernel
theorem dX12_bladeLine_26 : decode cX12_bladeLine 26 = .ok (.invokevirtual 170, 3) := by decide +kernel
theorem dX12_bladeLine_29 : decode cX12_bladeLine 29 = .ok (.ifCond .eq 13, 3) := by decide +kernel
theorem dX12_bladeLine_32 : decode cX12_bladeLine 32 = .ok (.aload_n 0, 1) := by decide +kernel
theorem dX12_bladeLine_33 : decode cX12_bladeLine 33 = .ok (.iconst 3, 1) := by decide +kernel
theorem dX12_bladeLine_34 : decode cX12_bladeLine 34 = .ok (.iconst 0, 1) := by decide +kernel
theorem dX12_bladeLine_35 : decode cX12_bladeLine 35 = .ok (.iconst 1, 1) := by decide +kernel
theorem dX12_bladeLine_36 : decode cX12_bladeLine 36 = .ok (.invokevirtual 170, 3) := by decide +kernel
theorem dX12_bladeLine_39 : decode cX12_bladeLine 39 = .ok (.ifCond .ne 5, 3) := by decide +kernel
theorem dX12_bladeLine_42 : decode cX12_bladeLine 42 = .ok (.iconst 0, 1) := by decide +kernel
theorem dX12_bladeLine_43 : decode cX12_bladeLine 43 = .ok (.ireturn, 1) := by decide +kernel
theorem dX12_bladeLine_44 : decode cX12_bladeLine 44 = .ok (.aload_n 0, 1) := by decide +kernel
theorem dX12_bladeLine_45 : decode cX12_bladeLine 45 = .ok (.getfield 35, 3) := by decide +kernel
theorem dX12_bladeLine_48 : decode cX12_bladeLine 48 = .ok (.iload_n 1, 1) := by decide +kernel
theorem dX12_bladeLine_49 : decode cX12_bladeLine 49 = .ok (.iaload, 1) := by decide +kernel
theorem dX12_bladeLine_50 : decode cX12_bladeLine 50 = .ok (.istore_n 2, 1) := by decide +kernel
theorem dX12_bladeLine_51 : decode cX12_bladeLine 51 = .ok (.iload_n 2, 1) := by decide +kernel
theorem dX12_bladeLine_52 : decode cX12_bladeLine 52 = .ok (.bipush 6, 2) := by decide +kernel
theorem dX12_bladeLine_54 : decode cX12_bladeLine 54 = .ok (.if_icmp .ge 50, 3) := by decide +kernel
theorem dX12_bladeLine_57 : decode cX12_bladeLine 57 = .ok (.iconst 0, 1) := by decide +kernel
theorem dX12_bladeLine_58 : decode cX12_bladeLine 58 = .ok (.istore_n 3, 1) := by decide +kernel
theorem dX12_bladeLine_59 : decode cX12_bladeLine 59 = .ok (.iload_n 3, 1) := by decide +kernel
theorem dX12_bladeLine_60 : decode cX12_bladeLine 60 = .ok (.iconst 4, 1) := by decide +kernel
theorem dX12_bladeLine_61 : decode cX12_bladeLine 61 = .ok (.if_icmp .ge 33, 3) := by decide +kernel
theorem dX12_bladeLine_64 : decode cX12_bladeLine 64 = .ok (.aload_n 0, 1) := by decide +kernel
theorem dX12_bladeLine_65 : decode cX12_bladeLine 65 = .ok (.getfield 35, 3) := by decide +kernel
theorem dX12_bladeLine_68 : decode cX12_bladeLine 68 = .ok (.bipush 30, 2) := by decide +kernel
theorem dX12_bladeLine_70 : decode cX12_bladeLine 70 = .ok (.iload_n 1, 1) := by decide +kernel
theorem dX12_bladeLine_71 : decode cX12_bladeLine 71 = .ok (.imul, 1) := by decide +kernel
theorem dX12_bladeLine_72 : decode cX12_bladeLine 72 = .ok (.iconst 3, 1) := by decide +kernel
theorem dX12_bladeLine_73 : decode cX12_bladeLine 73 = .ok (.iadd, 1) := by decide +kernel
theorem dX12_bladeLine_74 : decode cX12_bladeLine 74 = .ok (.bipush 6, 2) := by decide +kernel
theorem dX12_bladeLine_76 : decode cX12_bladeLine 76 = .ok (.iload_n 3, 1) := by decide +kernel
theorem dX12_bladeLine_77 : decode cX12_bladeLine 77 = .ok (.imul, 1) := by decide +kernel
theorem dX12_bladeLine_78 : decode cX12_bladeLine 78 = .ok (.iadd, 1) := by decide +kernel
theorem dX12_bladeLine_79 : decode cX12_bladeLine 79 = .ok (.iload_n 2, 1) := by decide +kernel
theorem dX12_bladeLine_80 : decode cX12_bladeLine 80 = .ok (.iadd, 1) := by decide +kernel
theorem dX12_bladeLine_81 : decode cX12_bladeLine 81 = .ok (.aload_n 0, 1) := by decide +kernel
theorem dX12_bladeLine_82 : decode cX12_bladeLine 82 = .ok (.getfield 38, 3) := by decide +kernel
theorem dX12_bladeLine_85 : decode cX12_bladeLine 85 = .ok (.iload_n 3, 1) := by decide +kernel
theorem dX12_bladeLine_86 : decode cX12_bladeLine 86 = .ok (.iaload, 1) := by decide +kernel
theorem dX12_bladeLine_87 : decode cX12_bladeLine 87 = .ok (.iastore, 1) := by decide +kernel
theorem dX12_bladeLine_88 : decode cX12_bladeLine 88 = .ok (.iinc 3 1, 3) := by decide +kernel
theorem dX12_bladeLine_91 : decode cX12_bladeLine 91 = .ok (.goto (-32), 3) := by decide +kernel
theorem dX12_bladeLine_94 : decode cX12_bladeLine 94 = .ok (.aload_n 0, 1) := by decide +kernel
theorem dX12_bladeLine_95 : decode cX12_bladeLine 95 = .ok (.getfield 35, 3) := by decide +kernel
theorem dX12_bladeLine_98 : decode cX12_bladeLine 98 = .ok (.iload_n 1, 1) := by decide +kernel
theorem dX12_bladeLine_99 : decode cX12_bladeLine 99 = .ok (.dup2, 1) := by decide +kernel
theorem dX12_bladeLine_100 : decode cX12_bladeLine 100 = .ok (.iaload, 1) := by decide +kernel
theorem dX12_bladeLine_101 : decode cX12_bladeLine 101 = .ok (.iconst 1, 1) := by decide +kernel
theorem dX12_bladeLine_102 : decode cX12_bladeLine 102 = .ok (.iadd, 1) := by decide +kernel
theorem dX12_bladeLine_103 : decode cX12_bladeLine 103 = .ok (.iastore, 1) := by decide +kernel
theorem dX12_bladeLine_104 : decode cX12_bladeLine 104 = .ok (.iconst 1, 1) := by decide +kernel
theorem dX12_bladeLine_105 : decode cX12_bladeLine 105 = .ok (.ireturn, 1) := by decide +kernel
theorem dX12_rivetLine_0 : decode cX12_rivetLine 0 = .ok (.aload_n 0, 1) := by decide +kernel
theorem dX12_rivetLine_1 : decode cX12_rivetLine 1 = .ok (.iconst 0, 1) := by decide +kernel
theorem dX12_rivetLine_2 : decode cX12_rivetLine 2 = .ok (.iconst 0, 1) := by decide +kernel
theorem dX12_rivetLine_3 : decode cX12_rivetLine 3 = .ok (.iconst 5, 1) := by decide +kernel
theorem dX12_rivetLine_4 : decode cX12_rivetLine 4 = .ok (.invokevirtual 170, 3) := by decide +kernel
theorem dX12_rivetLine_7 : decode cX12_rivetLine 7 = .ok (.ifCond .eq 13, 3) := by decide +kernel
theorem dX12_rivetLine_10 : decode cX12_rivetLine 10 = .ok (.aload_n 0, 1) := by decide +kernel
theorem dX12_rivetLine_11 : decode cX12_rivetLine 11 = .ok (.iconst 1, 1) := by decide +kernel
theorem dX12_rivetLine_12 : decode cX12_rivetLine 12 = .ok (.iconst 0, 1) := by decide +kernel
theorem dX12_rivetLine_13 : decode cX12_rivetLine 13 = .ok (.iconst 5, 1) := by decide +kernel
theorem dX12_rivetLine_14 : decode cX12_rivetLine 14 = .ok (.invokevirtual 170, 3) := by decide +kernel
theorem dX12_rivetLine_17 : decode cX12_rivetLine 17 = .ok (.ifCond .ne 5, 3) := by decide +kernel
theorem dX12_rivetLine_20 : decode cX12_rivetLine 20 = .ok (.iconst 0, 1) := by decide +kernel
theorem dX12_rivetLine_21 : decode cX12_rivetLine 21 = .ok (.ireturn, 1) := by decide +kernel
theorem dX12_rivetLine_22 : decode cX12_rivetLine 22 = .ok (.aload_n 0, 1) := by decide +kernel
theorem dX12_rivetLine_23 : decode cX12_rivetLine 23 = .ok (.aload_n 0, 1) := by decide +kernel
theorem dX12_rivetLine_24 : decode cX12_rivetLine 24 = .ok (.getfield 173, 3) := by decide +kernel
theorem dX12_rivetLine_27 : decode cX12_rivetLine 27 = .ok (.aload_n 0, 1) := by decide +kernel
theorem dX12_rivetLine_28 : decode cX12_rivetLine 28 = .ok (.getfield 38, 3) := by decide +kernel
theorem dX12_rivetLine_31 : decode cX12_rivetLine 31 = .ok (.iconst 0, 1) := by decide +kernel
theorem dX12_rivetLine_32 : decode cX12_rivetLine 32 = .ok (.iaload, 1) := by decide +kernel
theorem dX12_rivetLine_33 : decode cX12_rivetLine 33 = .ok (.invokestatic 176, 3) := by decide +kernel
theorem dX12_rivetLine_36 : decode cX12_rivetLine 36 = .ok (.putfield 173, 3) := by decide +kernel
theorem dX12_rivetLine_39 : decode cX12_rivetLine 39 = .ok (.aload_n 0, 1) := by decide +kernel
theorem dX12_rivetLine_40 : decode cX12_rivetLine 40 = .ok (.aload_n 0, 1) := by decide +kernel
theorem dX12_rivetLine_41 : decode cX12_rivetLine 41 = .ok (.getfield 180, 3) := by decide +kernel
theorem dX12_rivetLine_44 : decode cX12_rivetLine 44 = .ok (.aload_n 0, 1) := by decide +kernel
theorem dX12_rivetLine_45 : decode cX12_rivetLine 45 = .ok (.getfield 38, 3) := by decide +kernel
theorem dX12_rivetLine_48 : decode cX12_rivetLine 48 = .ok (.iconst 1, 1) := by decide +kernel
theorem dX12_rivetLine_49 : decode cX12_rivetLine 49 = .ok (.iaload, 1) := by decide +kernel
theorem dX12_rivetLine_50 : decode cX12_rivetLine 50 = .ok (.invokestatic 176, 3) := by decide +kernel
theorem dX12_rivetLine_53 : decode cX12_rivetLine 53 = .ok (.putfield 180, 3) := by decide +kernel
theorem dX12_rivetLine_56 : decode cX12_rivetLine 56 = .ok (.aload_n 0, 1) := by decide +kernel
theorem dX12_rivetLine_57 : decode cX12_rivetLine 57 = .ok (.getfield 163, 3) := by decide +kernel
theorem dX12_rivetLine_60 : decode cX12_rivetLine 60 = .ok (.ifCond .eq 137, 3) := by decide +kernel
theorem dX12_rivetLine_63 : decode cX12_rivetLine 63 = .ok (.iconst 0, 1) := by decide +kernel
theorem dX12_rivetLine_64 : decode cX12_rivetLine 64 = .ok (.istore_n 1, 1) := by decide +kernel
theorem dX12_rivetLine_65 : decode cX12_rivetLine 65 = .ok (.iload_n 1, 1) := by decide +kernel
theorem dX12_rivetLine_66 : decode cX12_rivetLine 66 = .ok (.bipush 6, 2) := by decide +kernel
theorem dX12_rivetLine_68 : decode cX12_rivetLine 68 = .ok (.if_icmp .ge 89, 3) := by decide +kernel
theorem dX12_rivetLine_71 : decode cX12_rivetLine 71 = .ok (.aload_n 0, 1) := by decide +kernel
theorem dX12_rivetLine_72 : decode cX12_rivetLine 72 = .ok (.getfield 35, 3) := by decide +kernel
theorem dX12_rivetLine_75 : decode cX12_rivetLine 75 = .ok (.bipush 27, 2) := by decide +kernel
theorem dX12_rivetLine_77 : decode cX12_rivetLine 77 = .ok (.iload_n 1, 1) := by decide +kernel
theorem dX12_rivetLine_78 : decode cX12_rivetLine 78 = .ok (.iadd, 1) := by decide +kernel
theorem dX12_rivetLine_79 : decode cX12_rivetLine 79 = .ok (.aload_n 0, 1) := by decide +kernel
theorem dX12_rivetLine_80 : decode cX12_rivetLine 80 = .ok (.getfield 35, 3) := by decide +kernel
theorem dX12_rivetLine_83 : decode cX12_rivetLine 83 = .ok (.bipush 27, 2) := by decide +kernel
theorem dX12_rivetLine_85 : decode cX12_rivetLine 85 = .ok (.iload_n 1, 1) := by decide +kernel
theorem dX12_rivetLine_86 : decode cX12_rivetLine 86 = .ok (.iadd, 1) := by decide +kernel
theorem dX12_rivetLine_87 : decode cX12_rivetLine 87 = .ok (.iaload, 1) := by decide +kernel
theorem dX12_rivetLine_88 : decode cX12_rivetLine 88 = .ok (.aload_n 0, 1) := by decide +kernel
theorem dX12_rivetLine_89 : decode cX12_rivetLine 89 = .ok (.getfield 38, 3) := by decide +kernel
theorem dX12_rivetLine_92 : decode cX12_rivetLine 92 = .ok (.iconst 1, 1) := by decide +kernel
theorem dX12_rivetLine_93 : decode cX12_rivetLine 93 = .ok (.iaload, 1) := by decide +kernel
theorem dX12_rivetLine_94 : decode cX12_rivetLine 94 = .ok (.if_icmp .ne 7, 3) := by decide +kernel
theorem dX12_rivetLine_97 : decode cX12_rivetLine 97 = .ok (.iconst (-1), 1) := by decide +kernel
theorem dX12_rivetLine_98 : decode cX12_rivetLine 98 = .ok (.goto 12, 3) := by decide +kernel
theorem dX12_rivetLine_101 : decode cX12_rivetLine 101 = .ok (.aload_n 0, 1) := by decide +kernel
theorem dX12_rivetLine_102 : decode cX12_rivetLine 102 = .ok (.getfield 35, 3) := by decide +kernel
theorem dX12_rivetLine_105 : decode cX12_rivetLine 105 = .ok (.bipush 27, 2) := by decide +kernel
theorem dX12_rivetLine_107 : decode cX12_rivetLine 107 = .ok (.iload_n 1, 1) := by decide +kernel
theorem dX12_rivetLine_108 : decode cX12_rivetLine 108 = .ok (.iadd, 1) := by decide +kernel
theorem dX12_rivetLine_109 : decode cX12_rivetLine 109 = .ok (.iaload, 1) := by decide +kernel
theorem dX12_rivetLine_110 : decode cX12_rivetLine 110 = .ok (.iastore, 1) := by decide +kernel
theorem dX12_rivetLine_111 : decode cX12_rivetLine 111 = .ok (.aload_n 0, 1) := by decide +kernel
theorem dX12_rivetLine_112 : decode cX12_rivetLine 112 = .ok (.getfield 35, 3) := by decide +kernel
theorem dX12_rivetLine_115 : decode cX12_rivetLine 115 = .ok (.bipush 57, 2) := by decide +kernel
theorem dX12_rivetLine_117 : decode cX12_rivetLine 117 = .ok (.iload_n 1, 1) := by decide +kernel
theorem dX12_rivetLine_118 : decode cX12_rivetLine 118 = .ok (.iadd, 1) := by decide +kernel
theorem dX12_rivetLine_119 : decode cX12_rivetLine 119 = .ok (.aload_n 0, 1) := by decide +kernel
theorem dX12_rivetLine_120 : decode cX12_rivetLine 120 = .ok (.getfield 35, 3) := by decide +kernel
theorem dX12_rivetLine_123 : decode cX12_rivetLine 123 = .ok (.bipush 57, 2) := by decide +kernel
theorem dX12_rivetLine_125 : decode cX12_rivetLine 125 = .ok (.iload_n 1, 1) := by decide +kernel
theorem dX12_rivetLine_126 : decode cX12_rivetLine 126 = .ok (.iadd, 1) := by decide +kernel
theorem dX12_rivetLine_127 : decode cX12_rivetLine 127 = .ok (.iaload, 1) := by decide +kernel
theorem dX12_rivetLine_128 : decode cX12_rivetLine 128 = .ok (.aload_n 0, 1) := by decide +kernel
theorem dX12_rivetLine_129 : decode cX12_rivetLine 129 = .ok (.getfield 38, 3) := by decide +kernel
theorem dX12_rivetLine_132 : decode cX12_rivetLine 132 = .ok (.iconst 0, 1) := by decide +kernel
theorem dX12_rivetLine_133 : decode cX12_rivetLine 133 = .ok (.iaload, 1) := by decide +kernel
theorem dX12_rivetLine_134 : decode cX12_rivetLine 134 = .ok (.if_icmp .ne 7, 3) := by decide +kernel
theorem dX12_rivetLine_137 : decode cX12_rivetLine 137 = .ok (.iconst (-1), 1) := by decide +kernel
theorem dX12_rivetLine_138 : decode cX12_rivetLine 138 = .ok (.goto 12, 3) := by decide +kernel
theorem dX12_rivetLine_141 : decode cX12_rivetLine 141 = .ok (.aload_n 0, 1) := by decide +kernel
theorem dX12_rivetLine_142 : decode cX12_rivetLine 142 = .ok (.getfield 35, 3) := by decide +kernel
theorem dX12_rivetLine_145 : decode cX12_rivetLine 145 = .ok (.bipush 57, 2) := by decide +kernel
theorem dX12_rivetLine_147 : decode cX12_rivetLine 147 = .ok (.iload_n 1, 1) := by decide +kernel
theorem dX12_rivetLine_148 : decode cX12_rivetLine 148 = .ok (.iadd, 1) := by decide +kernel
theorem dX12_rivetLine_149 : decode cX12_rivetLine 149 = .ok (.iaload, 1) := by decide +kernel
theorem dX12_rivetLine_150 : decode cX12_rivetLine 150 = .ok (.iastore, 1) := by decide +kernel
theorem dX12_rivetLine_151 : decode cX12_rivetLine 151 = .ok (.iinc 1 1, 3) := by decide +kernel
theorem dX12_rivetLine_154 : decode cX12_rivetLine 154 = .ok (.goto (-89), 3) := by decide +kernel
theorem dX12_rivetLine_157 : decode cX12_rivetLine 157 = .ok (.aload_n 0, 1) := by decide +kernel
theorem dX12_rivetLine_158 : decode cX12_rivetLine 158 = .ok (.getfield 35, 3) := by decide +kernel
theorem dX12_rivetLine_161 : decode cX12_rivetLine 161 = .ok (.bipush 27, 2) := by decide +kernel
theorem dX12_rivetLine_163 : decode cX12_rivetLine 163 = .ok (.aload_n 0, 1) := by decide +kernel
theorem dX12_rivetLine_164 : decode cX12_rivetLine 164 = .ok (.getfield 38, 3) := by decide +kernel
theorem dX12_rivetLine_167 : decode cX12_rivetLine 167 = .ok (.iconst 0, 1) := by decide +kernel
theorem dX12_rivetLine_168 : decode cX12_rivetLine 168 = .ok (.iaload, 1) := by decide +kernel
theorem dX12_rivetLine_169 : decode cX12_rivetLine 169 = .ok (.iadd, 1) := by decide +kernel
theorem dX12_rivetLine_170 : decode cX12_rivetLine 170 = .ok (.aload_n 0, 1) := by decide +kernel
theorem dX12_rivetLine_171 : decode cX12_rivetLine 171 = .ok (.getfield 38, 3) := by decide +kernel
theorem dX12_rivetLine_174 : decode cX12_rivetLine 174 = .ok (.iconst 1, 1) := by decide +kernel
theorem dX12_rivetLine_175 : decode cX12_rivetLine 175 = .ok (.iaload, 1) := by decide +kernel
theorem dX12_rivetLine_176 : decode cX12_rivetLine 176 = .ok (.iastore, 1) := by decide +kernel
theorem dX12_rivetLine_177 : decode cX12_rivetLine 177 = .ok (.aload_n 0, 1) := by decide +kernel
theorem dX12_rivetLine_178 : decode cX12_rivetLine 178 = .ok (.getfield 35, 3) := by decide +kernel
theorem dX12_rivetLine_181 : decode cX12_rivetLine 181 = .ok (.bipush 57, 2) := by decide +kernel
theorem dX12_rivetLine_183 : decode cX12_rivetLine 183 = .ok (.aload_n 0, 1) := by decide +kernel
theorem dX12_rivetLine_184 : decode cX12_rivetLine 184 = .ok (.getfield 38, 3) := by decide +kernel
theorem dX12_rivetLine_187 : decode cX12_rivetLine 187 = .ok (.iconst 1, 1) := by decide +kernel
theorem dX12_rivetLine_188 : decode cX12_rivetLine 188 = .ok (.iaload, 1) := by decide +kernel
theorem dX12_rivetLine_189 : decode cX12_rivetLine 189 = .ok (.iadd, 1) := by decide +kernel
theorem dX12_rivetLine_190 : decode cX12_rivetLine 190 = .ok (.aload_n 0, 1) := by decide +kernel
theorem dX12_rivetLine_191 : decode cX12_rivetLine 191 = .ok (.getfield 38, 3) := by decide +kernel
theorem dX12_rivetLine_194 : decode cX12_rivetLine 194 = .ok (.iconst 0, 1) := by decide +kernel
theorem dX12_rivetLine_195 : decode cX12_rivetLine 195 = .ok (.iaload, 1) := by decide +kernel
theorem dX12_rivetLine_196 : decode cX12_rivetLine 196 = .ok (.iastore, 1) := by decide +kernel
theorem dX12_rivetLine_197 : decode cX12_rivetLine 197 = .ok (.iconst 1, 1) := by decide +kernel
theorem dX12_rivetLine_198 : decode cX12_rivetLine 198 = .ok (.ireturn, 1) := by decide +kernel
theorem dX12_clothLine_0 : decode cX12_clothLine 0 = .ok (.aload_n 0, 1) := by decide +kernel
theorem dX12_clothLine_1 : decode cX12_clothLine 1 = .ok (.iconst 0, 1) := by decide +kernel
theorem dX12_clothLine_2 : decode cX12_clothLine 2 = .ok (.iconst 1, 1) := by decide +kernel
theorem dX12_clothLine_3 : decode cX12_clothLine 3 = .ok (.bipush 70, 2) := by decide +kernel
theorem dX12_clothLine_5 : decode cX12_clothLine 5 = .ok (.invokevirtual 170, 3) := by decide +kernel
theorem dX12_clothLine_8 : decode cX12_clothLine 8 = .ok (.ifCond .eq 25, 3) := by decide +kernel
theorem dX12_clothLine_11 : decode cX12_clothLine 11 = .ok (.aload_n 0, 1) := by decide +kernel
theorem dX12_clothLine_12 : decode cX12_clothLine 12 = .ok (.iconst 1, 1) := by decide +kernel
theorem dX12_clothLine_13 : decode cX12_clothLine 13 = .ok (.iconst 0, 1) := by decide +kernel
theorem dX12_clothLine_14 : decode cX12_clothLine 14 = .ok (.bipush 20, 2) := by decide +kernel
theorem dX12_clothLine_16 : decode cX12_clothLine 16 = .ok (.invokevirtual 170, 3) := by decide +kernel
theorem dX12_clothLine_19 : decode cX12_clothLine 19 = .ok (.ifCond .eq 14, 3) := by decide +kernel
theorem dX12_clothLine_22 : decode cX12_clothLine 22 = .ok (.aload_n 0, 1) := by decide +kernel
theorem dX12_clothLine_23 : decode cX12_clothLine 23 = .ok (.iconst 2, 1) := by decide +kernel
theorem dX12_clothLine_24 : decode cX12_clothLine 24 = .ok (.iconst 0, 1) := by decide +kernel
theorem dX12_clothLine_25 : decode cX12_clothLine 25 = .ok (.bipush 9, 2) := by decide +kernel
theorem dX12_clothLine_27 : decode cX12_clothLine 27 = .ok (.invokevirtual 170, 3) := by decide +kernel
theorem dX12_clothLine_30 : decode cX12_clothLine 30 = .ok (.ifCond .ne 5, 3) := by decide +kernel
theorem dX12_clothLine_33 : decode cX12_clothLine 33 = .ok (.iconst 0, 1) := by decide +kernel
theorem dX12_clothLine_34 : decode cX12_clothLine 34 = .ok (.ireturn, 1) := by decide +kernel
theorem dX12_clothLine_35 : decode cX12_clothLine 35 = .ok (.aload_n 0, 1) := by decide +kernel
theorem dX12_clothLine_36 : decode cX12_clothLine 36 = .ok (.getfield 35, 3) := by decide +kernel
theorem dX12_clothLine_39 : decode cX12_clothLine 39 = .ok (.iconst 2, 1) := by decide +kernel
theorem dX12_clothLine_40 : decode cX12_clothLine 40 = .ok (.iaload, 1) := by decide +kernel
theorem dX12_clothLine_41 : decode cX12_clothLine 41 = .ok (.istore_n 1, 1) := by decide +kernel
theorem dX12_clothLine_42 : decode cX12_clothLine 42 = .ok (.iload_n 1, 1) := by decide +kernel
theorem dX12_clothLine_43 : decode cX12_clothLine 43 = .ok (.bipush 6, 2) := by decide +kernel
theorem dX12_clothLine_45 : decode cX12_clothLine 45 = .ok (.if_icmp .ge 58, 3) := by decide +kernel
theorem dX12_clothLine_48 : decode cX12_clothLine 48 = .ok (.aload_n 0, 1) := by decide +kernel
theorem dX12_clothLine_49 : decode cX12_clothLine 49 = .ok (.getfield 35, 3) := by decide +kernel
theorem dX12_clothLine_52 : decode cX12_clothLine 52 = .ok (.bipush 63, 2) := by decide +kernel
theorem dX12_clothLine_54 : decode cX12_clothLine 54 = .ok (.iload_n 1, 1) := by decide +kernel
theorem dX12_clothLine_55 : decode cX12_clothLine 55 = .ok (.iadd, 1) := by decide +kernel
theorem dX12_clothLine_56 : decode cX12_clothLine 56 = .ok (.aload_n 0, 1) := by decide +kernel
theorem dX12_clothLine_57 : decode cX12_clothLine 57 = .ok (.getfield 38, 3) := by decide +kernel
theorem dX12_clothLine_60 : decode cX12_clothLine 60 = .ok (.iconst 0, 1) := by decide +kernel
theorem dX12_clothLine_61 : decode cX12_clothLine 61 = .ok (.iaload, 1) := by decide +kernel
theorem dX12_clothLine_62 : decode cX12_clothLine 62 = .ok (.iastore, 1) := by decide +kernel
theorem dX12_clothLine_63 : decode cX12_clothLine 63 = .ok (.aload_n 0, 1) := by decide +kernel
theorem dX12_clothLine_64 : decode cX12_clothLine 64 = .ok (.getfield 35, 3) := by decide +kernel
theorem dX12_clothLine_67 : decode cX12_clothLine 67 = .ok (.bipush 69, 2) := by decide +kernel
theorem dX12_clothLine_69 : decode cX12_clothLine 69 = .ok (.iload_n 1, 1) := by decide +kernel
theorem dX12_clothLine_70 : decode cX12_clothLine 70 = .ok (.iadd, 1) := by decide +kernel
theorem dX12_clothLine_71 : decode cX12_clothLine 71 = .ok (.aload_n 0, 1) := by decide +kernel
theorem dX12_clothLine_72 : decode cX12_clothLine 72 = .ok (.getfield 38, 3) := by decide +kernel
theorem dX12_clothLine_75 : decode cX12_clothLine 75 = .ok (.iconst 1, 1) := by decide +kernel
theorem dX12_clothLine_76 : decode cX12_clothLine 76 = .ok (.iaload, 1) := by decide +kernel
theorem dX12_clothLine_77 : decode cX12_clothLine 77 = .ok (.iastore, 1) := by decide +kernel
theorem dX12_clothLine_78 : decode cX12_clothLine 78 = .ok (.aload_n 0, 1) := by decide +kernel
theorem dX12_clothLine_79 : decode cX12_clothLine 79 = .ok (.getfield 35, 3) := by decide +kernel
theorem dX12_clothLine_82 : decode cX12_clothLine 82 = .ok (.bipush 75, 2) := by decide +kernel
theorem dX12_clothLine_84 : decode cX12_clothLine 84 = .ok (.iload_n 1, 1) := by decide +kernel
theorem dX12_clothLine_85 : decode cX12_clothLine 85 = .ok (.iadd, 1) := by decide +kernel
theorem dX12_clothLine_86 : decode cX12_clothLine 86 = .ok (.aload_n 0, 1) := by decide +kernel
theorem dX12_clothLine_87 : decode cX12_clothLine 87 = .ok (.getfield 38, 3) := by decide +kernel
theorem dX12_clothLine_90 : decode cX12_clothLine 90 = .ok (.iconst 2, 1) := by decide +kernel
theorem dX12_clothLine_91 : decode cX12_clothLine 91 = .ok (.iaload, 1) := by decide +kernel
theorem dX12_clothLine_92 : decode cX12_clothLine 92 = .ok (.iastore, 1) := by decide +kernel
theorem dX12_clothLine_93 : decode cX12_clothLine 93 = .ok (.aload_n 0, 1) := by decide +kernel
theorem dX12_clothLine_94 : decode cX12_clothLine 94 = .ok (.getfield 35, 3) := by decide +kernel
theorem dX12_clothLine_97 : decode cX12_clothLine 97 = .ok (.iconst 2, 1) := by decide +kernel
theorem dX12_clothLine_98 : decode cX12_clothLine 98 = .ok (.dup2, 1) := by decide +kernel
theorem dX12_clothLine_99 : decode cX12_clothLine 99 = .ok (.iaload, 1) := by decide +kernel
theorem dX12_clothLine_100 : decode cX12_clothLine 100 = .ok (.iconst 1, 1) := by decide +kernel
theorem dX12_clothLine_101 : decode cX12_clothLine 101 = .ok (.iadd, 1) := by decide +kernel
theorem dX12_clothLine_102 : decode cX12_clothLine 102 = .ok (.iastore, 1) := by decide +kernel
theorem dX12_clothLine_103 : decode cX12_clothLine 103 = .ok (.iconst 1, 1) := by decide +kernel
theorem dX12_clothLine_104 : decode cX12_clothLine 104 = .ok (.ireturn, 1) := by decide +kernel
theorem dX12_keep_0 : decode cX12_keep 0 = .ok (.aload_n 0, 1) := by decide +kernel
theorem dX12_keep_1 : decode cX12_keep 1 = .ok (.getfield 35, 3) := by decide +kernel
theorem dX12_keep_4 : decode cX12_keep 4 = .ok (.iconst 0, 1) := by decide +kernel
theorem dX12_keep_5 : decode cX12_keep 5 = .ok (.iaload, 1) := by decide +kernel
theorem dX12_keep_6 : decode cX12_keep 6 = .ok (.istore_n 2, 1) := by decide +kernel
theorem dX12_keep_7 : decode cX12_keep 7 = .ok (.iload_n 2, 1) := by decide +kernel
theorem dX12_keep_8 : decode cX12_keep 8 = .ok (.iload_n 1, 1) := by decide +kernel
theorem dX12_keep_9 : decode cX12_keep 9 = .ok (.if_icmp .ne 4, 3) := by decide +kernel
theorem dX12_keep_12 : decode cX12_keep 12 = .ok (.return_, 1) := by decide +kernel
theorem dX12_keep_13 : decode cX12_keep 13 = .ok (.iconst 0, 1) := by decide +kernel
theorem dX12_keep_14 : decode cX12_keep 14 = .ok (.istore_n 3, 1) := by decide +kernel
theorem dX12_keep_15 : decode cX12_keep 15 = .ok (.iload_n 3, 1) := by decide +kernel
theorem dX12_keep_16 : decode cX12_keep 16 = .ok (.iconst 3, 1) := by decide +kernel
theorem dX12_keep_17 : decode cX12_keep 17 = .ok (.if_icmp .ge 27, 3) := by decide +kernel
theorem dX12_keep_20 : decode cX12_keep 20 = .ok (.aload_n 0, 1) := by decide +kernel
theorem dX12_keep_21 : decode cX12_keep 21 = .ok (.getfield 35, 3) := by decide +kernel
theorem dX12_keep_24 : decode cX12_keep 24 = .ok (.iconst 1, 1) := by decide +kernel
theorem dX12_keep_25 : decode cX12_keep 25 = .ok (.iconst 3, 1) := by decide +kernel
theorem dX12_keep_26 : decode cX12_keep 26 = .ok (.iload_n 2, 1) := by decide +kernel
theorem dX12_keep_27 : decode cX12_keep 27 = .ok (.imul, 1) := by decide +kernel
theorem dX12_keep_28 : decode cX12_keep 28 = .ok (.iadd, 1) := by decide +kernel
theorem dX12_keep_29 : decode cX12_keep 29 = .ok (.iload_n 3, 1) := by decide +kernel
theorem dX12_keep_30 : decode cX12_keep 30 = .ok (.iadd, 1) := by decide +kernel
theorem dX12_keep_31 : decode cX12_keep 31 = .ok (.aload_n 0, 1) := by decide +kernel
theorem dX12_keep_32 : decode cX12_keep 32 = .ok (.getfield 38, 3) := by decide +kernel
theorem dX12_keep_35 : decode cX12_keep 35 = .ok (.iload_n 3, 1) := by decide +kernel
theorem dX12_keep_36 : decode cX12_keep 36 = .ok (.iaload, 1) := by decide +kernel
theorem dX12_keep_37 : decode cX12_keep 37 = .ok (.iastore, 1) := by decide +kernel
theorem dX12_keep_38 : decode cX12_keep 38 = .ok (.iinc 3 1, 3) := by decide +kernel
theorem dX12_keep_41 : decode cX12_keep 41 = .ok (.goto (-26), 3) := by decide +kernel
theorem dX12_keep_44 : decode cX12_keep 44 = .ok (.aload_n 0, 1) := by decide +kernel
theorem dX12_keep_45 : decode cX12_keep 45 = .ok (.getfield 35, 3) := by decide +kernel
theorem dX12_keep_48 : decode cX12_keep 48 = .ok (.iconst 0, 1) := by decide +kernel
theorem dX12_keep_49 : decode cX12_keep 49 = .ok (.dup2, 1) := by decide +kernel
theorem dX12_keep_50 : decode cX12_keep 50 = .ok (.iaload, 1) := by decide +kernel
theorem dX12_keep_51 : decode cX12_keep 51 = .ok (.iconst 1, 1) := by decide +kernel
theorem dX12_keep_52 : decode cX12_keep 52 = .ok (.iadd, 1) := by decide +kernel
theorem dX12_keep_53 : decode cX12_keep 53 = .ok (.iastore, 1) := by decide +kernel
theorem dX12_keep_54 : decode cX12_keep 54 = .ok (.return_, 1) := by decide +kernel
theorem tf_12_163 : tFld TB0 12 163 = some (12, 22) := rfl
theorem tf_12_173 : tFld TB0 12 173 = some (12, 20) := rfl
theorem tf_12_180 : tFld TB0 12 180 = some (12, 21) := rfl
set_option maxRecDepth 20000 in
theorem tm_12_155 : tMet TB0 12 155 = some (0, M_X12_fails) := rfl
set_option maxRecDepth 20000 in
theorem tm_12_159 : tMet TB0 12 159 = some (0, M_X12_later) := rfl
set_option maxRecDepth 20000 in
theorem tm_12_167 : tMet TB0 12 167 = some (0, M_X12_token) := rfl
set_option maxRecDepth 20000 in
theorem tm_12_170 : tMet TB0 12 170 = some (0, M_X12_take) := rfl
/-! TEXT: the reference takes numbers; its lines of a forge -/
def rfC (h : mH) (m : Nat) (C : Int → Int) : Prop := ∀ k : Int, 0 ≤ k → k < 121 → rI h (m + 9) k = C k
theorem rfC_c {S : Nat → Nat → Prop} {h h1 : mH} {m : Nat} {C : Int → Int} (s : frm S h h1) (z : ∀ a k, a = m + 9 → ¬ S a k) (H : rfC h m C) : rfC h1 m C := fun k a b => (frm_r s (z _ _ rfl)).trans (H k a b)
def rfD (h : mH) (m : Nat) (d u : Int) : Prop := rI h m 20 = d ∧ rI h m 21 = u ∧ (-1 ≤ d ∧ d ≤ 99) ∧ (-1 ≤ u ∧ u ≤ 99)
theorem rfD_c {S : Nat → Nat → Prop} {h h1 : mH} {m : Nat} {d u : Int} (s : frm S h h1) (z : ∀ a k, a = m ∧ (k = 20 ∨ k = 21) → ¬ S a k) (H : rfD h m d u) : rfD h1 m d u := ⟨(frm_r s (z _ _ (by omega))).trans H.1, (frm_r s (z _ _ (by omega))).trans H.2.1, H.2.2⟩
def nqB (f q s : Int) : Prop := (0 ≤ f ∧ f ≤ 4) ∧ (-1 ≤ q ∧ q ≤ 600) ∧ (f ≠ 0 → q < s)
theorem nqB_t {c : Prop} [Decidable c] {k f q s s' : Int} (h : nqB f q s) (hk : 0 ≤ k ∧ k ≤ 4) (hs : 0 ≤ s ∧ s ≤ 600) (l : s < s') : nqB (ntF c k f) (ntQ c s f q) s' := by
  have b := nt_b (c := c) (k := k) (s := s) ⟨h.1, h.2.1⟩ ⟨hk, by omega⟩
  refine ⟨b.1, b.2, ?_⟩
  have h2 := h.2.2
  unfold ntF ntQ
  split <;> omega
theorem nqB_m {f q s s' : Int} (h : nqB f q s) (l : s ≤ s') : nqB f q s' := ⟨h.1, h.2.1, fun z => by have := h.2.2 z; omega⟩
def acN (T : Int → Int) (L : Int) : List (Int × Int) → Int → Prop
  | [], _ => True
  | _ :: bs, p => tkK T L p = 1 ∧ acN T L bs (tkE T L p)
def enN (T : Int → Int) (L : Int) : List (Int × Int) → Int → Int
  | [], p => p
  | _ :: bs, p => enN T L bs (tkE T L p)
theorem ac_N {T : Int → Int} {L : Int} : ∀ (bs : List (Int × Int)) (p : Int), acL T L bs p ↔ acN T L bs p ∧ tkK T L (enN T L bs p) = 2 := by
  intro bs
  induction bs with
  | nil => intro p; exact ⟨fun z => ⟨trivial, z⟩, fun z => z.2⟩
  | cons x bs ih => intro p; exact ⟨fun z => ⟨⟨z.1, ((ih _).mp z.2).1⟩, ((ih _).mp z.2).2⟩, fun z => ⟨z.1.1, (ih _).mpr ⟨z.1.2, z.2⟩⟩⟩
theorem en_N {T : Int → Int} {L : Int} : ∀ (bs : List (Int × Int)) (p : Int), enL T L bs p = tkE T L (enN T L bs p) := by
  intro bs
  induction bs with
  | nil => intro p; rfl
  | cons x bs ih => intro p; exact ih _
theorem xp_N {T : Int → Int} {L : Int} : ∀ (bs : List (Int × Int)) (p : Int), acN T L bs p → xpL T L bs p = tkS T L (enN T L bs p) := by
  intro bs
  induction bs with
  | nil => intro p _; rfl
  | cons x bs ih => intro p z; rw [xp_y z.1]; exact ih _ z.2
theorem nq_N {T : Int → Int} {L : Int} (l : L ≤ 600) : ∀ (bs : List (Int × Int)) (p f q : Int), 0 ≤ p → p ≤ L → acN T L bs p → nqB f q (tkS T L p) → nqB (ffL T L bs p f) (fqL T L bs p f q) (tkS T L (enN T L bs p)) ∧ (0 ≤ enN T L bs p ∧ enN T L bs p ≤ L) := by
  intro bs
  induction bs with
  | nil => intro p f q a e _ h; exact ⟨h, a, e⟩
  | cons x bs ih =>
    intro p f q a e z h
    have t := tk_b (T := T) a e
    have k := z.1
    have t2 := tk_b (T := T) (L := L) (p := tkE T L p) (by omega) (by omega)
    exact ih _ _ _ (by omega) (by omega) z.2 (nqB_t h (by omega) (by omega) (by omega))
def tkR (h h1 : mH) (m : Nat) (T : Int → Int) (L p f q lo hi k v : Int) : Prop := (v = 1 ∧ tkK T L p = 1 ∧ rfP h1 m T L (tkE T L p) ∧ rfF h1 m (ntF (¬ (lo ≤ tkV T L p ∧ tkV T L p ≤ hi)) 2 f) (ntQ (¬ (lo ≤ tkV T L p ∧ tkV T L p ≤ hi)) (tkS T L p) f q) ∧ rI h1 (m + 10) k = tkV T L p ∧ rI h1 m 22 = if lo ≤ tkV T L p ∧ tkV T L p ≤ hi then rI h m 22 else 0) ∨ (v = 0 ∧ tkK T L p ≠ 1 ∧ rI h1 m 15 = tkS T L p)
theorem tkr_1 {h h1 : mH} {m : Nat} {T : Int → Int} {L p f q lo hi k v : Int} (H : tkR h h1 m T L p f q lo hi k v) (z : v ≠ 0) : tkK T L p = 1 ∧ rfP h1 m T L (tkE T L p) ∧ rfF h1 m (ntF (¬ (lo ≤ tkV T L p ∧ tkV T L p ≤ hi)) 2 f) (ntQ (¬ (lo ≤ tkV T L p ∧ tkV T L p ≤ hi)) (tkS T L p) f q) ∧ rI h1 (m + 10) k = tkV T L p ∧ rI h1 m 22 = if lo ≤ tkV T L p ∧ tkV T L p ≤ hi then rI h m 22 else 0 := by
  rcases H with w | w
  · exact w.2
  · exact absurd w.1 z
theorem tkr_0 {h h1 : mH} {m : Nat} {T : Int → Int} {L p f q lo hi k v : Int} (H : tkR h h1 m T L p f q lo hi k v) (z : v = 0) : tkK T L p ≠ 1 ∧ rI h1 m 15 = tkS T L p := by
  rcases H with w | w
  · exact absurd w.1 (by omega)
  · exact w.2
def rlO (h1 : mH) (m : Nat) (T : Int → Int) (L : Int) (bs : List (Int × Int)) (p f q v : Int) (X : Prop) : Prop := (v = 1 ∧ acN T L bs p ∧ rfP h1 m T L (enN T L bs p) ∧ rfF h1 m (ffL T L bs p f) (fqL T L bs p f q) ∧ X) ∨ (v = 0 ∧ ¬ acN T L bs p ∧ rI h1 m 15 = xpL T L bs p)
theorem gd_2 {a b z : Int} {A B X : Prop} [Decidable A] [Decidable B] [Decidable X] (e0 : z = 1) (e1 : b = if A then z else 0) (e2 : a = if B then b else 0) (x : X ↔ A ∧ B) : a = bZ X := by
  rw [e2, e1, e0]
  by_cases p : B
  · rw [if_pos p]
    by_cases q : A
    · rw [if_pos q, bZ_1 (x.mpr ⟨q, p⟩)]
    · rw [if_neg q, bZ_0 (fun w => q (x.mp w).1)]
  · rw [if_neg p, bZ_0 (fun w => p (x.mp w).2)]
def rvC (C : Int → Int) (a c i : Int) : Int → Int := fun k => if 27 ≤ k ∧ k < 27 + i then (if C k = c then -1 else C k) else if 57 ≤ k ∧ k < 57 + i then (if C k = a then -1 else C k) else C k
theorem rv_0 {C : Int → Int} {a c k : Int} : rvC C a c 0 k = C k := by
  unfold rvC; rw [if_neg (by omega), if_neg (by omega)]
theorem rv_n {C : Int → Int} {a c i k : Int} (n : k ≠ 27 + i ∧ k ≠ 57 + i) : rvC C a c (i + 1) k = rvC C a c i k := by
  unfold rvC
  by_cases p : 27 ≤ k ∧ k < 27 + i
  · rw [if_pos p, if_pos (by omega)]
  · rw [if_neg p, if_neg (by omega)]
    by_cases q : 57 ≤ k ∧ k < 57 + i
    · rw [if_pos q, if_pos (by omega)]
    · rw [if_neg q, if_neg (by omega)]
theorem rv_c {C : Int → Int} {a c i : Int} (i0 : 0 ≤ i ∧ i < 6) : rvC C a c i (27 + i) = C (27 + i) ∧ rvC C a c i (57 + i) = C (57 + i) ∧ rvC C a c (i + 1) (27 + i) = (if C (27 + i) = c then -1 else C (27 + i)) ∧ rvC C a c (i + 1) (57 + i) = if C (57 + i) = a then -1 else C (57 + i) := by
  unfold rvC
  refine ⟨by rw [if_neg (by omega), if_neg (by omega)], by rw [if_neg (by omega), if_neg (by omega)], by rw [if_pos (by omega)], ?_⟩
  rw [if_neg (show ¬ (27 ≤ 57 + i ∧ 57 + i < 27 + (i + 1)) by omega), if_pos (show 57 ≤ 57 + i ∧ 57 + i < 57 + (i + 1) by omega)]
theorem rv_6 {C : Int → Int} {a c k : Int} (n : k ≠ 27 + a ∧ k ≠ 57 + c) : rvC C a c 6 k = rivG C a c k := by
  by_cases p : 27 ≤ k ∧ k < 33
  · rw [show rvC C a c 6 k = (if C k = c then -1 else C k) from if_pos (by omega), show rivG C a c k = (if k = 27 + a then c else if C k = c then -1 else C k) from if_pos p, if_neg n.1]
  · rw [show rvC C a c 6 k = (if 57 ≤ k ∧ k < 57 + 6 then (if C k = a then -1 else C k) else C k) from if_neg (by omega), show rivG C a c k = (if 57 ≤ k ∧ k < 63 then (if k = 57 + c then a else if C k = a then -1 else C k) else C k) from if_neg p]
    by_cases q : 57 ≤ k ∧ k < 63
    · rw [if_pos (show 57 ≤ k ∧ k < 57 + 6 by omega), if_pos q, if_neg n.2]
    · rw [if_neg (show ¬ (57 ≤ k ∧ k < 57 + 6) by omega), if_neg q]
theorem rv_a {C : Int → Int} {a c : Int} (a0 : 0 ≤ a ∧ a < 6) (c0 : 0 ≤ c ∧ c < 6) : rivG C a c (27 + a) = c ∧ rivG C a c (57 + c) = a := by
  unfold rivG
  refine ⟨by rw [if_pos (by omega), if_pos rfl], ?_⟩
  rw [if_neg (show ¬ (27 ≤ 57 + c ∧ 57 + c < 33) by omega), if_pos (by omega), if_pos rfl]
theorem rI_eqz {h h1 : mH} {a : Nat} {k z v : Int} (n : k = z) (e : h1 = sI h a z v) (hv : inI v) : rI h1 a k = v := by
  rw [n]; exact rI_eq e hv
set_option maxHeartbeats 1000000 in
theorem zp_X12_take {ad : mA} {dd : Nat} {h : mH} {Q : mQ} {m : Nat} {T : Int → Int} {L p f q : Int} (hk : rk h m) (HT : rfT h m T L) (HP : rfP h m T L p) (HF : rfF h m f q)  (k : Int) (k_r : -2147483648 ≤ k ∧ k < 2147483648) (lo : Int) (lo_r : -2147483648 ≤ lo ∧ lo < 2147483648) (hi : Int) (hi_r : -2147483648 ≤ hi ∧ hi < 2147483648) (pn : nqB f q (tkS T L p)) (pk : 0 ≤ k ∧ k ≤ 3) (kq : ∀ v : Int, (v = 0 ∨ v = 1) → ∀ h1, frm (fun a j => (a = m ∧ (j = 9 ∨ (11 ≤ j ∧ j ≤ 17) ∨ j = 22)) ∨ (a = m + 10 ∧ j = k.toNat)) h h1 → (tkR h h1 m T L p f q lo hi k v) → Q (some (.int (zI v))) h1) : mCal TB0 ad (dd + 3) M_X12_take [.ref m, .int (zI k), .int (zI lo), .int (zI hi)] h 0 0 Q := by
  refine ⟨Nat.le_of_ble_eq_true rfl, ?_⟩
  show mEv TB0 ad M_X12_take (dd + 3) (0, 0) (mCal TB0 ad (dd + 2)) (fun v h' z => z.1 = 0 ∧ Q v h') 0 [some (.ref m), some (.int (zI k)), some (.int (zI lo)), some (.int (zI hi))] [] h (0, 0)
  have FR0 : frm (fun a j => (a = m ∧ (j = 9 ∨ (11 ≤ j ∧ j ≤ 17) ∨ j = 22)) ∨ (a = m + 10 ∧ j = k.toNat)) h h := frm_0 h
  have w1 := HT.1
  have p0 := HP.1
  have tb := tk_b (T := T) HP.1.1 HP.1.2
  refine e_aload_n dX12_take_0 rfl ?_
  refine z_get (ksZ (tkK T L p)) dX12_take_1 tf_12_140 (rk_s hk) (Or.inl rfl) HP.2.2.1 ?_
  have y1 := tk_b (T := T) HP.1.1 HP.1.2
  have y2 := HP.1
  have y3 := ks_p (tkK T L p)
  refine z_iconst (3) dX12_take_4 rfl ?_
  refine z_icmp_eq 13 dX12_take_5 rfl ⟨by omega, by omega⟩ ⟨by omega, by omega⟩ (fun c4 => ?_) (fun c4 => ?_)
  · skip
    have tv := tv_b (T := T) (L := L) (p := p) (by omega)
    refine e_aload_n dX12_take_13 rfl ?_
    refine e_get (.ref (m + 10)) dX12_take_14 tf_12_38 (rk_s hk) (congrArg va_rf (rk_r10 hk)) ?_
    refine e_iload_n dX12_take_17 rfl ?_
    refine e_aload_n dX12_take_18 rfl ?_
    refine z_get (tkV T L p) dX12_take_19 tf_12_143 (rk_s hk) (Or.inl rfl) (HP.2.2.2.2.1 (by omega)) ?_
    refine z_ist dX12_take_22 (rk_a10 hk) (by decide) (by omega) (by omega) (fun h5 e6 => ?_)
    have f7 := frm_1 e6
    have k8 := rk_q (frm_s f7) hk
    have H9 := rfT_c f7 (fun a k q => by omega) HT
    have H10 := rfP_c f7 (fun a k q => by omega) HP
    have H11 := rfF_c f7 (fun a k q => by omega) HF
    have FR12 := frm_t FR0 (frm_m (S' := (fun a j => (a = m ∧ (j = 9 ∨ (11 ≤ j ∧ j ≤ 17) ∨ j = 22)) ∨ (a = m + 10 ∧ j = k.toNat))) f7 (fun a k q => by omega))
    refine e_aload_n dX12_take_23 rfl ?_
    refine z_get (tkV T L p) dX12_take_24 tf_12_143 (rk_s k8) (Or.inl rfl) (H10.2.2.2.2.1 (by omega)) ?_
    refine e_iload_n dX12_take_27 rfl ?_
    refine e_iload_n dX12_take_28 rfl ?_
    refine e_callS [.int _, .int _, .int _] dX12_take_29 tm_12_115 rfl (Nat.le_of_ble_eq_true rfl) (Nat.le_refl _) (Nat.le_refl _) rfl (zp_X12_in (tkV T L p) ⟨by omega, by omega⟩ lo ⟨by omega, by omega⟩ hi ⟨by omega, by omega⟩ ?_)
    refine z_ifb_ne 49 dX12_take_32 rfl (fun c13 => ?_) (fun c13 => ?_)
    · skip
      refine e_aload_n dX12_take_49 rfl ?_
      have PA50 : rI h5 m 9 = tkE T L p := H10.2.1
      refine e_callV [] dX12_take_50 tm_12_167 rfl (Nat.le_of_ble_eq_true rfl) (rk_s k8) (Nat.le_of_ble_eq_true rfl) (Nat.le_refl _) (Nat.le_refl _) rfl (zp_X12_token k8 H9 (tkE T L p) PA50 (by omega) (fun  h14 f15 p16 => ?_))
      have k17 := rk_q (frm_s f15) k8
      have H18 := rfT_c f15 (fun a k q => by omega) H9
      have H19 := rfF_c f15 (fun a k q => by omega) H11
      have FR20 := frm_t FR12 (frm_m (S' := (fun a j => (a = m ∧ (j = 9 ∨ (11 ≤ j ∧ j ≤ 17) ∨ j = 22)) ∨ (a = m + 10 ∧ j = k.toNat))) f15 (fun a k q => by omega))
      refine z_iconst (1) dX12_take_53 rfl ?_
      refine z_bret dX12_take_54 rfl (Or.inr rfl) ⟨rfl, ?_⟩
      exact kq 1 (Or.inr rfl) _ FR20 (Or.inl ⟨rfl, by omega, p16, by rw [(nt_n (c := (¬ (lo ≤ tkV T L p ∧ tkV T L p ≤ hi))) (k := 2) (s := tkS T L p) (f := f) (q := q) (fun z => absurd (by omega) z.1)).1, (nt_n (c := (¬ (lo ≤ tkV T L p ∧ tkV T L p ≤ hi))) (k := 2) (s := tkS T L p) (f := f) (q := q) (fun z => absurd (by omega) z.1)).2]; exact H19, ((frm_r f15 (by omega)).trans (rI_eq e6 ⟨by omega, by omega⟩)), by rw [if_pos (by omega)]; exact ((frm_r f15 (by omega)).trans (frm_r f7 (by omega)))⟩)
    · skip
      refine e_aload_n dX12_take_35 rfl ?_
      refine z_iconst (2) dX12_take_36 rfl ?_
      refine e_aload_n dX12_take_37 rfl ?_
      refine z_get (tkS T L p) dX12_take_38 tf_12_133 (rk_s k8) (Or.inl rfl) H10.2.2.2.1 ?_
      have y21 := tk_b (T := T) H10.1.1 H10.1.2
      have y22 := H10.1
      have y23 := ks_p (tkK T L p)
      refine e_callV [.int _, .int _] dX12_take_41 tm_12_159 rfl (Nat.le_of_ble_eq_true rfl) (rk_s k8) (Nat.le_of_ble_eq_true rfl) (Nat.le_refl _) (Nat.le_refl _) rfl (zp_X12_later k8 H11 2 ⟨by omega, by omega⟩ (tkS T L p) ⟨by omega, by omega⟩ (by omega) pn.2.2 pn.2.1 (fun  h24 f25 p26 => ?_))
      have k27 := rk_q (frm_s f25) k8
      have H28 := rfT_c f25 (fun a k q => by omega) H9
      have H29 := rfP_c f25 (fun a k q => by omega) H10
      have FR30 := frm_t FR12 (frm_m (S' := (fun a j => (a = m ∧ (j = 9 ∨ (11 ≤ j ∧ j ≤ 17) ∨ j = 22)) ∨ (a = m + 10 ∧ j = k.toNat))) f25 (fun a k q => by omega))
      refine e_aload_n dX12_take_44 rfl ?_
      refine z_iconst (0) dX12_take_45 rfl ?_
      refine z_putZ dX12_take_46 tf_12_163 (rk_s k27) rfl (Or.inl rfl) (Or.inl rfl) (fun h31 e32 => ?_)
      have f33 := frm_1 e32
      have k34 := rk_q (frm_s f33) k27
      have H35 := rfT_c f33 (fun a k q => by omega) H28
      have H36 := rfP_c f33 (fun a k q => by omega) H29
      have H37 := rfF_c f33 (fun a k q => by omega) p26
      have FR38 := frm_t FR30 (frm_m (S' := (fun a j => (a = m ∧ (j = 9 ∨ (11 ≤ j ∧ j ≤ 17) ∨ j = 22)) ∨ (a = m + 10 ∧ j = k.toNat))) f33 (fun a k q => by omega))
      refine e_aload_n dX12_take_49 rfl ?_
      have PA50 : rI h31 m 9 = tkE T L p := H36.2.1
      refine e_callV [] dX12_take_50 tm_12_167 rfl (Nat.le_of_ble_eq_true rfl) (rk_s k34) (Nat.le_of_ble_eq_true rfl) (Nat.le_refl _) (Nat.le_refl _) rfl (zp_X12_token k34 H35 (tkE T L p) PA50 (by omega) (fun  h39 f40 p41 => ?_))
      have k42 := rk_q (frm_s f40) k34
      have H43 := rfT_c f40 (fun a k q => by omega) H35
      have H44 := rfF_c f40 (fun a k q => by omega) H37
      have FR45 := frm_t FR38 (frm_m (S' := (fun a j => (a = m ∧ (j = 9 ∨ (11 ≤ j ∧ j ≤ 17) ∨ j = 22)) ∨ (a = m + 10 ∧ j = k.toNat))) f40 (fun a k q => by omega))
      refine z_iconst (1) dX12_take_53 rfl ?_
      refine z_bret dX12_take_54 rfl (Or.inr rfl) ⟨rfl, ?_⟩
      exact kq 1 (Or.inr rfl) _ FR45 (Or.inl ⟨rfl, by omega, p41, by rw [(nt_iff (c := (¬ (lo ≤ tkV T L p ∧ tkV T L p ≤ hi))) (c' := True) (k := 2) (s := tkS T L p) (f := f) (q := q) ⟨fun _ => trivial, fun _ => by omega⟩).1, (nt_iff (c := (¬ (lo ≤ tkV T L p ∧ tkV T L p ≤ hi))) (c' := True) (k := 2) (s := tkS T L p) (f := f) (q := q) ⟨fun _ => trivial, fun _ => by omega⟩).2]; exact H44, (((frm_r f40 (by omega)).trans ((frm_r f33 (by omega)).trans (frm_r f25 (by omega)))).trans (rI_eq e6 ⟨by omega, by omega⟩)), by rw [if_neg (by omega)]; exact ((frm_r f40 (by omega)).trans (rI_eq e32 ⟨by omega, by omega⟩))⟩)
  · skip
    refine e_aload_n dX12_take_8 rfl ?_
    refine e_callV [] dX12_take_9 tm_12_155 rfl (Nat.le_of_ble_eq_true rfl) (rk_s hk) (Nat.le_of_ble_eq_true rfl) (Nat.le_refl _) (Nat.le_refl _) rfl (zp_X12_fails hk HP (by omega) (fun  h46 f47 p48 => ?_))
    have k49 := rk_q (frm_s f47) hk
    have H50 := rfT_c f47 (fun a k q => by omega) HT
    have H51 := rfP_c f47 (fun a k q => by omega) HP
    have H52 := rfF_c f47 (fun a k q => by omega) HF
    have FR53 := frm_t FR0 (frm_m (S' := (fun a j => (a = m ∧ (j = 9 ∨ (11 ≤ j ∧ j ≤ 17) ∨ j = 22)) ∨ (a = m + 10 ∧ j = k.toNat))) f47 (fun a k q => by omega))
    skip
    refine z_bret dX12_take_12 rfl (bZ_01 _) ⟨rfl, ?_⟩
    exact kq 0 (Or.inl rfl) _ FR53 (Or.inr ⟨rfl, by omega, p48⟩)
set_option maxHeartbeats 400000 in
theorem zp_X12_full {ad : mA} {dd : Nat} {h : mH} {Q : mQ} {m : Nat} {C : Int → Int} {f q : Int} (hk : rk h m) (HF : rfF h m f q) (HC : rfC h m C)  (k : Int) (k_r : -2147483648 ≤ k ∧ k < 2147483648) (w : Int) (w_r : -2147483648 ≤ w ∧ w < 2147483648) (s0 : Int) (s0_r : -2147483648 ≤ s0 ∧ s0 < 2147483648) (pk : 0 ≤ k ∧ k < 3) (pn : nqB f q s0) (kq : ∀ h1, frm (fun a j => a = m ∧ (j = 16 ∨ j = 17)) h h1 → (rfF h1 m (ntF (C k = w) 3 f) (ntQ (C k = w) s0 f q)) → Q none h1) : mCal TB0 ad (dd + 2) M_X12_full [.ref m, .int (zI k), .int (zI w), .int (zI s0)] h 0 0 Q := by
  refine ⟨Nat.le_of_ble_eq_true rfl, ?_⟩
  show mEv TB0 ad M_X12_full (dd + 2) (0, 0) (mCal TB0 ad (dd + 1)) (fun v h' z => z.1 = 0 ∧ Q v h') 0 [some (.ref m), some (.int (zI k)), some (.int (zI w)), some (.int (zI s0))] [] h (0, 0)
  have FR0 : frm (fun a j => a = m ∧ (j = 16 ∨ j = 17)) h h := frm_0 h
  refine e_aload_n dX12_full_0 rfl ?_
  refine e_get (.ref (m + 9)) dX12_full_1 tf_12_35 (rk_s hk) (congrArg va_rf (rk_r9 hk)) ?_
  refine e_iload_n dX12_full_4 rfl ?_
  refine z_ild (C k) dX12_full_5 (rk_a9 hk) (by decide) (by omega) (by omega) (HC k (by omega) (by omega)) ?_
  have y1 := rI_r (HC k (by omega) (by omega))
  refine e_iload_n dX12_full_6 rfl ?_
  refine z_icmp_ne 16 dX12_full_7 rfl ⟨by omega, by omega⟩ ⟨by omega, by omega⟩ (fun c2 => ?_) (fun c2 => ?_)
  · skip
    refine e_vret dX12_full_16 rfl ⟨rfl, ?_⟩
    exact kq _ FR0 (by rw [(nt_n (c := (C k = w)) (k := 3) (s := s0) (f := f) (q := q) (fun z => absurd z.1 (by omega))).1, (nt_n (c := (C k = w)) (k := 3) (s := s0) (f := f) (q := q) (fun z => absurd z.1 (by omega))).2]; exact HF)
  · skip
    refine e_aload_n dX12_full_10 rfl ?_
    refine z_iconst (3) dX12_full_11 rfl ?_
    refine e_iload_n dX12_full_12 rfl ?_
    refine e_callV [.int _, .int _] dX12_full_13 tm_12_159 rfl (Nat.le_of_ble_eq_true rfl) (rk_s hk) (Nat.le_of_ble_eq_true rfl) (Nat.le_refl _) (Nat.le_refl _) rfl (zp_X12_later hk HF 3 ⟨by omega, by omega⟩ s0 ⟨by omega, by omega⟩ (by omega) pn.2.2 pn.2.1 (fun  h3 f4 p5 => ?_))
    have k6 := rk_q (frm_s f4) hk
    have H7 := rfC_c f4 (fun a k q => by omega) HC
    have FR8 := frm_t FR0 (frm_m (S' := (fun a j => a = m ∧ (j = 16 ∨ j = 17))) f4 (fun a k q => by omega))
    refine e_vret dX12_full_16 rfl ⟨rfl, ?_⟩
    exact kq _ FR8 (by rw [(nt_iff (c := (C k = w)) (c' := True) (k := 3) (s := s0) (f := f) (q := q) ⟨fun _ => trivial, fun _ => by omega⟩).1, (nt_iff (c := (C k = w)) (c' := True) (k := 3) (s := s0) (f := f) (q := q) ⟨fun _ => trivial, fun _ => by omega⟩).2]; exact p5)
set_option maxHeartbeats 400000 in
theorem zp_X12_keep_40 {ad : mA} {dd : Nat} {h : mH} {Q : mQ} {m : Nat} {C : Int → Int} (hk : rk h m) (HC : rfC h m C) (r0 r1 r2 : Int)  (e0 : rI h (m + 10) 0 = r0) (e1 : rI h (m + 10) 1 = r1) (e2 : rI h (m + 10) 2 = r2) (py : 0 ≤ C 0 ∧ C 0 ≤ 40) (kq : ∀ h1, frm (fun a j => a = m + 9) h h1 → (rfC h1 m (adY 40 C r0 r1 r2)) → Q none h1) : mCal TB0 ad (dd + 1) M_X12_keep [.ref m, .int (zI 40)] h 0 0 Q := by
  refine ⟨Nat.le_of_ble_eq_true rfl, ?_⟩
  show mEv TB0 ad M_X12_keep (dd + 1) (0, 0) (mCal TB0 ad (dd + 0)) (fun v h' z => z.1 = 0 ∧ Q v h') 0 [some (.ref m), some (.int (zI 40)), none, none] [] h (0, 0)
  have FR0 : frm (fun a j => a = m + 9) h h := frm_0 h
  have s0 := rI_r e0
  have s1 := rI_r e1
  have s2 := rI_r e2
  refine e_aload_n dX12_keep_0 rfl ?_
  refine e_get (.ref (m + 9)) dX12_keep_1 tf_12_35 (rk_s hk) (congrArg va_rf (rk_r9 hk)) ?_
  refine z_iconst (0) dX12_keep_4 rfl ?_
  refine z_ild (C 0) dX12_keep_5 (rk_a9 hk) (by decide) (by omega) (by omega) (HC 0 (by omega) (by omega)) ?_
  have y1 := rI_r (HC 0 (by omega) (by omega))
  refine e_istore_n (L' := [_, _, _, _]) dX12_keep_6 (Nat.le_of_ble_eq_true rfl) rfl ?_
  refine e_iload_n dX12_keep_7 rfl ?_
  refine e_iload_n dX12_keep_8 rfl ?_
  refine z_icmp_ne 13 dX12_keep_9 rfl ⟨by omega, by omega⟩ ⟨by omega, by omega⟩ (fun c2 => ?_) (fun c2 => ?_)
  · skip
    refine z_iconst (0) dX12_keep_13 rfl ?_
    refine e_istore_n (L' := [_, _, _, _]) dX12_keep_14 (Nat.le_of_ble_eq_true rfl) rfl ?_
    refine e_iload_n dX12_keep_15 rfl ?_
    refine z_iconst (3) dX12_keep_16 rfl ?_
    refine z_icmp_ge 44 dX12_keep_17 rfl ⟨by omega, by omega⟩ ⟨by omega, by omega⟩ (fun c3 => ?_) (fun c3 => ?_)
    · exfalso; omega
    · skip
      refine e_aload_n dX12_keep_20 rfl ?_
      refine e_get (.ref (m + 9)) dX12_keep_21 tf_12_35 (rk_s hk) (congrArg va_rf (rk_r9 hk)) ?_
      refine z_iconst (1) dX12_keep_24 rfl ?_
      refine z_iconst (3) dX12_keep_25 rfl ?_
      refine e_iload_n dX12_keep_26 rfl ?_
      refine z_imul dX12_keep_27 ?_
      refine z_iadd dX12_keep_28 ?_
      refine e_iload_n dX12_keep_29 rfl ?_
      refine z_iadd dX12_keep_30 ?_
      refine e_aload_n dX12_keep_31 rfl ?_
      refine e_get (.ref (m + 10)) dX12_keep_32 tf_12_38 (rk_s hk) (congrArg va_rf (rk_r10 hk)) ?_
      refine e_iload_n dX12_keep_35 rfl ?_
      refine z_ild r0 dX12_keep_36 (rk_a10 hk) (by decide) (by omega) (by omega) e0 ?_
      refine z_ist dX12_keep_37 (rk_a9 hk) (by decide) (by omega) (by omega) (fun h4 e5 => ?_)
      have f6 := frm_1 e5
      have k7 := rk_q (frm_s f6) hk
      have FR8 := frm_t FR0 (frm_m (S' := (fun a j => a = m + 9)) f6 (fun a k q => by omega))
      refine z_iinc (L' := [_, _, _, _]) dX12_keep_38 rfl rfl ?_
      refine e_goto 15 dX12_keep_41 rfl ?_
      refine e_iload_n dX12_keep_15 rfl ?_
      refine z_iconst (3) dX12_keep_16 rfl ?_
      refine z_icmp_ge 44 dX12_keep_17 rfl ⟨by omega, by omega⟩ ⟨by omega, by omega⟩ (fun c9 => ?_) (fun c9 => ?_)
      · exfalso; omega
      · skip
        refine e_aload_n dX12_keep_20 rfl ?_
        refine e_get (.ref (m + 9)) dX12_keep_21 tf_12_35 (rk_s k7) (congrArg va_rf (rk_r9 k7)) ?_
        refine z_iconst (1) dX12_keep_24 rfl ?_
        refine z_iconst (3) dX12_keep_25 rfl ?_
        refine e_iload_n dX12_keep_26 rfl ?_
        refine z_imul dX12_keep_27 ?_
        refine z_iadd dX12_keep_28 ?_
        refine e_iload_n dX12_keep_29 rfl ?_
        refine z_iadd dX12_keep_30 ?_
        refine e_aload_n dX12_keep_31 rfl ?_
        refine e_get (.ref (m + 10)) dX12_keep_32 tf_12_38 (rk_s k7) (congrArg va_rf (rk_r10 k7)) ?_
        refine e_iload_n dX12_keep_35 rfl ?_
        refine z_ild r1 dX12_keep_36 (rk_a10 k7) (by decide) (by omega) (by omega) (((frm_r f6 (by omega))).trans e1) ?_
        refine z_ist dX12_keep_37 (rk_a9 k7) (by decide) (by omega) (by omega) (fun h10 e11 => ?_)
        have f12 := frm_1 e11
        have k13 := rk_q (frm_s f12) k7
        have FR14 := frm_t FR8 (frm_m (S' := (fun a j => a = m + 9)) f12 (fun a k q => by omega))
        refine z_iinc (L' := [_, _, _, _]) dX12_keep_38 rfl rfl ?_
        refine e_goto 15 dX12_keep_41 rfl ?_
        refine e_iload_n dX12_keep_15 rfl ?_
        refine z_iconst (3) dX12_keep_16 rfl ?_
        refine z_icmp_ge 44 dX12_keep_17 rfl ⟨by omega, by omega⟩ ⟨by omega, by omega⟩ (fun c15 => ?_) (fun c15 => ?_)
        · exfalso; omega
        · skip
          refine e_aload_n dX12_keep_20 rfl ?_
          refine e_get (.ref (m + 9)) dX12_keep_21 tf_12_35 (rk_s k13) (congrArg va_rf (rk_r9 k13)) ?_
          refine z_iconst (1) dX12_keep_24 rfl ?_
          refine z_iconst (3) dX12_keep_25 rfl ?_
          refine e_iload_n dX12_keep_26 rfl ?_
          refine z_imul dX12_keep_27 ?_
          refine z_iadd dX12_keep_28 ?_
          refine e_iload_n dX12_keep_29 rfl ?_
          refine z_iadd dX12_keep_30 ?_
          refine e_aload_n dX12_keep_31 rfl ?_
          refine e_get (.ref (m + 10)) dX12_keep_32 tf_12_38 (rk_s k13) (congrArg va_rf (rk_r10 k13)) ?_
          refine e_iload_n dX12_keep_35 rfl ?_
          refine z_ild r2 dX12_keep_36 (rk_a10 k13) (by decide) (by omega) (by omega) ((((frm_r f12 (by omega)).trans (frm_r f6 (by omega)))).trans e2) ?_
          refine z_ist dX12_keep_37 (rk_a9 k13) (by decide) (by omega) (by omega) (fun h16 e17 => ?_)
          have f18 := frm_1 e17
          have k19 := rk_q (frm_s f18) k13
          have FR20 := frm_t FR14 (frm_m (S' := (fun a j => a = m + 9)) f18 (fun a k q => by omega))
          refine z_iinc (L' := [_, _, _, _]) dX12_keep_38 rfl rfl ?_
          refine e_goto 15 dX12_keep_41 rfl ?_
          refine e_iload_n dX12_keep_15 rfl ?_
          refine z_iconst (3) dX12_keep_16 rfl ?_
          refine z_icmp_ge 44 dX12_keep_17 rfl ⟨by omega, by omega⟩ ⟨by omega, by omega⟩ (fun c21 => ?_) (fun c21 => ?_)
          · skip
            refine e_aload_n dX12_keep_44 rfl ?_
            refine e_get (.ref (m + 9)) dX12_keep_45 tf_12_35 (rk_s k19) (congrArg va_rf (rk_r9 k19)) ?_
            refine z_iconst (0) dX12_keep_48 rfl ?_
            refine e_dup2 dX12_keep_49 rfl rfl ?_
            refine z_ild (C 0) dX12_keep_50 (rk_a9 k19) (by decide) (by omega) (by omega) ((((frm_r f18 (by omega)).trans ((frm_r f12 (by omega)).trans (frm_r f6 (by omega))))).trans (HC 0 (by omega) (by omega))) ?_
            refine z_iconst (1) dX12_keep_51 rfl ?_
            refine z_iadd dX12_keep_52 ?_
            refine z_ist dX12_keep_53 (rk_a9 k19) (by decide) (by omega) (by omega) (fun h22 e23 => ?_)
            have f24 := frm_1 e23
            have k25 := rk_q (frm_s f24) k19
            have FR26 := frm_t FR20 (frm_m (S' := (fun a j => a = m + 9)) f24 (fun a k q => by omega))
            refine e_vret dX12_keep_54 rfl ⟨rfl, ?_⟩
            refine kq _ FR26 (fun k a z => ?_)
            unfold adY
            rw [if_pos (by omega)]
            by_cases z0 : k = 0
            · rw [if_pos z0, z0]; exact (rI_eqz (by omega) e23 ⟨by omega, by omega⟩)
            rw [if_neg z0]
            by_cases z1 : k = 1 + 3 * C 0
            · rw [if_pos z1]; exact (((frm_r f24 (by omega)).trans ((frm_r f18 (by omega)).trans (frm_r f12 (by omega)))).trans (rI_eqz (by omega) e5 ⟨by omega, by omega⟩))
            rw [if_neg z1]
            by_cases z2 : k = 2 + 3 * C 0
            · rw [if_pos z2]; exact (((frm_r f24 (by omega)).trans (frm_r f18 (by omega))).trans (rI_eqz (by omega) e11 ⟨by omega, by omega⟩))
            rw [if_neg z2]
            by_cases z3 : k = 3 + 3 * C 0
            · rw [if_pos z3]; exact ((frm_r f24 (by omega)).trans (rI_eqz (by omega) e17 ⟨by omega, by omega⟩))
            rw [if_neg z3]
            exact (((frm_r f24 (by omega)).trans ((frm_r f18 (by omega)).trans ((frm_r f12 (by omega)).trans (frm_r f6 (by omega)))))).trans (HC k a z)
          · exfalso; omega
  · skip
    refine e_vret dX12_keep_12 rfl ⟨rfl, ?_⟩
    exact kq _ FR0 (by rw [ay_f (by omega)]; exact HC)
set_option maxHeartbeats 400000 in
theorem zp_X12_keep_8 {ad : mA} {dd : Nat} {h : mH} {Q : mQ} {m : Nat} {C : Int → Int} (hk : rk h m) (HC : rfC h m C) (r0 r1 r2 : Int)  (e0 : rI h (m + 10) 0 = r0) (e1 : rI h (m + 10) 1 = r1) (e2 : rI h (m + 10) 2 = r2) (py : 0 ≤ C 0 ∧ C 0 ≤ 8) (kq : ∀ h1, frm (fun a j => a = m + 9) h h1 → (rfC h1 m (adY 8 C r0 r1 r2)) → Q none h1) : mCal TB0 ad (dd + 1) M_X12_keep [.ref m, .int (zI 8)] h 0 0 Q := by
  refine ⟨Nat.le_of_ble_eq_true rfl, ?_⟩
  show mEv TB0 ad M_X12_keep (dd + 1) (0, 0) (mCal TB0 ad (dd + 0)) (fun v h' z => z.1 = 0 ∧ Q v h') 0 [some (.ref m), some (.int (zI 8)), none, none] [] h (0, 0)
  have FR0 : frm (fun a j => a = m + 9) h h := frm_0 h
  have s0 := rI_r e0
  have s1 := rI_r e1
  have s2 := rI_r e2
  refine e_aload_n dX12_keep_0 rfl ?_
  refine e_get (.ref (m + 9)) dX12_keep_1 tf_12_35 (rk_s hk) (congrArg va_rf (rk_r9 hk)) ?_
  refine z_iconst (0) dX12_keep_4 rfl ?_
  refine z_ild (C 0) dX12_keep_5 (rk_a9 hk) (by decide) (by omega) (by omega) (HC 0 (by omega) (by omega)) ?_
  have y1 := rI_r (HC 0 (by omega) (by omega))
  refine e_istore_n (L' := [_, _, _, _]) dX12_keep_6 (Nat.le_of_ble_eq_true rfl) rfl ?_
  refine e_iload_n dX12_keep_7 rfl ?_
  refine e_iload_n dX12_keep_8 rfl ?_
  refine z_icmp_ne 13 dX12_keep_9 rfl ⟨by omega, by omega⟩ ⟨by omega, by omega⟩ (fun c2 => ?_) (fun c2 => ?_)
  · skip
    refine z_iconst (0) dX12_keep_13 rfl ?_
    refine e_istore_n (L' := [_, _, _, _]) dX12_keep_14 (Nat.le_of_ble_eq_true rfl) rfl ?_
    refine e_iload_n dX12_keep_15 rfl ?_
    refine z_iconst (3) dX12_keep_16 rfl ?_
    refine z_icmp_ge 44 dX12_keep_17 rfl ⟨by omega, by omega⟩ ⟨by omega, by omega⟩ (fun c3 => ?_) (fun c3 => ?_)
    · exfalso; omega
    · skip
      refine e_aload_n dX12_keep_20 rfl ?_
      refine e_get (.ref (m + 9)) dX12_keep_21 tf_12_35 (rk_s hk) (congrArg va_rf (rk_r9 hk)) ?_
      refine z_iconst (1) dX12_keep_24 rfl ?_
      refine z_iconst (3) dX12_keep_25 rfl ?_
      refine e_iload_n dX12_keep_26 rfl ?_
      refine z_imul dX12_keep_27 ?_
      refine z_iadd dX12_keep_28 ?_
      refine e_iload_n dX12_keep_29 rfl ?_
      refine z_iadd dX12_keep_30 ?_
      refine e_aload_n dX12_keep_31 rfl ?_
      refine e_get (.ref (m + 10)) dX12_keep_32 tf_12_38 (rk_s hk) (congrArg va_rf (rk_r10 hk)) ?_
      refine e_iload_n dX12_keep_35 rfl ?_
      refine z_ild r0 dX12_keep_36 (rk_a10 hk) (by decide) (by omega) (by omega) e0 ?_
      refine z_ist dX12_keep_37 (rk_a9 hk) (by decide) (by omega) (by omega) (fun h4 e5 => ?_)
      have f6 := frm_1 e5
      have k7 := rk_q (frm_s f6) hk
      have FR8 := frm_t FR0 (frm_m (S' := (fun a j => a = m + 9)) f6 (fun a k q => by omega))
      refine z_iinc (L' := [_, _, _, _]) dX12_keep_38 rfl rfl ?_
      refine e_goto 15 dX12_keep_41 rfl ?_
      refine e_iload_n dX12_keep_15 rfl ?_
      refine z_iconst (3) dX12_keep_16 rfl ?_
      refine z_icmp_ge 44 dX12_keep_17 rfl ⟨by omega, by omega⟩ ⟨by omega, by omega⟩ (fun c9 => ?_) (fun c9 => ?_)
      · exfalso; omega
      · skip
        refine e_aload_n dX12_keep_20 rfl ?_
        refine e_get (.ref (m + 9)) dX12_keep_21 tf_12_35 (rk_s k7) (congrArg va_rf (rk_r9 k7)) ?_
        refine z_iconst (1) dX12_keep_24 rfl ?_
        refine z_iconst (3) dX12_keep_25 rfl ?_
        refine e_iload_n dX12_keep_26 rfl ?_
        refine z_imul dX12_keep_27 ?_
        refine z_iadd dX12_keep_28 ?_
        refine e_iload_n dX12_keep_29 rfl ?_
        refine z_iadd dX12_keep_30 ?_
        refine e_aload_n dX12_keep_31 rfl ?_
        refine e_get (.ref (m + 10)) dX12_keep_32 tf_12_38 (rk_s k7) (congrArg va_rf (rk_r10 k7)) ?_
        refine e_iload_n dX12_keep_35 rfl ?_
        refine z_ild r1 dX12_keep_36 (rk_a10 k7) (by decide) (by omega) (by omega) (((frm_r f6 (by omega))).trans e1) ?_
        refine z_ist dX12_keep_37 (rk_a9 k7) (by decide) (by omega) (by omega) (fun h10 e11 => ?_)
        have f12 := frm_1 e11
        have k13 := rk_q (frm_s f12) k7
        have FR14 := frm_t FR8 (frm_m (S' := (fun a j => a = m + 9)) f12 (fun a k q => by omega))
        refine z_iinc (L' := [_, _, _, _]) dX12_keep_38 rfl rfl ?_
        refine e_goto 15 dX12_keep_41 rfl ?_
        refine e_iload_n dX12_keep_15 rfl ?_
        refine z_iconst (3) dX12_keep_16 rfl ?_
        refine z_icmp_ge 44 dX12_keep_17 rfl ⟨by omega, by omega⟩ ⟨by omega, by omega⟩ (fun c15 => ?_) (fun c15 => ?_)
        · exfalso; omega
        · skip
          refine e_aload_n dX12_keep_20 rfl ?_
          refine e_get (.ref (m + 9)) dX12_keep_21 tf_12_35 (rk_s k13) (congrArg va_rf (rk_r9 k13)) ?_
          refine z_iconst (1) dX12_keep_24 rfl ?_
          refine z_iconst (3) dX12_keep_25 rfl ?_
          refine e_iload_n dX12_keep_26 rfl ?_
          refine z_imul dX12_keep_27 ?_
          refine z_iadd dX12_keep_28 ?_
          refine e_iload_n dX12_keep_29 rfl ?_
          refine z_iadd dX12_keep_30 ?_
          refine e_aload_n dX12_keep_31 rfl ?_
          refine e_get (.ref (m + 10)) dX12_keep_32 tf_12_38 (rk_s k13) (congrArg va_rf (rk_r10 k13)) ?_
          refine e_iload_n dX12_keep_35 rfl ?_
          refine z_ild r2 dX12_keep_36 (rk_a10 k13) (by decide) (by omega) (by omega) ((((frm_r f12 (by omega)).trans (frm_r f6 (by omega)))).trans e2) ?_
          refine z_ist dX12_keep_37 (rk_a9 k13) (by decide) (by omega) (by omega) (fun h16 e17 => ?_)
          have f18 := frm_1 e17
          have k19 := rk_q (frm_s f18) k13
          have FR20 := frm_t FR14 (frm_m (S' := (fun a j => a = m + 9)) f18 (fun a k q => by omega))
          refine z_iinc (L' := [_, _, _, _]) dX12_keep_38 rfl rfl ?_
          refine e_goto 15 dX12_keep_41 rfl ?_
          refine e_iload_n dX12_keep_15 rfl ?_
          refine z_iconst (3) dX12_keep_16 rfl ?_
          refine z_icmp_ge 44 dX12_keep_17 rfl ⟨by omega, by omega⟩ ⟨by omega, by omega⟩ (fun c21 => ?_) (fun c21 => ?_)
          · skip
            refine e_aload_n dX12_keep_44 rfl ?_
            refine e_get (.ref (m + 9)) dX12_keep_45 tf_12_35 (rk_s k19) (congrArg va_rf (rk_r9 k19)) ?_
            refine z_iconst (0) dX12_keep_48 rfl ?_
            refine e_dup2 dX12_keep_49 rfl rfl ?_
            refine z_ild (C 0) dX12_keep_50 (rk_a9 k19) (by decide) (by omega) (by omega) ((((frm_r f18 (by omega)).trans ((frm_r f12 (by omega)).trans (frm_r f6 (by omega))))).trans (HC 0 (by omega) (by omega))) ?_
            refine z_iconst (1) dX12_keep_51 rfl ?_
            refine z_iadd dX12_keep_52 ?_
            refine z_ist dX12_keep_53 (rk_a9 k19) (by decide) (by omega) (by omega) (fun h22 e23 => ?_)
            have f24 := frm_1 e23
            have k25 := rk_q (frm_s f24) k19
            have FR26 := frm_t FR20 (frm_m (S' := (fun a j => a = m + 9)) f24 (fun a k q => by omega))
            refine e_vret dX12_keep_54 rfl ⟨rfl, ?_⟩
            refine kq _ FR26 (fun k a z => ?_)
            unfold adY
            rw [if_pos (by omega)]
            by_cases z0 : k = 0
            · rw [if_pos z0, z0]; exact (rI_eqz (by omega) e23 ⟨by omega, by omega⟩)
            rw [if_neg z0]
            by_cases z1 : k = 1 + 3 * C 0
            · rw [if_pos z1]; exact (((frm_r f24 (by omega)).trans ((frm_r f18 (by omega)).trans (frm_r f12 (by omega)))).trans (rI_eqz (by omega) e5 ⟨by omega, by omega⟩))
            rw [if_neg z1]
            by_cases z2 : k = 2 + 3 * C 0
            · rw [if_pos z2]; exact (((frm_r f24 (by omega)).trans (frm_r f18 (by omega))).trans (rI_eqz (by omega) e11 ⟨by omega, by omega⟩))
            rw [if_neg z2]
            by_cases z3 : k = 3 + 3 * C 0
            · rw [if_pos z3]; exact ((frm_r f24 (by omega)).trans (rI_eqz (by omega) e17 ⟨by omega, by omega⟩))
            rw [if_neg z3]
            exact (((frm_r f24 (by omega)).trans ((frm_r f18 (by omega)).trans ((frm_r f12 (by omega)).trans (frm_r f6 (by omega)))))).trans (HC k a z)
          · exfalso; omega
  · skip
    refine e_vret dX12_keep_12 rfl ⟨rfl, ?_⟩
    exact kq _ FR0 (by rw [ay_f (by omega)]; exact HC)
set_option maxHeartbeats 4000000 in
theorem zp_X12_bladeLine_0 {ad : mA} {dd : Nat} {h : mH} {Q : mQ} {m : Nat} {T C : Int → Int} {L p f q : Int} (hk : rk h m) (HT : rfT h m T L) (HP : rfP h m T L p) (HF : rfF h m f q) (HC : rfC h m C)   (pn : nqB f q (tkS T L p)) (pc : 0 ≤ C 0 ∧ C 0 ≤ 6) (kq : ∀ v : Int, (v = 0 ∨ v = 1) → ∀ h1, frm (fun a j => (a = m ∧ (j = 9 ∨ (11 ≤ j ∧ j ≤ 17) ∨ j = 22)) ∨ a = m + 9 ∨ a = m + 10) h h1 → (rlO h1 m T L [(1, 20), (0, 3), (0, 20), (0, 1)] p f q v (rfC h1 m (adG C 0 (tkV T L p) (tkV T L (tkE T L p)) (tkV T L (tkE T L (tkE T L p))) (tkV T L (tkE T L (tkE T L (tkE T L p))))))) → Q (some (.int (zI v))) h1) : mCal TB0 ad (dd + 4) M_X12_bladeLine [.ref m, .int (zI 0)] h 0 0 Q := by
  refine ⟨Nat.le_of_ble_eq_true rfl, ?_⟩
  show mEv TB0 ad M_X12_bladeLine (dd + 4) (0, 0) (mCal TB0 ad (dd + 3)) (fun v h' z => z.1 = 0 ∧ Q v h') 0 [some (.ref m), some (.int (zI 0)), none, none] [] h (0, 0)
  have FR0 : frm (fun a j => (a = m ∧ (j = 9 ∨ (11 ≤ j ∧ j ≤ 17) ∨ j = 22)) ∨ a = m + 9 ∨ a = m + 10) h h := frm_0 h
  have w1 := HT.1
  have p0 := HP.1
  have tb := tk_b (T := T) HP.1.1 HP.1.2
  skip
  refine e_aload_n dX12_bladeLine_0 rfl ?_
  refine z_iconst (0) dX12_bladeLine_1 rfl ?_
  refine z_iconst (1) dX12_bladeLine_2 rfl ?_
  refine z_bipush (20) dX12_bladeLine_3 rfl ?_
  have PN5 := pn
  refine e_callV [.int _, .int _, .int _] dX12_bladeLine_5 tm_12_170 rfl (Nat.le_of_ble_eq_true rfl) (rk_s hk) (Nat.le_of_ble_eq_true rfl) (Nat.le_refl _) (Nat.le_refl _) rfl (zp_X12_take hk HT HP HF 0 ⟨by omega, by omega⟩ 1 ⟨by omega, by omega⟩ 20 ⟨by omega, by omega⟩ PN5 (by omega) (fun v1 p2 h3 f4 p5 => ?_))
  have k6 := rk_q (frm_s f4) hk
  have H7 := rfT_c f4 (fun a k q => by omega) HT
  have H8 := rfC_c f4 (fun a k q => by omega) HC
  have FR9 := frm_t FR0 (frm_m (S' := (fun a j => (a = m ∧ (j = 9 ∨ (11 ≤ j ∧ j ≤ 17) ∨ j = 22)) ∨ a = m + 9 ∨ a = m + 10)) f4 (fun a k q => by omega))
  skip
  refine z_if_eq 42 dX12_bladeLine_8 rfl ⟨by omega, by omega⟩ (fun c10 => ?_) (fun c10 => ?_)
  · skip
    obtain ⟨k0, f0⟩ := tkr_0 p5 (by omega)
    refine z_iconst (0) dX12_bladeLine_42 rfl ?_
    refine z_bret dX12_bladeLine_43 rfl (Or.inl rfl) ⟨rfl, ?_⟩
    exact kq 0 (Or.inl rfl) _ FR9 (Or.inr ⟨rfl, fun z => k0 z.1, by rw [xp_n k0]; exact f0⟩)
  · skip
    obtain ⟨K11, K11p, K11f, K11n, K11g⟩ := tkr_1 p5 (by omega)
    have K11t := tk_b (T := T) K11p.1.1 K11p.1.2
    have K11v := tv_b K11
    have K11b : nqB (ntF (¬ (1 ≤ tkV T L p ∧ tkV T L p ≤ 20)) 2 f) (ntQ (¬ (1 ≤ tkV T L p ∧ tkV T L p ≤ 20)) (tkS T L p) f q) (tkS T L (tkE T L p)) := nqB_t pn (by omega) (by omega) (by omega)
    refine e_aload_n dX12_bladeLine_11 rfl ?_
    refine z_iconst (1) dX12_bladeLine_12 rfl ?_
    refine z_iconst (0) dX12_bladeLine_13 rfl ?_
    refine z_iconst (3) dX12_bladeLine_14 rfl ?_
    have PN15 := K11b
    refine e_callV [.int _, .int _, .int _] dX12_bladeLine_15 tm_12_170 rfl (Nat.le_of_ble_eq_true rfl) (rk_s k6) (Nat.le_of_ble_eq_true rfl) (Nat.le_refl _) (Nat.le_refl _) rfl (zp_X12_take k6 H7 K11p K11f 1 ⟨by omega, by omega⟩ 0 ⟨by omega, by omega⟩ 3 ⟨by omega, by omega⟩ PN15 (by omega) (fun v12 p13 h14 f15 p16 => ?_))
    have k17 := rk_q (frm_s f15) k6
    have H18 := rfT_c f15 (fun a k q => by omega) H7
    have H19 := rfC_c f15 (fun a k q => by omega) H8
    have FR20 := frm_t FR9 (frm_m (S' := (fun a j => (a = m ∧ (j = 9 ∨ (11 ≤ j ∧ j ≤ 17) ∨ j = 22)) ∨ a = m + 9 ∨ a = m + 10)) f15 (fun a k q => by omega))
    skip
    refine z_if_eq 42 dX12_bladeLine_18 rfl ⟨by omega, by omega⟩ (fun c21 => ?_) (fun c21 => ?_)
    · skip
      obtain ⟨k0, f0⟩ := tkr_0 p16 (by omega)
      refine z_iconst (0) dX12_bladeLine_42 rfl ?_
      refine z_bret dX12_bladeLine_43 rfl (Or.inl rfl) ⟨rfl, ?_⟩
      exact kq 0 (Or.inl rfl) _ FR20 (Or.inr ⟨rfl, fun z => k0 z.2.1, by rw [xp_y K11, xp_n k0]; exact f0⟩)
    · skip
      obtain ⟨K22, K22p, K22f, K22n, K22g⟩ := tkr_1 p16 (by omega)
      have K22t := tk_b (T := T) K22p.1.1 K22p.1.2
      have K22v := tv_b K22
      have K22b : nqB (ntF (¬ (0 ≤ tkV T L (tkE T L p) ∧ tkV T L (tkE T L p) ≤ 3)) 2 (ntF (¬ (1 ≤ tkV T L p ∧ tkV T L p ≤ 20)) 2 f)) (ntQ (¬ (0 ≤ tkV T L (tkE T L p) ∧ tkV T L (tkE T L p) ≤ 3)) (tkS T L (tkE T L p)) (ntF (¬ (1 ≤ tkV T L p ∧ tkV T L p ≤ 20)) 2 f) (ntQ (¬ (1 ≤ tkV T L p ∧ tkV T L p ≤ 20)) (tkS T L p) f q)) (tkS T L (tkE T L (tkE T L p))) := nqB_t K11b (by omega) (by omega) (by omega)
      refine e_aload_n dX12_bladeLine_21 rfl ?_
      refine z_iconst (2) dX12_bladeLine_22 rfl ?_
      refine z_iconst (0) dX12_bladeLine_23 rfl ?_
      refine z_bipush (20) dX12_bladeLine_24 rfl ?_
      have PN26 := K22b
      refine e_callV [.int _, .int _, .int _] dX12_bladeLine_26 tm_12_170 rfl (Nat.le_of_ble_eq_true rfl) (rk_s k17) (Nat.le_of_ble_eq_true rfl) (Nat.le_refl _) (Nat.le_refl _) rfl (zp_X12_take k17 H18 K22p K22f 2 ⟨by omega, by omega⟩ 0 ⟨by omega, by omega⟩ 20 ⟨by omega, by omega⟩ PN26 (by omega) (fun v23 p24 h25 f26 p27 => ?_))
      have k28 := rk_q (frm_s f26) k17
      have H29 := rfT_c f26 (fun a k q => by omega) H18
      have H30 := rfC_c f26 (fun a k q => by omega) H19
      have FR31 := frm_t FR20 (frm_m (S' := (fun a j => (a = m ∧ (j = 9 ∨ (11 ≤ j ∧ j ≤ 17) ∨ j = 22)) ∨ a = m + 9 ∨ a = m + 10)) f26 (fun a k q => by omega))
      skip
      refine z_if_eq 42 dX12_bladeLine_29 rfl ⟨by omega, by omega⟩ (fun c32 => ?_) (fun c32 => ?_)
      · skip
        obtain ⟨k0, f0⟩ := tkr_0 p27 (by omega)
        refine z_iconst (0) dX12_bladeLine_42 rfl ?_
        refine z_bret dX12_bladeLine_43 rfl (Or.inl rfl) ⟨rfl, ?_⟩
        exact kq 0 (Or.inl rfl) _ FR31 (Or.inr ⟨rfl, fun z => k0 z.2.2.1, by rw [xp_y K11, xp_y K22, xp_n k0]; exact f0⟩)
      · skip
        obtain ⟨K33, K33p, K33f, K33n, K33g⟩ := tkr_1 p27 (by omega)
        have K33t := tk_b (T := T) K33p.1.1 K33p.1.2
        have K33v := tv_b K33
        have K33b : nqB (ntF (¬ (0 ≤ tkV T L (tkE T L (tkE T L p)) ∧ tkV T L (tkE T L (tkE T L p)) ≤ 20)) 2 (ntF (¬ (0 ≤ tkV T L (tkE T L p) ∧ tkV T L (tkE T L p) ≤ 3)) 2 (ntF (¬ (1 ≤ tkV T L p ∧ tkV T L p ≤ 20)) 2 f))) (ntQ (¬ (0 ≤ tkV T L (tkE T L (tkE T L p)) ∧ tkV T L (tkE T L (tkE T L p)) ≤ 20)) (tkS T L (tkE T L (tkE T L p))) (ntF (¬ (0 ≤ tkV T L (tkE T L p) ∧ tkV T L (tkE T L p) ≤ 3)) 2 (ntF (¬ (1 ≤ tkV T L p ∧ tkV T L p ≤ 20)) 2 f)) (ntQ (¬ (0 ≤ tkV T L (tkE T L p) ∧ tkV T L (tkE T L p) ≤ 3)) (tkS T L (tkE T L p)) (ntF (¬ (1 ≤ tkV T L p ∧ tkV T L p ≤ 20)) 2 f) (ntQ (¬ (1 ≤ tkV T L p ∧ tkV T L p ≤ 20)) (tkS T L p) f q))) (tkS T L (tkE T L (tkE T L (tkE T L p)))) := nqB_t K22b (by omega) (by omega) (by omega)
        refine e_aload_n dX12_bladeLine_32 rfl ?_
        refine z_iconst (3) dX12_bladeLine_33 rfl ?_
        refine z_iconst (0) dX12_bladeLine_34 rfl ?_
        refine z_iconst (1) dX12_bladeLine_35 rfl ?_
        have PN36 := K33b
        refine e_callV [.int _, .int _, .int _] dX12_bladeLine_36 tm_12_170 rfl (Nat.le_of_ble_eq_true rfl) (rk_s k28) (Nat.le_of_ble_eq_true rfl) (Nat.le_refl _) (Nat.le_refl _) rfl (zp_X12_take k28 H29 K33p K33f 3 ⟨by omega, by omega⟩ 0 ⟨by omega, by omega⟩ 1 ⟨by omega, by omega⟩ PN36 (by omega) (fun v34 p35 h36 f37 p38 => ?_))
        have k39 := rk_q (frm_s f37) k28
        have H40 := rfT_c f37 (fun a k q => by omega) H29
        have H41 := rfC_c f37 (fun a k q => by omega) H30
        have FR42 := frm_t FR31 (frm_m (S' := (fun a j => (a = m ∧ (j = 9 ∨ (11 ≤ j ∧ j ≤ 17) ∨ j = 22)) ∨ a = m + 9 ∨ a = m + 10)) f37 (fun a k q => by omega))
        skip
        refine z_if_ne 44 dX12_bladeLine_39 rfl ⟨by omega, by omega⟩ (fun c43 => ?_) (fun c43 => ?_)
        · skip
          obtain ⟨K44, K44p, K44f, K44n, K44g⟩ := tkr_1 p38 (by omega)
          have K44t := tk_b (T := T) K44p.1.1 K44p.1.2
          have K44v := tv_b K44
          have K44b : nqB (ntF (¬ (0 ≤ tkV T L (tkE T L (tkE T L (tkE T L p))) ∧ tkV T L (tkE T L (tkE T L (tkE T L p))) ≤ 1)) 2 (ntF (¬ (0 ≤ tkV T L (tkE T L (tkE T L p)) ∧ tkV T L (tkE T L (tkE T L p)) ≤ 20)) 2 (ntF (¬ (0 ≤ tkV T L (tkE T L p) ∧ tkV T L (tkE T L p) ≤ 3)) 2 (ntF (¬ (1 ≤ tkV T L p ∧ tkV T L p ≤ 20)) 2 f)))) (ntQ (¬ (0 ≤ tkV T L (tkE T L (tkE T L (tkE T L p))) ∧ tkV T L (tkE T L (tkE T L (tkE T L p))) ≤ 1)) (tkS T L (tkE T L (tkE T L (tkE T L p)))) (ntF (¬ (0 ≤ tkV T L (tkE T L (tkE T L p)) ∧ tkV T L (tkE T L (tkE T L p)) ≤ 20)) 2 (ntF (¬ (0 ≤ tkV T L (tkE T L p) ∧ tkV T L (tkE T L p) ≤ 3)) 2 (ntF (¬ (1 ≤ tkV T L p ∧ tkV T L p ≤ 20)) 2 f))) (ntQ (¬ (0 ≤ tkV T L (tkE T L (tkE T L p)) ∧ tkV T L (tkE T L (tkE T L p)) ≤ 20)) (tkS T L (tkE T L (tkE T L p))) (ntF (¬ (0 ≤ tkV T L (tkE T L p) ∧ tkV T L (tkE T L p) ≤ 3)) 2 (ntF (¬ (1 ≤ tkV T L p ∧ tkV T L p ≤ 20)) 2 f)) (ntQ (¬ (0 ≤ tkV T L (tkE T L p) ∧ tkV T L (tkE T L p) ≤ 3)) (tkS T L (tkE T L p)) (ntF (¬ (1 ≤ tkV T L p ∧ tkV T L p ≤ 20)) 2 f) (ntQ (¬ (1 ≤ tkV T L p ∧ tkV T L p ≤ 20)) (tkS T L p) f q)))) (tkS T L (tkE T L (tkE T L (tkE T L (tkE T L p))))) := nqB_t K33b (by omega) (by omega) (by omega)
          have HCx := H41
          refine e_aload_n dX12_bladeLine_44 rfl ?_
          refine e_get (.ref (m + 9)) dX12_bladeLine_45 tf_12_35 (rk_s k39) (congrArg va_rf (rk_r9 k39)) ?_
          refine e_iload_n dX12_bladeLine_48 rfl ?_
          refine z_ild (C 0) dX12_bladeLine_49 (rk_a9 k39) (by decide) (by omega) (by omega) (H41 0 (by omega) (by omega)) ?_
          have y45 := rI_r (H41 0 (by omega) (by omega))
          refine e_istore_n (L' := [_, _, _, _]) dX12_bladeLine_50 (Nat.le_of_ble_eq_true rfl) rfl ?_
          refine e_iload_n dX12_bladeLine_51 rfl ?_
          refine z_bipush (6) dX12_bladeLine_52 rfl ?_
          refine z_icmp_ge 104 dX12_bladeLine_54 rfl ⟨by omega, by omega⟩ ⟨by omega, by omega⟩ (fun c46 => ?_) (fun c46 => ?_)
          · skip
            refine z_iconst (1) dX12_bladeLine_104 rfl ?_
            refine z_bret dX12_bladeLine_105 rfl (Or.inr rfl) ⟨rfl, ?_⟩
            exact kq 1 (Or.inr rfl) _ FR42 (Or.inl ⟨rfl, ⟨K11, K22, K33, K44, trivial⟩, K44p, K44f, by rw [ag_f (by omega)]; exact H41⟩)
          · skip
            refine z_iconst (0) dX12_bladeLine_57 rfl ?_
            refine e_istore_n (L' := [_, _, _, _]) dX12_bladeLine_58 (Nat.le_of_ble_eq_true rfl) rfl ?_
            refine e_iload_n dX12_bladeLine_59 rfl ?_
            refine z_iconst (4) dX12_bladeLine_60 rfl ?_
            refine z_icmp_ge 94 dX12_bladeLine_61 rfl ⟨by omega, by omega⟩ ⟨by omega, by omega⟩ (fun c47 => ?_) (fun c47 => ?_)
            · exfalso; omega
            · skip
              refine e_aload_n dX12_bladeLine_64 rfl ?_
              refine e_get (.ref (m + 9)) dX12_bladeLine_65 tf_12_35 (rk_s k39) (congrArg va_rf (rk_r9 k39)) ?_
              refine z_bipush (30) dX12_bladeLine_68 rfl ?_
              refine e_iload_n dX12_bladeLine_70 rfl ?_
              refine z_imul dX12_bladeLine_71 ?_
              refine z_iconst (3) dX12_bladeLine_72 rfl ?_
              refine z_iadd dX12_bladeLine_73 ?_
              refine z_bipush (6) dX12_bladeLine_74 rfl ?_
              refine e_iload_n dX12_bladeLine_76 rfl ?_
              refine z_imul dX12_bladeLine_77 ?_
              refine z_iadd dX12_bladeLine_78 ?_
              refine e_iload_n dX12_bladeLine_79 rfl ?_
              refine z_iadd dX12_bladeLine_80 ?_
              refine e_aload_n dX12_bladeLine_81 rfl ?_
              refine e_get (.ref (m + 10)) dX12_bladeLine_82 tf_12_38 (rk_s k39) (congrArg va_rf (rk_r10 k39)) ?_
              refine e_iload_n dX12_bladeLine_85 rfl ?_
              refine z_ild (tkV T L p) dX12_bladeLine_86 (rk_a10 k39) (by decide) (by omega) (by omega) ((((frm_r f37 (by omega)).trans ((frm_r f26 (by omega)).trans (frm_r f15 (by omega))))).trans K11n) ?_
              refine z_ist dX12_bladeLine_87 (rk_a9 k39) (by decide) (by omega) (by omega) (fun h48 e49 => ?_)
              have f50 := frm_1 e49
              have k51 := rk_q (frm_s f50) k39
              have H52 := rfT_c f50 (fun a k q => by omega) H40
              have H53 := rfP_c f50 (fun a k q => by omega) K44p
              have H54 := rfF_c f50 (fun a k q => by omega) K44f
              have FR55 := frm_t FR42 (frm_m (S' := (fun a j => (a = m ∧ (j = 9 ∨ (11 ≤ j ∧ j ≤ 17) ∨ j = 22)) ∨ a = m + 9 ∨ a = m + 10)) f50 (fun a k q => by omega))
              refine z_iinc (L' := [_, _, _, _]) dX12_bladeLine_88 rfl rfl ?_
              refine e_goto 59 dX12_bladeLine_91 rfl ?_
              refine e_iload_n dX12_bladeLine_59 rfl ?_
              refine z_iconst (4) dX12_bladeLine_60 rfl ?_
              refine z_icmp_ge 94 dX12_bladeLine_61 rfl ⟨by omega, by omega⟩ ⟨by omega, by omega⟩ (fun c56 => ?_) (fun c56 => ?_)
              · exfalso; omega
              · skip
                refine e_aload_n dX12_bladeLine_64 rfl ?_
                refine e_get (.ref (m + 9)) dX12_bladeLine_65 tf_12_35 (rk_s k51) (congrArg va_rf (rk_r9 k51)) ?_
                refine z_bipush (30) dX12_bladeLine_68 rfl ?_
                refine e_iload_n dX12_bladeLine_70 rfl ?_
                refine z_imul dX12_bladeLine_71 ?_
                refine z_iconst (3) dX12_bladeLine_72 rfl ?_
                refine z_iadd dX12_bladeLine_73 ?_
                refine z_bipush (6) dX12_bladeLine_74 rfl ?_
                refine e_iload_n dX12_bladeLine_76 rfl ?_
                refine z_imul dX12_bladeLine_77 ?_
                refine z_iadd dX12_bladeLine_78 ?_
                refine e_iload_n dX12_bladeLine_79 rfl ?_
                refine z_iadd dX12_bladeLine_80 ?_
                refine e_aload_n dX12_bladeLine_81 rfl ?_
                refine e_get (.ref (m + 10)) dX12_bladeLine_82 tf_12_38 (rk_s k51) (congrArg va_rf (rk_r10 k51)) ?_
                refine e_iload_n dX12_bladeLine_85 rfl ?_
                refine z_ild (tkV T L (tkE T L p)) dX12_bladeLine_86 (rk_a10 k51) (by decide) (by omega) (by omega) ((((frm_r f50 (by omega)).trans ((frm_r f37 (by omega)).trans (frm_r f26 (by omega))))).trans K22n) ?_
                refine z_ist dX12_bladeLine_87 (rk_a9 k51) (by decide) (by omega) (by omega) (fun h57 e58 => ?_)
                have f59 := frm_1 e58
                have k60 := rk_q (frm_s f59) k51
                have H61 := rfT_c f59 (fun a k q => by omega) H52
                have H62 := rfP_c f59 (fun a k q => by omega) H53
                have H63 := rfF_c f59 (fun a k q => by omega) H54
                have FR64 := frm_t FR55 (frm_m (S' := (fun a j => (a = m ∧ (j = 9 ∨ (11 ≤ j ∧ j ≤ 17) ∨ j = 22)) ∨ a = m + 9 ∨ a = m + 10)) f59 (fun a k q => by omega))
                refine z_iinc (L' := [_, _, _, _]) dX12_bladeLine_88 rfl rfl ?_
                refine e_goto 59 dX12_bladeLine_91 rfl ?_
                refine e_iload_n dX12_bladeLine_59 rfl ?_
                refine z_iconst (4) dX12_bladeLine_60 rfl ?_
                refine z_icmp_ge 94 dX12_bladeLine_61 rfl ⟨by omega, by omega⟩ ⟨by omega, by omega⟩ (fun c65 => ?_) (fun c65 => ?_)
                · exfalso; omega
                · skip
                  refine e_aload_n dX12_bladeLine_64 rfl ?_
                  refine e_get (.ref (m + 9)) dX12_bladeLine_65 tf_12_35 (rk_s k60) (congrArg va_rf (rk_r9 k60)) ?_
                  refine z_bipush (30) dX12_bladeLine_68 rfl ?_
                  refine e_iload_n dX12_bladeLine_70 rfl ?_
                  refine z_imul dX12_bladeLine_71 ?_
                  refine z_iconst (3) dX12_bladeLine_72 rfl ?_
                  refine z_iadd dX12_bladeLine_73 ?_
                  refine z_bipush (6) dX12_bladeLine_74 rfl ?_
                  refine e_iload_n dX12_bladeLine_76 rfl ?_
                  refine z_imul dX12_bladeLine_77 ?_
                  refine z_iadd dX12_bladeLine_78 ?_
                  refine e_iload_n dX12_bladeLine_79 rfl ?_
                  refine z_iadd dX12_bladeLine_80 ?_
                  refine e_aload_n dX12_bladeLine_81 rfl ?_
                  refine e_get (.ref (m + 10)) dX12_bladeLine_82 tf_12_38 (rk_s k60) (congrArg va_rf (rk_r10 k60)) ?_
                  refine e_iload_n dX12_bladeLine_85 rfl ?_
                  refine z_ild (tkV T L (tkE T L (tkE T L p))) dX12_bladeLine_86 (rk_a10 k60) (by decide) (by omega) (by omega) ((((frm_r f59 (by omega)).trans ((frm_r f50 (by omega)).trans (frm_r f37 (by omega))))).trans K33n) ?_
                  refine z_ist dX12_bladeLine_87 (rk_a9 k60) (by decide) (by omega) (by omega) (fun h66 e67 => ?_)
                  have f68 := frm_1 e67
                  have k69 := rk_q (frm_s f68) k60
                  have H70 := rfT_c f68 (fun a k q => by omega) H61
                  have H71 := rfP_c f68 (fun a k q => by omega) H62
                  have H72 := rfF_c f68 (fun a k q => by omega) H63
                  have FR73 := frm_t FR64 (frm_m (S' := (fun a j => (a = m ∧ (j = 9 ∨ (11 ≤ j ∧ j ≤ 17) ∨ j = 22)) ∨ a = m + 9 ∨ a = m + 10)) f68 (fun a k q => by omega))
                  refine z_iinc (L' := [_, _, _, _]) dX12_bladeLine_88 rfl rfl ?_
                  refine e_goto 59 dX12_bladeLine_91 rfl ?_
                  refine e_iload_n dX12_bladeLine_59 rfl ?_
                  refine z_iconst (4) dX12_bladeLine_60 rfl ?_
                  refine z_icmp_ge 94 dX12_bladeLine_61 rfl ⟨by omega, by omega⟩ ⟨by omega, by omega⟩ (fun c74 => ?_) (fun c74 => ?_)
                  · exfalso; omega
                  · skip
                    refine e_aload_n dX12_bladeLine_64 rfl ?_
                    refine e_get (.ref (m + 9)) dX12_bladeLine_65 tf_12_35 (rk_s k69) (congrArg va_rf (rk_r9 k69)) ?_
                    refine z_bipush (30) dX12_bladeLine_68 rfl ?_
                    refine e_iload_n dX12_bladeLine_70 rfl ?_
                    refine z_imul dX12_bladeLine_71 ?_
                    refine z_iconst (3) dX12_bladeLine_72 rfl ?_
                    refine z_iadd dX12_bladeLine_73 ?_
                    refine z_bipush (6) dX12_bladeLine_74 rfl ?_
                    refine e_iload_n dX12_bladeLine_76 rfl ?_
                    refine z_imul dX12_bladeLine_77 ?_
                    refine z_iadd dX12_bladeLine_78 ?_
                    refine e_iload_n dX12_bladeLine_79 rfl ?_
                    refine z_iadd dX12_bladeLine_80 ?_
                    refine e_aload_n dX12_bladeLine_81 rfl ?_
                    refine e_get (.ref (m + 10)) dX12_bladeLine_82 tf_12_38 (rk_s k69) (congrArg va_rf (rk_r10 k69)) ?_
                    refine e_iload_n dX12_bladeLine_85 rfl ?_
                    refine z_ild (tkV T L (tkE T L (tkE T L (tkE T L p)))) dX12_bladeLine_86 (rk_a10 k69) (by decide) (by omega) (by omega) ((((frm_r f68 (by omega)).trans ((frm_r f59 (by omega)).trans (frm_r f50 (by omega))))).trans K44n) ?_
                    refine z_ist dX12_bladeLine_87 (rk_a9 k69) (by decide) (by omega) (by omega) (fun h75 e76 => ?_)
                    have f77 := frm_1 e76
                    have k78 := rk_q (frm_s f77) k69
                    have H79 := rfT_c f77 (fun a k q => by omega) H70
                    have H80 := rfP_c f77 (fun a k q => by omega) H71
                    have H81 := rfF_c f77 (fun a k q => by omega) H72
                    have FR82 := frm_t FR73 (frm_m (S' := (fun a j => (a = m ∧ (j = 9 ∨ (11 ≤ j ∧ j ≤ 17) ∨ j = 22)) ∨ a = m + 9 ∨ a = m + 10)) f77 (fun a k q => by omega))
                    refine z_iinc (L' := [_, _, _, _]) dX12_bladeLine_88 rfl rfl ?_
                    refine e_goto 59 dX12_bladeLine_91 rfl ?_
                    refine e_iload_n dX12_bladeLine_59 rfl ?_
                    refine z_iconst (4) dX12_bladeLine_60 rfl ?_
                    refine z_icmp_ge 94 dX12_bladeLine_61 rfl ⟨by omega, by omega⟩ ⟨by omega, by omega⟩ (fun c83 => ?_) (fun c83 => ?_)
                    · skip
                      refine e_aload_n dX12_bladeLine_94 rfl ?_
                      refine e_get (.ref (m + 9)) dX12_bladeLine_95 tf_12_35 (rk_s k78) (congrArg va_rf (rk_r9 k78)) ?_
                      refine e_iload_n dX12_bladeLine_98 rfl ?_
                      refine e_dup2 dX12_bladeLine_99 rfl rfl ?_
                      refine z_ild (C 0) dX12_bladeLine_100 (rk_a9 k78) (by decide) (by omega) (by omega) ((((frm_r f77 (by omega)).trans ((frm_r f68 (by omega)).trans ((frm_r f59 (by omega)).trans (frm_r f50 (by omega)))))).trans (HCx 0 (by omega) (by omega))) ?_
                      refine z_iconst (1) dX12_bladeLine_101 rfl ?_
                      refine z_iadd dX12_bladeLine_102 ?_
                      refine z_ist dX12_bladeLine_103 (rk_a9 k78) (by decide) (by omega) (by omega) (fun h84 e85 => ?_)
                      have f86 := frm_1 e85
                      have k87 := rk_q (frm_s f86) k78
                      have H88 := rfT_c f86 (fun a k q => by omega) H79
                      have H89 := rfP_c f86 (fun a k q => by omega) H80
                      have H90 := rfF_c f86 (fun a k q => by omega) H81
                      have FR91 := frm_t FR82 (frm_m (S' := (fun a j => (a = m ∧ (j = 9 ∨ (11 ≤ j ∧ j ≤ 17) ∨ j = 22)) ∨ a = m + 9 ∨ a = m + 10)) f86 (fun a k q => by omega))
                      refine z_iconst (1) dX12_bladeLine_104 rfl ?_
                      refine z_bret dX12_bladeLine_105 rfl (Or.inr rfl) ⟨rfl, ?_⟩
                      exact kq 1 (Or.inr rfl) _ FR91 (Or.inl ⟨rfl, ⟨K11, K22, K33, K44, trivial⟩, H89, H90, by
                        intro k a z
                        unfold adG
                        rw [if_pos (by omega)]
                        by_cases z0 : k = 0
                        · rw [if_pos z0]; exact (rI_eqz (by omega) e85 ⟨by omega, by omega⟩)
                        rw [if_neg z0]
                        by_cases z1 : k = 30 * 0 + 3 + C 0
                        · rw [if_pos z1]; exact (((frm_r f86 (by omega)).trans ((frm_r f77 (by omega)).trans ((frm_r f68 (by omega)).trans (frm_r f59 (by omega))))).trans (rI_eqz (by omega) e49 ⟨by omega, by omega⟩))
                        rw [if_neg z1]
                        by_cases z2 : k = 30 * 0 + 9 + C 0
                        · rw [if_pos z2]; exact (((frm_r f86 (by omega)).trans ((frm_r f77 (by omega)).trans (frm_r f68 (by omega)))).trans (rI_eqz (by omega) e58 ⟨by omega, by omega⟩))
                        rw [if_neg z2]
                        by_cases z3 : k = 30 * 0 + 15 + C 0
                        · rw [if_pos z3]; exact (((frm_r f86 (by omega)).trans (frm_r f77 (by omega))).trans (rI_eqz (by omega) e67 ⟨by omega, by omega⟩))
                        rw [if_neg z3]
                        by_cases z4 : k = 30 * 0 + 21 + C 0
                        · rw [if_pos z4]; exact ((frm_r f86 (by omega)).trans (rI_eqz (by omega) e76 ⟨by omega, by omega⟩))
                        rw [if_neg z4]
                        exact (((frm_r f86 (by omega)).trans ((frm_r f77 (by omega)).trans ((frm_r f68 (by omega)).trans ((frm_r f59 (by omega)).trans (frm_r f50 (by omega))))))).trans (H41 k a z)⟩)
                    · exfalso; omega
        · skip
          obtain ⟨k0, f0⟩ := tkr_0 p38 (by omega)
          refine z_iconst (0) dX12_bladeLine_42 rfl ?_
          refine z_bret dX12_bladeLine_43 rfl (Or.inl rfl) ⟨rfl, ?_⟩
          exact kq 0 (Or.inl rfl) _ FR42 (Or.inr ⟨rfl, fun z => k0 z.2.2.2.1, by rw [xp_y K11, xp_y K22, xp_y K33, xp_n k0]; exact f0⟩)
set_option maxHeartbeats 4000000 in
theorem zp_X12_bladeLine_1 {ad : mA} {dd : Nat} {h : mH} {Q : mQ} {m : Nat} {T C : Int → Int} {L p f q : Int} (hk : rk h m) (HT : rfT h m T L) (HP : rfP h m T L p) (HF : rfF h m f q) (HC : rfC h m C)   (pn : nqB f q (tkS T L p)) (pc : 0 ≤ C 1 ∧ C 1 ≤ 6) (kq : ∀ v : Int, (v = 0 ∨ v = 1) → ∀ h1, frm (fun a j => (a = m ∧ (j = 9 ∨ (11 ≤ j ∧ j ≤ 17) ∨ j = 22)) ∨ a = m + 9 ∨ a = m + 10) h h1 → (rlO h1 m T L [(1, 20), (0, 3), (0, 20), (0, 1)] p f q v (rfC h1 m (adG C 1 (tkV T L p) (tkV T L (tkE T L p)) (tkV T L (tkE T L (tkE T L p))) (tkV T L (tkE T L (tkE T L (tkE T L p))))))) → Q (some (.int (zI v))) h1) : mCal TB0 ad (dd + 4) M_X12_bladeLine [.ref m, .int (zI 1)] h 0 0 Q := by
  refine ⟨Nat.le_of_ble_eq_true rfl, ?_⟩
  show mEv TB0 ad M_X12_bladeLine (dd + 4) (0, 0) (mCal TB0 ad (dd + 3)) (fun v h' z => z.1 = 0 ∧ Q v h') 0 [some (.ref m), some (.int (zI 1)), none, none] [] h (0, 0)
  have FR0 : frm (fun a j => (a = m ∧ (j = 9 ∨ (11 ≤ j ∧ j ≤ 17) ∨ j = 22)) ∨ a = m + 9 ∨ a = m + 10) h h := frm_0 h
  have w1 := HT.1
  have p0 := HP.1
  have tb := tk_b (T := T) HP.1.1 HP.1.2
  skip
  refine e_aload_n dX12_bladeLine_0 rfl ?_
  refine z_iconst (0) dX12_bladeLine_1 rfl ?_
  refine z_iconst (1) dX12_bladeLine_2 rfl ?_
  refine z_bipush (20) dX12_bladeLine_3 rfl ?_
  have PN5 := pn
  refine e_callV [.int _, .int _, .int _] dX12_bladeLine_5 tm_12_170 rfl (Nat.le_of_ble_eq_true rfl) (rk_s hk) (Nat.le_of_ble_eq_true rfl) (Nat.le_refl _) (Nat.le_refl _) rfl (zp_X12_take hk HT HP HF 0 ⟨by omega, by omega⟩ 1 ⟨by omega, by omega⟩ 20 ⟨by omega, by omega⟩ PN5 (by omega) (fun v1 p2 h3 f4 p5 => ?_))
  have k6 := rk_q (frm_s f4) hk
  have H7 := rfT_c f4 (fun a k q => by omega) HT
  have H8 := rfC_c f4 (fun a k q => by omega) HC
  have FR9 := frm_t FR0 (frm_m (S' := (fun a j => (a = m ∧ (j = 9 ∨ (11 ≤ j ∧ j ≤ 17) ∨ j = 22)) ∨ a = m + 9 ∨ a = m + 10)) f4 (fun a k q => by omega))
  skip
  refine z_if_eq 42 dX12_bladeLine_8 rfl ⟨by omega, by omega⟩ (fun c10 => ?_) (fun c10 => ?_)
  · skip
    obtain ⟨k0, f0⟩ := tkr_0 p5 (by omega)
    refine z_iconst (0) dX12_bladeLine_42 rfl ?_
    refine z_bret dX12_bladeLine_43 rfl (Or.inl rfl) ⟨rfl, ?_⟩
    exact kq 0 (Or.inl rfl) _ FR9 (Or.inr ⟨rfl, fun z => k0 z.1, by rw [xp_n k0]; exact f0⟩)
  · skip
    obtain ⟨K11, K11p, K11f, K11n, K11g⟩ := tkr_1 p5 (by omega)
    have K11t := tk_b (T := T) K11p.1.1 K11p.1.2
    have K11v := tv_b K11
    have K11b : nqB (ntF (¬ (1 ≤ tkV T L p ∧ tkV T L p ≤ 20)) 2 f) (ntQ (¬ (1 ≤ tkV T L p ∧ tkV T L p ≤ 20)) (tkS T L p) f q) (tkS T L (tkE T L p)) := nqB_t pn (by omega) (by omega) (by omega)
    refine e_aload_n dX12_bladeLine_11 rfl ?_
    refine z_iconst (1) dX12_bladeLine_12 rfl ?_
    refine z_iconst (0) dX12_bladeLine_13 rfl ?_
    refine z_iconst (3) dX12_bladeLine_14 rfl ?_
    have PN15 := K11b
    refine e_callV [.int _, .int _, .int _] dX12_bladeLine_15 tm_12_170 rfl (Nat.le_of_ble_eq_true rfl) (rk_s k6) (Nat.le_of_ble_eq_true rfl) (Nat.le_refl _) (Nat.le_refl _) rfl (zp_X12_take k6 H7 K11p K11f 1 ⟨by omega, by omega⟩ 0 ⟨by omega, by omega⟩ 3 ⟨by omega, by omega⟩ PN15 (by omega) (fun v12 p13 h14 f15 p16 => ?_))
    have k17 := rk_q (frm_s f15) k6
    have H18 := rfT_c f15 (fun a k q => by omega) H7
    have H19 := rfC_c f15 (fun a k q => by omega) H8
    have FR20 := frm_t FR9 (frm_m (S' := (fun a j => (a = m ∧ (j = 9 ∨ (11 ≤ j ∧ j ≤ 17) ∨ j = 22)) ∨ a = m + 9 ∨ a = m + 10)) f15 (fun a k q => by omega))
    skip
    refine z_if_eq 42 dX12_bladeLine_18 rfl ⟨by omega, by omega⟩ (fun c21 => ?_) (fun c21 => ?_)
    · skip
      obtain ⟨k0, f0⟩ := tkr_0 p16 (by omega)
      refine z_iconst (0) dX12_bladeLine_42 rfl ?_
      refine z_bret dX12_bladeLine_43 rfl (Or.inl rfl) ⟨rfl, ?_⟩
      exact kq 0 (Or.inl rfl) _ FR20 (Or.inr ⟨rfl, fun z => k0 z.2.1, by rw [xp_y K11, xp_n k0]; exact f0⟩)
    · skip
      obtain ⟨K22, K22p, K22f, K22n, K22g⟩ := tkr_1 p16 (by omega)
      have K22t := tk_b (T := T) K22p.1.1 K22p.1.2
      have K22v := tv_b K22
      have K22b : nqB (ntF (¬ (0 ≤ tkV T L (tkE T L p) ∧ tkV T L (tkE T L p) ≤ 3)) 2 (ntF (¬ (1 ≤ tkV T L p ∧ tkV T L p ≤ 20)) 2 f)) (ntQ (¬ (0 ≤ tkV T L (tkE T L p) ∧ tkV T L (tkE T L p) ≤ 3)) (tkS T L (tkE T L p)) (ntF (¬ (1 ≤ tkV T L p ∧ tkV T L p ≤ 20)) 2 f) (ntQ (¬ (1 ≤ tkV T L p ∧ tkV T L p ≤ 20)) (tkS T L p) f q)) (tkS T L (tkE T L (tkE T L p))) := nqB_t K11b (by omega) (by omega) (by omega)
      refine e_aload_n dX12_bladeLine_21 rfl ?_
      refine z_iconst (2) dX12_bladeLine_22 rfl ?_
      refine z_iconst (0) dX12_bladeLine_23 rfl ?_
      refine z_bipush (20) dX12_bladeLine_24 rfl ?_
      have PN26 := K22b
      refine e_callV [.int _, .int _, .int _] dX12_bladeLine_26 tm_12_170 rfl (Nat.le_of_ble_eq_true rfl) (rk_s k17) (Nat.le_of_ble_eq_true rfl) (Nat.le_refl _) (Nat.le_refl _) rfl (zp_X12_take k17 H18 K22p K22f 2 ⟨by omega, by omega⟩ 0 ⟨by omega, by omega⟩ 20 ⟨by omega, by omega⟩ PN26 (by omega) (fun v23 p24 h25 f26 p27 => ?_))
      have k28 := rk_q (frm_s f26) k17
      have H29 := rfT_c f26 (fun a k q => by omega) H18
      have H30 := rfC_c f26 (fun a k q => by omega) H19
      have FR31 := frm_t FR20 (frm_m (S' := (fun a j => (a = m ∧ (j = 9 ∨ (11 ≤ j ∧ j ≤ 17) ∨ j = 22)) ∨ a = m + 9 ∨ a = m + 10)) f26 (fun a k q => by omega))
      skip
      refine z_if_eq 42 dX12_bladeLine_29 rfl ⟨by omega, by omega⟩ (fun c32 => ?_) (fun c32 => ?_)
      · skip
        obtain ⟨k0, f0⟩ := tkr_0 p27 (by omega)
        refine z_iconst (0) dX12_bladeLine_42 rfl ?_
        refine z_bret dX12_bladeLine_43 rfl (Or.inl rfl) ⟨rfl, ?_⟩
        exact kq 0 (Or.inl rfl) _ FR31 (Or.inr ⟨rfl, fun z => k0 z.2.2.1, by rw [xp_y K11, xp_y K22, xp_n k0]; exact f0⟩)
      · skip
        obtain ⟨K33, K33p, K33f, K33n, K33g⟩ := tkr_1 p27 (by omega)
        have K33t := tk_b (T := T) K33p.1.1 K33p.1.2
        have K33v := tv_b K33
        have K33b : nqB (ntF (¬ (0 ≤ tkV T L (tkE T L (tkE T L p)) ∧ tkV T L (tkE T L (tkE T L p)) ≤ 20)) 2 (ntF (¬ (0 ≤ tkV T L (tkE T L p) ∧ tkV T L (tkE T L p) ≤ 3)) 2 (ntF (¬ (1 ≤ tkV T L p ∧ tkV T L p ≤ 20)) 2 f))) (ntQ (¬ (0 ≤ tkV T L (tkE T L (tkE T L p)) ∧ tkV T L (tkE T L (tkE T L p)) ≤ 20)) (tkS T L (tkE T L (tkE T L p))) (ntF (¬ (0 ≤ tkV T L (tkE T L p) ∧ tkV T L (tkE T L p) ≤ 3)) 2 (ntF (¬ (1 ≤ tkV T L p ∧ tkV T L p ≤ 20)) 2 f)) (ntQ (¬ (0 ≤ tkV T L (tkE T L p) ∧ tkV T L (tkE T L p) ≤ 3)) (tkS T L (tkE T L p)) (ntF (¬ (1 ≤ tkV T L p ∧ tkV T L p ≤ 20)) 2 f) (ntQ (¬ (1 ≤ tkV T L p ∧ tkV T L p ≤ 20)) (tkS T L p) f q))) (tkS T L (tkE T L (tkE T L (tkE T L p)))) := nqB_t K22b (by omega) (by omega) (by omega)
        refine e_aload_n dX12_bladeLine_32 rfl ?_
        refine z_iconst (3) dX12_bladeLine_33 rfl ?_
        refine z_iconst (0) dX12_bladeLine_34 rfl ?_
        refine z_iconst (1) dX12_bladeLine_35 rfl ?_
        have PN36 := K33b
        refine e_callV [.int _, .int _, .int _] dX12_bladeLine_36 tm_12_170 rfl (Nat.le_of_ble_eq_true rfl) (rk_s k28) (Nat.le_of_ble_eq_true rfl) (Nat.le_refl _) (Nat.le_refl _) rfl (zp_X12_take k28 H29 K33p K33f 3 ⟨by omega, by omega⟩ 0 ⟨by omega, by omega⟩ 1 ⟨by omega, by omega⟩ PN36 (by omega) (fun v34 p35 h36 f37 p38 => ?_))
        have k39 := rk_q (frm_s f37) k28
        have H40 := rfT_c f37 (fun a k q => by omega) H29
        have H41 := rfC_c f37 (fun a k q => by omega) H30
        have FR42 := frm_t FR31 (frm_m (S' := (fun a j => (a = m ∧ (j = 9 ∨ (11 ≤ j ∧ j ≤ 17) ∨ j = 22)) ∨ a = m + 9 ∨ a = m + 10)) f37 (fun a k q => by omega))
        skip
        refine z_if_ne 44 dX12_bladeLine_39 rfl ⟨by omega, by omega⟩ (fun c43 => ?_) (fun c43 => ?_)
        · skip
          obtain ⟨K44, K44p, K44f, K44n, K44g⟩ := tkr_1 p38 (by omega)
          have K44t := tk_b (T := T) K44p.1.1 K44p.1.2
          have K44v := tv_b K44
          have K44b : nqB (ntF (¬ (0 ≤ tkV T L (tkE T L (tkE T L (tkE T L p))) ∧ tkV T L (tkE T L (tkE T L (tkE T L p))) ≤ 1)) 2 (ntF (¬ (0 ≤ tkV T L (tkE T L (tkE T L p)) ∧ tkV T L (tkE T L (tkE T L p)) ≤ 20)) 2 (ntF (¬ (0 ≤ tkV T L (tkE T L p) ∧ tkV T L (tkE T L p) ≤ 3)) 2 (ntF (¬ (1 ≤ tkV T L p ∧ tkV T L p ≤ 20)) 2 f)))) (ntQ (¬ (0 ≤ tkV T L (tkE T L (tkE T L (tkE T L p))) ∧ tkV T L (tkE T L (tkE T L (tkE T L p))) ≤ 1)) (tkS T L (tkE T L (tkE T L (tkE T L p)))) (ntF (¬ (0 ≤ tkV T L (tkE T L (tkE T L p)) ∧ tkV T L (tkE T L (tkE T L p)) ≤ 20)) 2 (ntF (¬ (0 ≤ tkV T L (tkE T L p) ∧ tkV T L (tkE T L p) ≤ 3)) 2 (ntF (¬ (1 ≤ tkV T L p ∧ tkV T L p ≤ 20)) 2 f))) (ntQ (¬ (0 ≤ tkV T L (tkE T L (tkE T L p)) ∧ tkV T L (tkE T L (tkE T L p)) ≤ 20)) (tkS T L (tkE T L (tkE T L p))) (ntF (¬ (0 ≤ tkV T L (tkE T L p) ∧ tkV T L (tkE T L p) ≤ 3)) 2 (ntF (¬ (1 ≤ tkV T L p ∧ tkV T L p ≤ 20)) 2 f)) (ntQ (¬ (0 ≤ tkV T L (tkE T L p) ∧ tkV T L (tkE T L p) ≤ 3)) (tkS T L (tkE T L p)) (ntF (¬ (1 ≤ tkV T L p ∧ tkV T L p ≤ 20)) 2 f) (ntQ (¬ (1 ≤ tkV T L p ∧ tkV T L p ≤ 20)) (tkS T L p) f q)))) (tkS T L (tkE T L (tkE T L (tkE T L (tkE T L p))))) := nqB_t K33b (by omega) (by omega) (by omega)
          have HCx := H41
          refine e_aload_n dX12_bladeLine_44 rfl ?_
          refine e_get (.ref (m + 9)) dX12_bladeLine_45 tf_12_35 (rk_s k39) (congrArg va_rf (rk_r9 k39)) ?_
          refine e_iload_n dX12_bladeLine_48 rfl ?_
          refine z_ild (C 1) dX12_bladeLine_49 (rk_a9 k39) (by decide) (by omega) (by omega) (H41 1 (by omega) (by omega)) ?_
          have y45 := rI_r (H41 1 (by omega) (by omega))
          refine e_istore_n (L' := [_, _, _, _]) dX12_bladeLine_50 (Nat.le_of_ble_eq_true rfl) rfl ?_
          refine e_iload_n dX12_bladeLine_51 rfl ?_
          refine z_bipush (6) dX12_bladeLine_52 rfl ?_
          refine z_icmp_ge 104 dX12_bladeLine_54 rfl ⟨by omega, by omega⟩ ⟨by omega, by omega⟩ (fun c46 => ?_) (fun c46 => ?_)
          · skip
            refine z_iconst (1) dX12_bladeLine_104 rfl ?_
            refine z_bret dX12_bladeLine_105 rfl (Or.inr rfl) ⟨rfl, ?_⟩
            exact kq 1 (Or.inr rfl) _ FR42 (Or.inl ⟨rfl, ⟨K11, K22, K33, K44, trivial⟩, K44p, K44f, by rw [ag_f (by omega)]; exact H41⟩)
          · skip
            refine z_iconst (0) dX12_bladeLine_57 rfl ?_
            refine e_istore_n (L' := [_, _, _, _]) dX12_bladeLine_58 (Nat.le_of_ble_eq_true rfl) rfl ?_
            refine e_iload_n dX12_bladeLine_59 rfl ?_
            refine z_iconst (4) dX12_bladeLine_60 rfl ?_
            refine z_icmp_ge 94 dX12_bladeLine_61 rfl ⟨by omega, by omega⟩ ⟨by omega, by omega⟩ (fun c47 => ?_) (fun c47 => ?_)
            · exfalso; omega
            · skip
              refine e_aload_n dX12_bladeLine_64 rfl ?_
              refine e_get (.ref (m + 9)) dX12_bladeLine_65 tf_12_35 (rk_s k39) (congrArg va_rf (rk_r9 k39)) ?_
              refine z_bipush (30) dX12_bladeLine_68 rfl ?_
              refine e_iload_n dX12_bladeLine_70 rfl ?_
              refine z_imul dX12_bladeLine_71 ?_
              refine z_iconst (3) dX12_bladeLine_72 rfl ?_
              refine z_iadd dX12_bladeLine_73 ?_
              refine z_bipush (6) dX12_bladeLine_74 rfl ?_
              refine e_iload_n dX12_bladeLine_76 rfl ?_
              refine z_imul dX12_bladeLine_77 ?_
              refine z_iadd dX12_bladeLine_78 ?_
              refine e_iload_n dX12_bladeLine_79 rfl ?_
              refine z_iadd dX12_bladeLine_80 ?_
              refine e_aload_n dX12_bladeLine_81 rfl ?_
              refine e_get (.ref (m + 10)) dX12_bladeLine_82 tf_12_38 (rk_s k39) (congrArg va_rf (rk_r10 k39)) ?_
              refine e_iload_n dX12_bladeLine_85 rfl ?_
              refine z_ild (tkV T L p) dX12_bladeLine_86 (rk_a10 k39) (by decide) (by omega) (by omega) ((((frm_r f37 (by omega)).trans ((frm_r f26 (by omega)).trans (frm_r f15 (by omega))))).trans K11n) ?_
              refine z_ist dX12_bladeLine_87 (rk_a9 k39) (by decide) (by omega) (by omega) (fun h48 e49 => ?_)
              have f50 := frm_1 e49
              have k51 := rk_q (frm_s f50) k39
              have H52 := rfT_c f50 (fun a k q => by omega) H40
              have H53 := rfP_c f50 (fun a k q => by omega) K44p
              have H54 := rfF_c f50 (fun a k q => by omega) K44f
              have FR55 := frm_t FR42 (frm_m (S' := (fun a j => (a = m ∧ (j = 9 ∨ (11 ≤ j ∧ j ≤ 17) ∨ j = 22)) ∨ a = m + 9 ∨ a = m + 10)) f50 (fun a k q => by omega))
              refine z_iinc (L' := [_, _, _, _]) dX12_bladeLine_88 rfl rfl ?_
              refine e_goto 59 dX12_bladeLine_91 rfl ?_
              refine e_iload_n dX12_bladeLine_59 rfl ?_
              refine z_iconst (4) dX12_bladeLine_60 rfl ?_
              refine z_icmp_ge 94 dX12_bladeLine_61 rfl ⟨by omega, by omega⟩ ⟨by omega, by omega⟩ (fun c56 => ?_) (fun c56 => ?_)
              · exfalso; omega
              · skip
                refine e_aload_n dX12_bladeLine_64 rfl ?_
                refine e_get (.ref (m + 9)) dX12_bladeLine_65 tf_12_35 (rk_s k51) (congrArg va_rf (rk_r9 k51)) ?_
                refine z_bipush (30) dX12_bladeLine_68 rfl ?_
                refine e_iload_n dX12_bladeLine_70 rfl ?_
                refine z_imul dX12_bladeLine_71 ?_
                refine z_iconst (3) dX12_bladeLine_72 rfl ?_
                refine z_iadd dX12_bladeLine_73 ?_
                refine z_bipush (6) dX12_bladeLine_74 rfl ?_
                refine e_iload_n dX12_bladeLine_76 rfl ?_
                refine z_imul dX12_bladeLine_77 ?_
                refine z_iadd dX12_bladeLine_78 ?_
                refine e_iload_n dX12_bladeLine_79 rfl ?_
                refine z_iadd dX12_bladeLine_80 ?_
                refine e_aload_n dX12_bladeLine_81 rfl ?_
                refine e_get (.ref (m + 10)) dX12_bladeLine_82 tf_12_38 (rk_s k51) (congrArg va_rf (rk_r10 k51)) ?_
                refine e_iload_n dX12_bladeLine_85 rfl ?_
                refine z_ild (tkV T L (tkE T L p)) dX12_bladeLine_86 (rk_a10 k51) (by decide) (by omega) (by omega) ((((frm_r f50 (by omega)).trans ((frm_r f37 (by omega)).trans (frm_r f26 (by omega))))).trans K22n) ?_
                refine z_ist dX12_bladeLine_87 (rk_a9 k51) (by decide) (by omega) (by omega) (fun h57 e58 => ?_)
                have f59 := frm_1 e58
                have k60 := rk_q (frm_s f59) k51
                have H61 := rfT_c f59 (fun a k q => by omega) H52
                have H62 := rfP_c f59 (fun a k q => by omega) H53
                have H63 := rfF_c f59 (fun a k q => by omega) H54
                have FR64 := frm_t FR55 (frm_m (S' := (fun a j => (a = m ∧ (j = 9 ∨ (11 ≤ j ∧ j ≤ 17) ∨ j = 22)) ∨ a = m + 9 ∨ a = m + 10)) f59 (fun a k q => by omega))
                refine z_iinc (L' := [_, _, _, _]) dX12_bladeLine_88 rfl rfl ?_
                refine e_goto 59 dX12_bladeLine_91 rfl ?_
                refine e_iload_n dX12_bladeLine_59 rfl ?_
                refine z_iconst (4) dX12_bladeLine_60 rfl ?_
                refine z_icmp_ge 94 dX12_bladeLine_61 rfl ⟨by omega, by omega⟩ ⟨by omega, by omega⟩ (fun c65 => ?_) (fun c65 => ?_)
                · exfalso; omega
                · skip
                  refine e_aload_n dX12_bladeLine_64 rfl ?_
                  refine e_get (.ref (m + 9)) dX12_bladeLine_65 tf_12_35 (rk_s k60) (congrArg va_rf (rk_r9 k60)) ?_
                  refine z_bipush (30) dX12_bladeLine_68 rfl ?_
                  refine e_iload_n dX12_bladeLine_70 rfl ?_
                  refine z_imul dX12_bladeLine_71 ?_
                  refine z_iconst (3) dX12_bladeLine_72 rfl ?_
                  refine z_iadd dX12_bladeLine_73 ?_
                  refine z_bipush (6) dX12_bladeLine_74 rfl ?_
                  refine e_iload_n dX12_bladeLine_76 rfl ?_
                  refine z_imul dX12_bladeLine_77 ?_
                  refine z_iadd dX12_bladeLine_78 ?_
                  refine e_iload_n dX12_bladeLine_79 rfl ?_
                  refine z_iadd dX12_bladeLine_80 ?_
                  refine e_aload_n dX12_bladeLine_81 rfl ?_
                  refine e_get (.ref (m + 10)) dX12_bladeLine_82 tf_12_38 (rk_s k60) (congrArg va_rf (rk_r10 k60)) ?_
                  refine e_iload_n dX12_bladeLine_85 rfl ?_
                  refine z_ild (tkV T L (tkE T L (tkE T L p))) dX12_bladeLine_86 (rk_a10 k60) (by decide) (by omega) (by omega) ((((frm_r f59 (by omega)).trans ((frm_r f50 (by omega)).trans (frm_r f37 (by omega))))).trans K33n) ?_
                  refine z_ist dX12_bladeLine_87 (rk_a9 k60) (by decide) (by omega) (by omega) (fun h66 e67 => ?_)
                  have f68 := frm_1 e67
                  have k69 := rk_q (frm_s f68) k60
                  have H70 := rfT_c f68 (fun a k q => by omega) H61
                  have H71 := rfP_c f68 (fun a k q => by omega) H62
                  have H72 := rfF_c f68 (fun a k q => by omega) H63
                  have FR73 := frm_t FR64 (frm_m (S' := (fun a j => (a = m ∧ (j = 9 ∨ (11 ≤ j ∧ j ≤ 17) ∨ j = 22)) ∨ a = m + 9 ∨ a = m + 10)) f68 (fun a k q => by omega))
                  refine z_iinc (L' := [_, _, _, _]) dX12_bladeLine_88 rfl rfl ?_
                  refine e_goto 59 dX12_bladeLine_91 rfl ?_
                  refine e_iload_n dX12_bladeLine_59 rfl ?_
                  refine z_iconst (4) dX12_bladeLine_60 rfl ?_
                  refine z_icmp_ge 94 dX12_bladeLine_61 rfl ⟨by omega, by omega⟩ ⟨by omega, by omega⟩ (fun c74 => ?_) (fun c74 => ?_)
                  · exfalso; omega
                  · skip
                    refine e_aload_n dX12_bladeLine_64 rfl ?_
                    refine e_get (.ref (m + 9)) dX12_bladeLine_65 tf_12_35 (rk_s k69) (congrArg va_rf (rk_r9 k69)) ?_
                    refine z_bipush (30) dX12_bladeLine_68 rfl ?_
                    refine e_iload_n dX12_bladeLine_70 rfl ?_
                    refine z_imul dX12_bladeLine_71 ?_
                    refine z_iconst (3) dX12_bladeLine_72 rfl ?_
                    refine z_iadd dX12_bladeLine_73 ?_
                    refine z_bipush (6) dX12_bladeLine_74 rfl ?_
                    refine e_iload_n dX12_bladeLine_76 rfl ?_
                    refine z_imul dX12_bladeLine_77 ?_
                    refine z_iadd dX12_bladeLine_78 ?_
                    refine e_iload_n dX12_bladeLine_79 rfl ?_
                    refine z_iadd dX12_bladeLine_80 ?_
                    refine e_aload_n dX12_bladeLine_81 rfl ?_
                    refine e_get (.ref (m + 10)) dX12_bladeLine_82 tf_12_38 (rk_s k69) (congrArg va_rf (rk_r10 k69)) ?_
                    refine e_iload_n dX12_bladeLine_85 rfl ?_
                    refine z_ild (tkV T L (tkE T L (tkE T L (tkE T L p)))) dX12_bladeLine_86 (rk_a10 k69) (by decide) (by omega) (by omega) ((((frm_r f68 (by omega)).trans ((frm_r f59 (by omega)).trans (frm_r f50 (by omega))))).trans K44n) ?_
                    refine z_ist dX12_bladeLine_87 (rk_a9 k69) (by decide) (by omega) (by omega) (fun h75 e76 => ?_)
                    have f77 := frm_1 e76
                    have k78 := rk_q (frm_s f77) k69
                    have H79 := rfT_c f77 (fun a k q => by omega) H70
                    have H80 := rfP_c f77 (fun a k q => by omega) H71
                    have H81 := rfF_c f77 (fun a k q => by omega) H72
                    have FR82 := frm_t FR73 (frm_m (S' := (fun a j => (a = m ∧ (j = 9 ∨ (11 ≤ j ∧ j ≤ 17) ∨ j = 22)) ∨ a = m + 9 ∨ a = m + 10)) f77 (fun a k q => by omega))
                    refine z_iinc (L' := [_, _, _, _]) dX12_bladeLine_88 rfl rfl ?_
                    refine e_goto 59 dX12_bladeLine_91 rfl ?_
                    refine e_iload_n dX12_bladeLine_59 rfl ?_
                    refine z_iconst (4) dX12_bladeLine_60 rfl ?_
                    refine z_icmp_ge 94 dX12_bladeLine_61 rfl ⟨by omega, by omega⟩ ⟨by omega, by omega⟩ (fun c83 => ?_) (fun c83 => ?_)
                    · skip
                      refine e_aload_n dX12_bladeLine_94 rfl ?_
                      refine e_get (.ref (m + 9)) dX12_bladeLine_95 tf_12_35 (rk_s k78) (congrArg va_rf (rk_r9 k78)) ?_
                      refine e_iload_n dX12_bladeLine_98 rfl ?_
                      refine e_dup2 dX12_bladeLine_99 rfl rfl ?_
                      refine z_ild (C 1) dX12_bladeLine_100 (rk_a9 k78) (by decide) (by omega) (by omega) ((((frm_r f77 (by omega)).trans ((frm_r f68 (by omega)).trans ((frm_r f59 (by omega)).trans (frm_r f50 (by omega)))))).trans (HCx 1 (by omega) (by omega))) ?_
                      refine z_iconst (1) dX12_bladeLine_101 rfl ?_
                      refine z_iadd dX12_bladeLine_102 ?_
                      refine z_ist dX12_bladeLine_103 (rk_a9 k78) (by decide) (by omega) (by omega) (fun h84 e85 => ?_)
                      have f86 := frm_1 e85
                      have k87 := rk_q (frm_s f86) k78
                      have H88 := rfT_c f86 (fun a k q => by omega) H79
                      have H89 := rfP_c f86 (fun a k q => by omega) H80
                      have H90 := rfF_c f86 (fun a k q => by omega) H81
                      have FR91 := frm_t FR82 (frm_m (S' := (fun a j => (a = m ∧ (j = 9 ∨ (11 ≤ j ∧ j ≤ 17) ∨ j = 22)) ∨ a = m + 9 ∨ a = m + 10)) f86 (fun a k q => by omega))
                      refine z_iconst (1) dX12_bladeLine_104 rfl ?_
                      refine z_bret dX12_bladeLine_105 rfl (Or.inr rfl) ⟨rfl, ?_⟩
                      exact kq 1 (Or.inr rfl) _ FR91 (Or.inl ⟨rfl, ⟨K11, K22, K33, K44, trivial⟩, H89, H90, by
                        intro k a z
                        unfold adG
                        rw [if_pos (by omega)]
                        by_cases z0 : k = 1
                        · rw [if_pos z0]; exact (rI_eqz (by omega) e85 ⟨by omega, by omega⟩)
                        rw [if_neg z0]
                        by_cases z1 : k = 30 * 1 + 3 + C 1
                        · rw [if_pos z1]; exact (((frm_r f86 (by omega)).trans ((frm_r f77 (by omega)).trans ((frm_r f68 (by omega)).trans (frm_r f59 (by omega))))).trans (rI_eqz (by omega) e49 ⟨by omega, by omega⟩))
                        rw [if_neg z1]
                        by_cases z2 : k = 30 * 1 + 9 + C 1
                        · rw [if_pos z2]; exact (((frm_r f86 (by omega)).trans ((frm_r f77 (by omega)).trans (frm_r f68 (by omega)))).trans (rI_eqz (by omega) e58 ⟨by omega, by omega⟩))
                        rw [if_neg z2]
                        by_cases z3 : k = 30 * 1 + 15 + C 1
                        · rw [if_pos z3]; exact (((frm_r f86 (by omega)).trans (frm_r f77 (by omega))).trans (rI_eqz (by omega) e67 ⟨by omega, by omega⟩))
                        rw [if_neg z3]
                        by_cases z4 : k = 30 * 1 + 21 + C 1
                        · rw [if_pos z4]; exact ((frm_r f86 (by omega)).trans (rI_eqz (by omega) e76 ⟨by omega, by omega⟩))
                        rw [if_neg z4]
                        exact (((frm_r f86 (by omega)).trans ((frm_r f77 (by omega)).trans ((frm_r f68 (by omega)).trans ((frm_r f59 (by omega)).trans (frm_r f50 (by omega))))))).trans (H41 k a z)⟩)
                    · exfalso; omega
        · skip
          obtain ⟨k0, f0⟩ := tkr_0 p38 (by omega)
          refine z_iconst (0) dX12_bladeLine_42 rfl ?_
          refine z_bret dX12_bladeLine_43 rfl (Or.inl rfl) ⟨rfl, ?_⟩
          exact kq 0 (Or.inl rfl) _ FR42 (Or.inr ⟨rfl, fun z => k0 z.2.2.2.1, by rw [xp_y K11, xp_y K22, xp_y K33, xp_n k0]; exact f0⟩)
set_option maxHeartbeats 4000000 in
theorem zp_X12_clothLine {ad : mA} {dd : Nat} {h : mH} {Q : mQ} {m : Nat} {T C : Int → Int} {L p f q : Int} (hk : rk h m) (HT : rfT h m T L) (HP : rfP h m T L p) (HF : rfF h m f q) (HC : rfC h m C)   (pn : nqB f q (tkS T L p)) (pc : 0 ≤ C 2 ∧ C 2 ≤ 6) (kq : ∀ v : Int, (v = 0 ∨ v = 1) → ∀ h1, frm (fun a j => (a = m ∧ (j = 9 ∨ (11 ≤ j ∧ j ≤ 17) ∨ j = 22)) ∨ a = m + 9 ∨ a = m + 10) h h1 → (rlO h1 m T L [(1, 70), (0, 20), (0, 9)] p f q v (rfC h1 m (clG C (tkV T L p) (tkV T L (tkE T L p)) (tkV T L (tkE T L (tkE T L p)))))) → Q (some (.int (zI v))) h1) : mCal TB0 ad (dd + 4) M_X12_clothLine [.ref m] h 0 0 Q := by
  refine ⟨Nat.le_of_ble_eq_true rfl, ?_⟩
  show mEv TB0 ad M_X12_clothLine (dd + 4) (0, 0) (mCal TB0 ad (dd + 3)) (fun v h' z => z.1 = 0 ∧ Q v h') 0 [some (.ref m), none] [] h (0, 0)
  have FR0 : frm (fun a j => (a = m ∧ (j = 9 ∨ (11 ≤ j ∧ j ≤ 17) ∨ j = 22)) ∨ a = m + 9 ∨ a = m + 10) h h := frm_0 h
  have w1 := HT.1
  have p0 := HP.1
  have tb := tk_b (T := T) HP.1.1 HP.1.2
  skip
  refine e_aload_n dX12_clothLine_0 rfl ?_
  refine z_iconst (0) dX12_clothLine_1 rfl ?_
  refine z_iconst (1) dX12_clothLine_2 rfl ?_
  refine z_bipush (70) dX12_clothLine_3 rfl ?_
  have PN5 := pn
  refine e_callV [.int _, .int _, .int _] dX12_clothLine_5 tm_12_170 rfl (Nat.le_of_ble_eq_true rfl) (rk_s hk) (Nat.le_of_ble_eq_true rfl) (Nat.le_refl _) (Nat.le_refl _) rfl (zp_X12_take hk HT HP HF 0 ⟨by omega, by omega⟩ 1 ⟨by omega, by omega⟩ 70 ⟨by omega, by omega⟩ PN5 (by omega) (fun v1 p2 h3 f4 p5 => ?_))
  have k6 := rk_q (frm_s f4) hk
  have H7 := rfT_c f4 (fun a k q => by omega) HT
  have H8 := rfC_c f4 (fun a k q => by omega) HC
  have FR9 := frm_t FR0 (frm_m (S' := (fun a j => (a = m ∧ (j = 9 ∨ (11 ≤ j ∧ j ≤ 17) ∨ j = 22)) ∨ a = m + 9 ∨ a = m + 10)) f4 (fun a k q => by omega))
  skip
  refine z_if_eq 33 dX12_clothLine_8 rfl ⟨by omega, by omega⟩ (fun c10 => ?_) (fun c10 => ?_)
  · skip
    obtain ⟨k0, f0⟩ := tkr_0 p5 (by omega)
    refine z_iconst (0) dX12_clothLine_33 rfl ?_
    refine z_bret dX12_clothLine_34 rfl (Or.inl rfl) ⟨rfl, ?_⟩
    exact kq 0 (Or.inl rfl) _ FR9 (Or.inr ⟨rfl, fun z => k0 z.1, by rw [xp_n k0]; exact f0⟩)
  · skip
    obtain ⟨K11, K11p, K11f, K11n, K11g⟩ := tkr_1 p5 (by omega)
    have K11t := tk_b (T := T) K11p.1.1 K11p.1.2
    have K11v := tv_b K11
    have K11b : nqB (ntF (¬ (1 ≤ tkV T L p ∧ tkV T L p ≤ 70)) 2 f) (ntQ (¬ (1 ≤ tkV T L p ∧ tkV T L p ≤ 70)) (tkS T L p) f q) (tkS T L (tkE T L p)) := nqB_t pn (by omega) (by omega) (by omega)
    refine e_aload_n dX12_clothLine_11 rfl ?_
    refine z_iconst (1) dX12_clothLine_12 rfl ?_
    refine z_iconst (0) dX12_clothLine_13 rfl ?_
    refine z_bipush (20) dX12_clothLine_14 rfl ?_
    have PN16 := K11b
    refine e_callV [.int _, .int _, .int _] dX12_clothLine_16 tm_12_170 rfl (Nat.le_of_ble_eq_true rfl) (rk_s k6) (Nat.le_of_ble_eq_true rfl) (Nat.le_refl _) (Nat.le_refl _) rfl (zp_X12_take k6 H7 K11p K11f 1 ⟨by omega, by omega⟩ 0 ⟨by omega, by omega⟩ 20 ⟨by omega, by omega⟩ PN16 (by omega) (fun v12 p13 h14 f15 p16 => ?_))
    have k17 := rk_q (frm_s f15) k6
    have H18 := rfT_c f15 (fun a k q => by omega) H7
    have H19 := rfC_c f15 (fun a k q => by omega) H8
    have FR20 := frm_t FR9 (frm_m (S' := (fun a j => (a = m ∧ (j = 9 ∨ (11 ≤ j ∧ j ≤ 17) ∨ j = 22)) ∨ a = m + 9 ∨ a = m + 10)) f15 (fun a k q => by omega))
    skip
    refine z_if_eq 33 dX12_clothLine_19 rfl ⟨by omega, by omega⟩ (fun c21 => ?_) (fun c21 => ?_)
    · skip
      obtain ⟨k0, f0⟩ := tkr_0 p16 (by omega)
      refine z_iconst (0) dX12_clothLine_33 rfl ?_
      refine z_bret dX12_clothLine_34 rfl (Or.inl rfl) ⟨rfl, ?_⟩
      exact kq 0 (Or.inl rfl) _ FR20 (Or.inr ⟨rfl, fun z => k0 z.2.1, by rw [xp_y K11, xp_n k0]; exact f0⟩)
    · skip
      obtain ⟨K22, K22p, K22f, K22n, K22g⟩ := tkr_1 p16 (by omega)
      have K22t := tk_b (T := T) K22p.1.1 K22p.1.2
      have K22v := tv_b K22
      have K22b : nqB (ntF (¬ (0 ≤ tkV T L (tkE T L p) ∧ tkV T L (tkE T L p) ≤ 20)) 2 (ntF (¬ (1 ≤ tkV T L p ∧ tkV T L p ≤ 70)) 2 f)) (ntQ (¬ (0 ≤ tkV T L (tkE T L p) ∧ tkV T L (tkE T L p) ≤ 20)) (tkS T L (tkE T L p)) (ntF (¬ (1 ≤ tkV T L p ∧ tkV T L p ≤ 70)) 2 f) (ntQ (¬ (1 ≤ tkV T L p ∧ tkV T L p ≤ 70)) (tkS T L p) f q)) (tkS T L (tkE T L (tkE T L p))) := nqB_t K11b (by omega) (by omega) (by omega)
      refine e_aload_n dX12_clothLine_22 rfl ?_
      refine z_iconst (2) dX12_clothLine_23 rfl ?_
      refine z_iconst (0) dX12_clothLine_24 rfl ?_
      refine z_bipush (9) dX12_clothLine_25 rfl ?_
      have PN27 := K22b
      refine e_callV [.int _, .int _, .int _] dX12_clothLine_27 tm_12_170 rfl (Nat.le_of_ble_eq_true rfl) (rk_s k17) (Nat.le_of_ble_eq_true rfl) (Nat.le_refl _) (Nat.le_refl _) rfl (zp_X12_take k17 H18 K22p K22f 2 ⟨by omega, by omega⟩ 0 ⟨by omega, by omega⟩ 9 ⟨by omega, by omega⟩ PN27 (by omega) (fun v23 p24 h25 f26 p27 => ?_))
      have k28 := rk_q (frm_s f26) k17
      have H29 := rfT_c f26 (fun a k q => by omega) H18
      have H30 := rfC_c f26 (fun a k q => by omega) H19
      have FR31 := frm_t FR20 (frm_m (S' := (fun a j => (a = m ∧ (j = 9 ∨ (11 ≤ j ∧ j ≤ 17) ∨ j = 22)) ∨ a = m + 9 ∨ a = m + 10)) f26 (fun a k q => by omega))
      skip
      refine z_if_ne 35 dX12_clothLine_30 rfl ⟨by omega, by omega⟩ (fun c32 => ?_) (fun c32 => ?_)
      · skip
        obtain ⟨K33, K33p, K33f, K33n, K33g⟩ := tkr_1 p27 (by omega)
        have K33t := tk_b (T := T) K33p.1.1 K33p.1.2
        have K33v := tv_b K33
        have K33b : nqB (ntF (¬ (0 ≤ tkV T L (tkE T L (tkE T L p)) ∧ tkV T L (tkE T L (tkE T L p)) ≤ 9)) 2 (ntF (¬ (0 ≤ tkV T L (tkE T L p) ∧ tkV T L (tkE T L p) ≤ 20)) 2 (ntF (¬ (1 ≤ tkV T L p ∧ tkV T L p ≤ 70)) 2 f))) (ntQ (¬ (0 ≤ tkV T L (tkE T L (tkE T L p)) ∧ tkV T L (tkE T L (tkE T L p)) ≤ 9)) (tkS T L (tkE T L (tkE T L p))) (ntF (¬ (0 ≤ tkV T L (tkE T L p) ∧ tkV T L (tkE T L p) ≤ 20)) 2 (ntF (¬ (1 ≤ tkV T L p ∧ tkV T L p ≤ 70)) 2 f)) (ntQ (¬ (0 ≤ tkV T L (tkE T L p) ∧ tkV T L (tkE T L p) ≤ 20)) (tkS T L (tkE T L p)) (ntF (¬ (1 ≤ tkV T L p ∧ tkV T L p ≤ 70)) 2 f) (ntQ (¬ (1 ≤ tkV T L p ∧ tkV T L p ≤ 70)) (tkS T L p) f q))) (tkS T L (tkE T L (tkE T L (tkE T L p)))) := nqB_t K22b (by omega) (by omega) (by omega)
        have HCx := H30
        refine e_aload_n dX12_clothLine_35 rfl ?_
        refine e_get (.ref (m + 9)) dX12_clothLine_36 tf_12_35 (rk_s k28) (congrArg va_rf (rk_r9 k28)) ?_
        refine z_iconst (2) dX12_clothLine_39 rfl ?_
        refine z_ild (C 2) dX12_clothLine_40 (rk_a9 k28) (by decide) (by omega) (by omega) (H30 2 (by omega) (by omega)) ?_
        have y34 := rI_r (H30 2 (by omega) (by omega))
        refine e_istore_n (L' := [_, _]) dX12_clothLine_41 (Nat.le_of_ble_eq_true rfl) rfl ?_
        refine e_iload_n dX12_clothLine_42 rfl ?_
        refine z_bipush (6) dX12_clothLine_43 rfl ?_
        refine z_icmp_ge 103 dX12_clothLine_45 rfl ⟨by omega, by omega⟩ ⟨by omega, by omega⟩ (fun c35 => ?_) (fun c35 => ?_)
        · skip
          refine z_iconst (1) dX12_clothLine_103 rfl ?_
          refine z_bret dX12_clothLine_104 rfl (Or.inr rfl) ⟨rfl, ?_⟩
          exact kq 1 (Or.inr rfl) _ FR31 (Or.inl ⟨rfl, ⟨K11, K22, K33, trivial⟩, K33p, K33f, by rw [cg_f (by omega)]; exact H30⟩)
        · skip
          refine e_aload_n dX12_clothLine_48 rfl ?_
          refine e_get (.ref (m + 9)) dX12_clothLine_49 tf_12_35 (rk_s k28) (congrArg va_rf (rk_r9 k28)) ?_
          refine z_bipush (63) dX12_clothLine_52 rfl ?_
          refine e_iload_n dX12_clothLine_54 rfl ?_
          refine z_iadd dX12_clothLine_55 ?_
          refine e_aload_n dX12_clothLine_56 rfl ?_
          refine e_get (.ref (m + 10)) dX12_clothLine_57 tf_12_38 (rk_s k28) (congrArg va_rf (rk_r10 k28)) ?_
          refine z_iconst (0) dX12_clothLine_60 rfl ?_
          refine z_ild (tkV T L p) dX12_clothLine_61 (rk_a10 k28) (by decide) (by omega) (by omega) ((((frm_r f26 (by omega)).trans (frm_r f15 (by omega)))).trans K11n) ?_
          refine z_ist dX12_clothLine_62 (rk_a9 k28) (by decide) (by omega) (by omega) (fun h36 e37 => ?_)
          have f38 := frm_1 e37
          have k39 := rk_q (frm_s f38) k28
          have H40 := rfT_c f38 (fun a k q => by omega) H29
          have H41 := rfP_c f38 (fun a k q => by omega) K33p
          have H42 := rfF_c f38 (fun a k q => by omega) K33f
          have FR43 := frm_t FR31 (frm_m (S' := (fun a j => (a = m ∧ (j = 9 ∨ (11 ≤ j ∧ j ≤ 17) ∨ j = 22)) ∨ a = m + 9 ∨ a = m + 10)) f38 (fun a k q => by omega))
          refine e_aload_n dX12_clothLine_63 rfl ?_
          refine e_get (.ref (m + 9)) dX12_clothLine_64 tf_12_35 (rk_s k39) (congrArg va_rf (rk_r9 k39)) ?_
          refine z_bipush (69) dX12_clothLine_67 rfl ?_
          refine e_iload_n dX12_clothLine_69 rfl ?_
          refine z_iadd dX12_clothLine_70 ?_
          refine e_aload_n dX12_clothLine_71 rfl ?_
          refine e_get (.ref (m + 10)) dX12_clothLine_72 tf_12_38 (rk_s k39) (congrArg va_rf (rk_r10 k39)) ?_
          refine z_iconst (1) dX12_clothLine_75 rfl ?_
          refine z_ild (tkV T L (tkE T L p)) dX12_clothLine_76 (rk_a10 k39) (by decide) (by omega) (by omega) ((((frm_r f38 (by omega)).trans (frm_r f26 (by omega)))).trans K22n) ?_
          refine z_ist dX12_clothLine_77 (rk_a9 k39) (by decide) (by omega) (by omega) (fun h44 e45 => ?_)
          have f46 := frm_1 e45
          have k47 := rk_q (frm_s f46) k39
          have H48 := rfT_c f46 (fun a k q => by omega) H40
          have H49 := rfP_c f46 (fun a k q => by omega) H41
          have H50 := rfF_c f46 (fun a k q => by omega) H42
          have FR51 := frm_t FR43 (frm_m (S' := (fun a j => (a = m ∧ (j = 9 ∨ (11 ≤ j ∧ j ≤ 17) ∨ j = 22)) ∨ a = m + 9 ∨ a = m + 10)) f46 (fun a k q => by omega))
          refine e_aload_n dX12_clothLine_78 rfl ?_
          refine e_get (.ref (m + 9)) dX12_clothLine_79 tf_12_35 (rk_s k47) (congrArg va_rf (rk_r9 k47)) ?_
          refine z_bipush (75) dX12_clothLine_82 rfl ?_
          refine e_iload_n dX12_clothLine_84 rfl ?_
          refine z_iadd dX12_clothLine_85 ?_
          refine e_aload_n dX12_clothLine_86 rfl ?_
          refine e_get (.ref (m + 10)) dX12_clothLine_87 tf_12_38 (rk_s k47) (congrArg va_rf (rk_r10 k47)) ?_
          refine z_iconst (2) dX12_clothLine_90 rfl ?_
          refine z_ild (tkV T L (tkE T L (tkE T L p))) dX12_clothLine_91 (rk_a10 k47) (by decide) (by omega) (by omega) ((((frm_r f46 (by omega)).trans (frm_r f38 (by omega)))).trans K33n) ?_
          refine z_ist dX12_clothLine_92 (rk_a9 k47) (by decide) (by omega) (by omega) (fun h52 e53 => ?_)
          have f54 := frm_1 e53
          have k55 := rk_q (frm_s f54) k47
          have H56 := rfT_c f54 (fun a k q => by omega) H48
          have H57 := rfP_c f54 (fun a k q => by omega) H49
          have H58 := rfF_c f54 (fun a k q => by omega) H50
          have FR59 := frm_t FR51 (frm_m (S' := (fun a j => (a = m ∧ (j = 9 ∨ (11 ≤ j ∧ j ≤ 17) ∨ j = 22)) ∨ a = m + 9 ∨ a = m + 10)) f54 (fun a k q => by omega))
          refine e_aload_n dX12_clothLine_93 rfl ?_
          refine e_get (.ref (m + 9)) dX12_clothLine_94 tf_12_35 (rk_s k55) (congrArg va_rf (rk_r9 k55)) ?_
          refine z_iconst (2) dX12_clothLine_97 rfl ?_
          refine e_dup2 dX12_clothLine_98 rfl rfl ?_
          refine z_ild (C 2) dX12_clothLine_99 (rk_a9 k55) (by decide) (by omega) (by omega) ((((frm_r f54 (by omega)).trans ((frm_r f46 (by omega)).trans (frm_r f38 (by omega))))).trans (HCx 2 (by omega) (by omega))) ?_
          refine z_iconst (1) dX12_clothLine_100 rfl ?_
          refine z_iadd dX12_clothLine_101 ?_
          refine z_ist dX12_clothLine_102 (rk_a9 k55) (by decide) (by omega) (by omega) (fun h60 e61 => ?_)
          have f62 := frm_1 e61
          have k63 := rk_q (frm_s f62) k55
          have H64 := rfT_c f62 (fun a k q => by omega) H56
          have H65 := rfP_c f62 (fun a k q => by omega) H57
          have H66 := rfF_c f62 (fun a k q => by omega) H58
          have FR67 := frm_t FR59 (frm_m (S' := (fun a j => (a = m ∧ (j = 9 ∨ (11 ≤ j ∧ j ≤ 17) ∨ j = 22)) ∨ a = m + 9 ∨ a = m + 10)) f62 (fun a k q => by omega))
          refine z_iconst (1) dX12_clothLine_103 rfl ?_
          refine z_bret dX12_clothLine_104 rfl (Or.inr rfl) ⟨rfl, ?_⟩
          exact kq 1 (Or.inr rfl) _ FR67 (Or.inl ⟨rfl, ⟨K11, K22, K33, trivial⟩, H65, H66, by
            intro k a z
            unfold clG
            rw [if_pos (by omega)]
            by_cases z0 : k = 2
            · rw [if_pos z0]; exact (rI_eqz (by omega) e61 ⟨by omega, by omega⟩)
            rw [if_neg z0]
            by_cases z1 : k = 63 + C 2
            · rw [if_pos z1]; exact (((frm_r f62 (by omega)).trans ((frm_r f54 (by omega)).trans (frm_r f46 (by omega)))).trans (rI_eqz (by omega) e37 ⟨by omega, by omega⟩))
            rw [if_neg z1]
            by_cases z2 : k = 69 + C 2
            · rw [if_pos z2]; exact (((frm_r f62 (by omega)).trans (frm_r f54 (by omega))).trans (rI_eqz (by omega) e45 ⟨by omega, by omega⟩))
            rw [if_neg z2]
            by_cases z3 : k = 75 + C 2
            · rw [if_pos z3]; exact ((frm_r f62 (by omega)).trans (rI_eqz (by omega) e53 ⟨by omega, by omega⟩))
            rw [if_neg z3]
            exact (((frm_r f62 (by omega)).trans ((frm_r f54 (by omega)).trans ((frm_r f46 (by omega)).trans (frm_r f38 (by omega)))))).trans (H30 k a z)⟩)
      · skip
        obtain ⟨k0, f0⟩ := tkr_0 p27 (by omega)
        refine z_iconst (0) dX12_clothLine_33 rfl ?_
        refine z_bret dX12_clothLine_34 rfl (Or.inl rfl) ⟨rfl, ?_⟩
        exact kq 0 (Or.inl rfl) _ FR31 (Or.inr ⟨rfl, fun z => k0 z.2.2.1, by rw [xp_y K11, xp_y K22, xp_n k0]; exact f0⟩)
set_option maxHeartbeats 4000000 in
theorem zp_X12_rivetLine {ad : mA} {dd : Nat} {h : mH} {Q : mQ} {m : Nat} {T C : Int → Int} {L p f q : Int} {d u : Int} (hk : rk h m) (HT : rfT h m T L) (HP : rfP h m T L p) (HF : rfF h m f q) (HC : rfC h m C) (HD : rfD h m d u)   (pn : nqB f q (tkS T L p)) (pg : rI h m 22 = 1) (kq : ∀ v : Int, (v = 0 ∨ v = 1) → ∀ h1, frm (fun a j => (a = m ∧ (j = 9 ∨ (11 ≤ j ∧ j ≤ 17) ∨ (20 ≤ j ∧ j ≤ 22))) ∨ a = m + 9 ∨ a = m + 10) h h1 → (rlO h1 m T L [(0, 5), (0, 5)] p f q v (rfC h1 m (if (tkV T L p) < 6 ∧ (tkV T L (tkE T L p)) < 6 then rivG C (tkV T L p) (tkV T L (tkE T L p)) else C) ∧ rfD h1 m (max d (tkV T L p)) (max u (tkV T L (tkE T L p))))) → Q (some (.int (zI v))) h1) : mCal TB0 ad (dd + 4) M_X12_rivetLine [.ref m] h 0 0 Q := by
  refine ⟨Nat.le_of_ble_eq_true rfl, ?_⟩
  show mEv TB0 ad M_X12_rivetLine (dd + 4) (0, 0) (mCal TB0 ad (dd + 3)) (fun v h' z => z.1 = 0 ∧ Q v h') 0 [some (.ref m), none] [] h (0, 0)
  have FR0 : frm (fun a j => (a = m ∧ (j = 9 ∨ (11 ≤ j ∧ j ≤ 17) ∨ (20 ≤ j ∧ j ≤ 22))) ∨ a = m + 9 ∨ a = m + 10) h h := frm_0 h
  have w1 := HT.1
  have p0 := HP.1
  have tb := tk_b (T := T) HP.1.1 HP.1.2
  skip
  refine e_aload_n dX12_rivetLine_0 rfl ?_
  refine z_iconst (0) dX12_rivetLine_1 rfl ?_
  refine z_iconst (0) dX12_rivetLine_2 rfl ?_
  refine z_iconst (5) dX12_rivetLine_3 rfl ?_
  have PN4 := pn
  refine e_callV [.int _, .int _, .int _] dX12_rivetLine_4 tm_12_170 rfl (Nat.le_of_ble_eq_true rfl) (rk_s hk) (Nat.le_of_ble_eq_true rfl) (Nat.le_refl _) (Nat.le_refl _) rfl (zp_X12_take hk HT HP HF 0 ⟨by omega, by omega⟩ 0 ⟨by omega, by omega⟩ 5 ⟨by omega, by omega⟩ PN4 (by omega) (fun v1 p2 h3 f4 p5 => ?_))
  have k6 := rk_q (frm_s f4) hk
  have H7 := rfT_c f4 (fun a k q => by omega) HT
  have H8 := rfC_c f4 (fun a k q => by omega) HC
  have H9 := rfD_c f4 (fun a k q => by omega) HD
  have FR10 := frm_t FR0 (frm_m (S' := (fun a j => (a = m ∧ (j = 9 ∨ (11 ≤ j ∧ j ≤ 17) ∨ (20 ≤ j ∧ j ≤ 22))) ∨ a = m + 9 ∨ a = m + 10)) f4 (fun a k q => by omega))
  skip
  refine z_if_eq 20 dX12_rivetLine_7 rfl ⟨by omega, by omega⟩ (fun c11 => ?_) (fun c11 => ?_)
  · skip
    obtain ⟨k0, f0⟩ := tkr_0 p5 (by omega)
    refine z_iconst (0) dX12_rivetLine_20 rfl ?_
    refine z_bret dX12_rivetLine_21 rfl (Or.inl rfl) ⟨rfl, ?_⟩
    exact kq 0 (Or.inl rfl) _ FR10 (Or.inr ⟨rfl, fun z => k0 z.1, by rw [xp_n k0]; exact f0⟩)
  · skip
    obtain ⟨K12, K12p, K12f, K12n, K12g⟩ := tkr_1 p5 (by omega)
    have K12t := tk_b (T := T) K12p.1.1 K12p.1.2
    have K12v := tv_b K12
    have K12b : nqB (ntF (¬ (0 ≤ tkV T L p ∧ tkV T L p ≤ 5)) 2 f) (ntQ (¬ (0 ≤ tkV T L p ∧ tkV T L p ≤ 5)) (tkS T L p) f q) (tkS T L (tkE T L p)) := nqB_t pn (by omega) (by omega) (by omega)
    refine e_aload_n dX12_rivetLine_10 rfl ?_
    refine z_iconst (1) dX12_rivetLine_11 rfl ?_
    refine z_iconst (0) dX12_rivetLine_12 rfl ?_
    refine z_iconst (5) dX12_rivetLine_13 rfl ?_
    have PN14 := K12b
    refine e_callV [.int _, .int _, .int _] dX12_rivetLine_14 tm_12_170 rfl (Nat.le_of_ble_eq_true rfl) (rk_s k6) (Nat.le_of_ble_eq_true rfl) (Nat.le_refl _) (Nat.le_refl _) rfl (zp_X12_take k6 H7 K12p K12f 1 ⟨by omega, by omega⟩ 0 ⟨by omega, by omega⟩ 5 ⟨by omega, by omega⟩ PN14 (by omega) (fun v13 p14 h15 f16 p17 => ?_))
    have k18 := rk_q (frm_s f16) k6
    have H19 := rfT_c f16 (fun a k q => by omega) H7
    have H20 := rfC_c f16 (fun a k q => by omega) H8
    have H21 := rfD_c f16 (fun a k q => by omega) H9
    have FR22 := frm_t FR10 (frm_m (S' := (fun a j => (a = m ∧ (j = 9 ∨ (11 ≤ j ∧ j ≤ 17) ∨ (20 ≤ j ∧ j ≤ 22))) ∨ a = m + 9 ∨ a = m + 10)) f16 (fun a k q => by omega))
    skip
    refine z_if_ne 22 dX12_rivetLine_17 rfl ⟨by omega, by omega⟩ (fun c23 => ?_) (fun c23 => ?_)
    · skip
      obtain ⟨K24, K24p, K24f, K24n, K24g⟩ := tkr_1 p17 (by omega)
      have K24t := tk_b (T := T) K24p.1.1 K24p.1.2
      have K24v := tv_b K24
      have K24b : nqB (ntF (¬ (0 ≤ tkV T L (tkE T L p) ∧ tkV T L (tkE T L p) ≤ 5)) 2 (ntF (¬ (0 ≤ tkV T L p ∧ tkV T L p ≤ 5)) 2 f)) (ntQ (¬ (0 ≤ tkV T L (tkE T L p) ∧ tkV T L (tkE T L p) ≤ 5)) (tkS T L (tkE T L p)) (ntF (¬ (0 ≤ tkV T L p ∧ tkV T L p ≤ 5)) 2 f) (ntQ (¬ (0 ≤ tkV T L p ∧ tkV T L p ≤ 5)) (tkS T L p) f q)) (tkS T L (tkE T L (tkE T L p))) := nqB_t K12b (by omega) (by omega) (by omega)
      have hd0 := HD.2.2
      have HDx := H21
      refine e_aload_n dX12_rivetLine_22 rfl ?_
      refine e_aload_n dX12_rivetLine_23 rfl ?_
      refine z_get d dX12_rivetLine_24 tf_12_173 (rk_s k18) (Or.inl rfl) (H21.1) ?_
      refine e_aload_n dX12_rivetLine_27 rfl ?_
      refine e_get (.ref (m + 10)) dX12_rivetLine_28 tf_12_38 (rk_s k18) (congrArg va_rf (rk_r10 k18)) ?_
      refine z_iconst (0) dX12_rivetLine_31 rfl ?_
      refine z_ild (tkV T L p) dX12_rivetLine_32 (rk_a10 k18) (by decide) (by omega) (by omega) (((frm_r f16 (by omega))).trans K12n) ?_
      refine e_callS [.int _, .int _] dX12_rivetLine_33 tm_12_176 rfl (Nat.le_of_ble_eq_true rfl) (Nat.le_refl _) (Nat.le_refl _) rfl (zp_X12_greater d ⟨by omega, by omega⟩ (tkV T L p) ⟨by omega, by omega⟩ ?_)
      refine z_put dX12_rivetLine_36 tf_12_173 (rk_s k18) rfl (Or.inl rfl) (fun h25 e26 => ?_)
      have f27 := frm_1 e26
      have k28 := rk_q (frm_s f27) k18
      have H29 := rfT_c f27 (fun a k q => by omega) H19
      have H30 := rfC_c f27 (fun a k q => by omega) H20
      have H31 := rfP_c f27 (fun a k q => by omega) K24p
      have H32 := rfF_c f27 (fun a k q => by omega) K24f
      have FR33 := frm_t FR22 (frm_m (S' := (fun a j => (a = m ∧ (j = 9 ∨ (11 ≤ j ∧ j ≤ 17) ∨ (20 ≤ j ∧ j ≤ 22))) ∨ a = m + 9 ∨ a = m + 10)) f27 (fun a k q => by omega))
      refine e_aload_n dX12_rivetLine_39 rfl ?_
      refine e_aload_n dX12_rivetLine_40 rfl ?_
      refine z_get u dX12_rivetLine_41 tf_12_180 (rk_s k28) (Or.inl rfl) (((frm_r f27 (by omega))).trans HDx.2.1) ?_
      refine e_aload_n dX12_rivetLine_44 rfl ?_
      refine e_get (.ref (m + 10)) dX12_rivetLine_45 tf_12_38 (rk_s k28) (congrArg va_rf (rk_r10 k28)) ?_
      refine z_iconst (1) dX12_rivetLine_48 rfl ?_
      refine z_ild (tkV T L (tkE T L p)) dX12_rivetLine_49 (rk_a10 k28) (by decide) (by omega) (by omega) (((frm_r f27 (by omega))).trans K24n) ?_
      refine e_callS [.int _, .int _] dX12_rivetLine_50 tm_12_176 rfl (Nat.le_of_ble_eq_true rfl) (Nat.le_refl _) (Nat.le_refl _) rfl (zp_X12_greater u ⟨by omega, by omega⟩ (tkV T L (tkE T L p)) ⟨by omega, by omega⟩ ?_)
      refine z_put dX12_rivetLine_53 tf_12_180 (rk_s k28) rfl (Or.inl rfl) (fun h34 e35 => ?_)
      have f36 := frm_1 e35
      have k37 := rk_q (frm_s f36) k28
      have H38 := rfT_c f36 (fun a k q => by omega) H29
      have H39 := rfC_c f36 (fun a k q => by omega) H30
      have H40 := rfP_c f36 (fun a k q => by omega) H31
      have H41 := rfF_c f36 (fun a k q => by omega) H32
      have FR42 := frm_t FR33 (frm_m (S' := (fun a j => (a = m ∧ (j = 9 ∨ (11 ≤ j ∧ j ≤ 17) ∨ (20 ≤ j ∧ j ≤ 22))) ∨ a = m + 9 ∨ a = m + 10)) f36 (fun a k q => by omega))
      have D43 : rfD h34 m (max d (tkV T L p)) (max u (tkV T L (tkE T L p))) := ⟨((frm_r f36 (by omega)).trans (rI_eq e26 ⟨by omega, by omega⟩)), (rI_eq e35 ⟨by omega, by omega⟩), by omega, by omega⟩
      have GD : rI h34 m 22 = bZ ((tkV T L p) ≤ 5 ∧ (tkV T L (tkE T L p)) ≤ 5) := (((frm_r f36 (by omega)).trans (frm_r f27 (by omega)))).trans (gd_2 pg K12g K24g (by constructor <;> (intro z; omega)))
      refine e_aload_n dX12_rivetLine_56 rfl ?_
      refine z_get (bZ ((tkV T L p) ≤ 5 ∧ (tkV T L (tkE T L p)) ≤ 5)) dX12_rivetLine_57 tf_12_163 (rk_s k37) (Or.inr rfl) GD ?_
      refine z_ifb_eq 197 dX12_rivetLine_60 rfl (fun c44 => ?_) (fun c44 => ?_)
      · skip
        refine z_iconst (1) dX12_rivetLine_197 rfl ?_
        refine z_bret dX12_rivetLine_198 rfl (Or.inr rfl) ⟨rfl, ?_⟩
        exact kq 1 (Or.inr rfl) _ FR42 (Or.inl ⟨rfl, ⟨K12, K24, trivial⟩, H40, H41, ⟨by rw [if_neg (by omega)]; exact H39, D43⟩⟩)
      · skip
        skip
        refine z_iconst (0) dX12_rivetLine_63 rfl ?_
        refine e_istore_n (L' := [_, _]) dX12_rivetLine_64 (Nat.le_of_ble_eq_true rfl) rfl ?_
        have lp45 : ∀ (n45 : Nat) (i : Int) (h45 : mH), (6 - i).toNat = n45 → (rk h45 m) → (rfT h45 m T L) → (rfP h45 m T L (tkE T L (tkE T L p))) → (rfF h45 m (ntF (¬ (0 ≤ tkV T L (tkE T L p) ∧ tkV T L (tkE T L p) ≤ 5)) 2 (ntF (¬ (0 ≤ tkV T L p ∧ tkV T L p ≤ 5)) 2 f)) (ntQ (¬ (0 ≤ tkV T L (tkE T L p) ∧ tkV T L (tkE T L p) ≤ 5)) (tkS T L (tkE T L p)) (ntF (¬ (0 ≤ tkV T L p ∧ tkV T L p ≤ 5)) 2 f) (ntQ (¬ (0 ≤ tkV T L p ∧ tkV T L p ≤ 5)) (tkS T L p) f q))) → (rfD h45 m (max d (tkV T L p)) (max u (tkV T L (tkE T L p)))) → (frm (fun a j => (a = m ∧ (j = 9 ∨ (11 ≤ j ∧ j ≤ 17) ∨ (20 ≤ j ∧ j ≤ 22))) ∨ a = m + 9 ∨ a = m + 10) h h45) → (0 ≤ i ∧ i ≤ 6) → (rfC h45 m (rvC C (tkV T L p) (tkV T L (tkE T L p)) i)) → (rI h45 (m + 10) 0 = (tkV T L p)) → (rI h45 (m + 10) 1 = (tkV T L (tkE T L p))) → mEv TB0 ad M_X12_rivetLine (dd + 4) (0, 0) (mCal TB0 ad (dd + 3)) (fun v h' z => z.1 = 0 ∧ Q v h') 65 [some (.ref m), some (.int (zI i))] [] h45 (0, 0) := by
          intro n45
          induction n45 using Nat.strongRecOn with
          | ind n45 ih45 =>
          intro i h45 hn45 k46 H47 H48 H49 H50 FR51 I1 I2 I3 I4
          refine e_iload_n dX12_rivetLine_65 rfl ?_
          refine z_bipush (6) dX12_rivetLine_66 rfl ?_
          refine z_icmp_ge 157 dX12_rivetLine_68 rfl ⟨by omega, by omega⟩ ⟨by omega, by omega⟩ (fun c52 => ?_) (fun c52 => ?_)
          · skip
            refine e_aload_n dX12_rivetLine_157 rfl ?_
            refine e_get (.ref (m + 9)) dX12_rivetLine_158 tf_12_35 (rk_s k46) (congrArg va_rf (rk_r9 k46)) ?_
            refine z_bipush (27) dX12_rivetLine_161 rfl ?_
            refine e_aload_n dX12_rivetLine_163 rfl ?_
            refine e_get (.ref (m + 10)) dX12_rivetLine_164 tf_12_38 (rk_s k46) (congrArg va_rf (rk_r10 k46)) ?_
            refine z_iconst (0) dX12_rivetLine_167 rfl ?_
            refine z_ild (tkV T L p) dX12_rivetLine_168 (rk_a10 k46) (by decide) (by omega) (by omega) I3 ?_
            refine z_iadd dX12_rivetLine_169 ?_
            refine e_aload_n dX12_rivetLine_170 rfl ?_
            refine e_get (.ref (m + 10)) dX12_rivetLine_171 tf_12_38 (rk_s k46) (congrArg va_rf (rk_r10 k46)) ?_
            refine z_iconst (1) dX12_rivetLine_174 rfl ?_
            refine z_ild (tkV T L (tkE T L p)) dX12_rivetLine_175 (rk_a10 k46) (by decide) (by omega) (by omega) I4 ?_
            refine z_ist dX12_rivetLine_176 (rk_a9 k46) (by decide) (by omega) (by omega) (fun h53 e54 => ?_)
            have f55 := frm_1 e54
            have k56 := rk_q (frm_s f55) k46
            have H57 := rfT_c f55 (fun a k q => by omega) H47
            have H58 := rfP_c f55 (fun a k q => by omega) H48
            have H59 := rfF_c f55 (fun a k q => by omega) H49
            have H60 := rfD_c f55 (fun a k q => by omega) H50
            have FR61 := frm_t FR51 (frm_m (S' := (fun a j => (a = m ∧ (j = 9 ∨ (11 ≤ j ∧ j ≤ 17) ∨ (20 ≤ j ∧ j ≤ 22))) ∨ a = m + 9 ∨ a = m + 10)) f55 (fun a k q => by omega))
            refine e_aload_n dX12_rivetLine_177 rfl ?_
            refine e_get (.ref (m + 9)) dX12_rivetLine_178 tf_12_35 (rk_s k56) (congrArg va_rf (rk_r9 k56)) ?_
            refine z_bipush (57) dX12_rivetLine_181 rfl ?_
            refine e_aload_n dX12_rivetLine_183 rfl ?_
            refine e_get (.ref (m + 10)) dX12_rivetLine_184 tf_12_38 (rk_s k56) (congrArg va_rf (rk_r10 k56)) ?_
            refine z_iconst (1) dX12_rivetLine_187 rfl ?_
            refine z_ild (tkV T L (tkE T L p)) dX12_rivetLine_188 (rk_a10 k56) (by decide) (by omega) (by omega) (((frm_r f55 (by omega))).trans I4) ?_
            refine z_iadd dX12_rivetLine_189 ?_
            refine e_aload_n dX12_rivetLine_190 rfl ?_
            refine e_get (.ref (m + 10)) dX12_rivetLine_191 tf_12_38 (rk_s k56) (congrArg va_rf (rk_r10 k56)) ?_
            refine z_iconst (0) dX12_rivetLine_194 rfl ?_
            refine z_ild (tkV T L p) dX12_rivetLine_195 (rk_a10 k56) (by decide) (by omega) (by omega) (((frm_r f55 (by omega))).trans I3) ?_
            refine z_ist dX12_rivetLine_196 (rk_a9 k56) (by decide) (by omega) (by omega) (fun h62 e63 => ?_)
            have f64 := frm_1 e63
            have k65 := rk_q (frm_s f64) k56
            have H66 := rfT_c f64 (fun a k q => by omega) H57
            have H67 := rfP_c f64 (fun a k q => by omega) H58
            have H68 := rfF_c f64 (fun a k q => by omega) H59
            have H69 := rfD_c f64 (fun a k q => by omega) H60
            have FR70 := frm_t FR61 (frm_m (S' := (fun a j => (a = m ∧ (j = 9 ∨ (11 ≤ j ∧ j ≤ 17) ∨ (20 ≤ j ∧ j ≤ 22))) ∨ a = m + 9 ∨ a = m + 10)) f64 (fun a k q => by omega))
            refine z_iconst (1) dX12_rivetLine_197 rfl ?_
            refine z_bret dX12_rivetLine_198 rfl (Or.inr rfl) ⟨rfl, ?_⟩
            exact kq 1 (Or.inr rfl) _ FR70 (Or.inl ⟨rfl, ⟨K12, K24, trivial⟩, H67, H68, ⟨by
              rw [if_pos (by omega)]
              intro k a z
              by_cases z1 : k = 57 + (tkV T L (tkE T L p))
              · rw [z1, (rv_a (by omega) (by omega)).2, ← z1]; exact (rI_eqz (by omega) e63 ⟨by omega, by omega⟩)
              by_cases z0 : k = 27 + (tkV T L p)
              · rw [z0, (rv_a (by omega) (by omega)).1, ← z0]; exact ((frm_r f64 (by omega)).trans (rI_eqz (by omega) e54 ⟨by omega, by omega⟩))
              rw [← rv_6 ⟨z0, z1⟩]
              exact (((frm_r f64 (by omega)).trans (frm_r f55 (by omega)))).trans (by have e := I2 k a z; rw [show i = 6 by omega] at e; exact e), H69⟩⟩)
          · skip
            have cb1 := rI_r ((I2 (27 + i) (by omega) (by omega)).trans (rv_c (by omega)).1)
            have cb2 := rI_r ((I2 (57 + i) (by omega) (by omega)).trans (rv_c (by omega)).2.1)
            refine e_aload_n dX12_rivetLine_71 rfl ?_
            refine e_get (.ref (m + 9)) dX12_rivetLine_72 tf_12_35 (rk_s k46) (congrArg va_rf (rk_r9 k46)) ?_
            refine z_bipush (27) dX12_rivetLine_75 rfl ?_
            refine e_iload_n dX12_rivetLine_77 rfl ?_
            refine z_iadd dX12_rivetLine_78 ?_
            refine e_aload_n dX12_rivetLine_79 rfl ?_
            refine e_get (.ref (m + 9)) dX12_rivetLine_80 tf_12_35 (rk_s k46) (congrArg va_rf (rk_r9 k46)) ?_
            refine z_bipush (27) dX12_rivetLine_83 rfl ?_
            refine e_iload_n dX12_rivetLine_85 rfl ?_
            refine z_iadd dX12_rivetLine_86 ?_
            refine z_ild (C (27 + i)) dX12_rivetLine_87 (rk_a9 k46) (by decide) (by omega) (by omega) ((I2 (27 + i) (by omega) (by omega)).trans (rv_c (by omega)).1) ?_
            refine e_aload_n dX12_rivetLine_88 rfl ?_
            refine e_get (.ref (m + 10)) dX12_rivetLine_89 tf_12_38 (rk_s k46) (congrArg va_rf (rk_r10 k46)) ?_
            refine z_iconst (1) dX12_rivetLine_92 rfl ?_
            refine z_ild (tkV T L (tkE T L p)) dX12_rivetLine_93 (rk_a10 k46) (by decide) (by omega) (by omega) I4 ?_
            refine z_icmp_ne 101 dX12_rivetLine_94 rfl ⟨by omega, by omega⟩ ⟨by omega, by omega⟩ (fun c71 => ?_) (fun c71 => ?_)
            · skip
              refine e_aload_n dX12_rivetLine_101 rfl ?_
              refine e_get (.ref (m + 9)) dX12_rivetLine_102 tf_12_35 (rk_s k46) (congrArg va_rf (rk_r9 k46)) ?_
              refine z_bipush (27) dX12_rivetLine_105 rfl ?_
              refine e_iload_n dX12_rivetLine_107 rfl ?_
              refine z_iadd dX12_rivetLine_108 ?_
              refine z_ild (C (27 + i)) dX12_rivetLine_109 (rk_a9 k46) (by decide) (by omega) (by omega) ((I2 (27 + i) (by omega) (by omega)).trans (rv_c (by omega)).1) ?_
              refine z_ist dX12_rivetLine_110 (rk_a9 k46) (by decide) (by omega) (by omega) (fun h72 e73 => ?_)
              have f74 := frm_1 e73
              have k75 := rk_q (frm_s f74) k46
              have H76 := rfT_c f74 (fun a k q => by omega) H47
              have H77 := rfP_c f74 (fun a k q => by omega) H48
              have H78 := rfF_c f74 (fun a k q => by omega) H49
              have H79 := rfD_c f74 (fun a k q => by omega) H50
              have FR80 := frm_t FR51 (frm_m (S' := (fun a j => (a = m ∧ (j = 9 ∨ (11 ≤ j ∧ j ≤ 17) ∨ (20 ≤ j ∧ j ≤ 22))) ∨ a = m + 9 ∨ a = m + 10)) f74 (fun a k q => by omega))
              refine e_aload_n dX12_rivetLine_111 rfl ?_
              refine e_get (.ref (m + 9)) dX12_rivetLine_112 tf_12_35 (rk_s k75) (congrArg va_rf (rk_r9 k75)) ?_
              refine z_bipush (57) dX12_rivetLine_115 rfl ?_
              refine e_iload_n dX12_rivetLine_117 rfl ?_
              refine z_iadd dX12_rivetLine_118 ?_
              refine e_aload_n dX12_rivetLine_119 rfl ?_
              refine e_get (.ref (m + 9)) dX12_rivetLine_120 tf_12_35 (rk_s k75) (congrArg va_rf (rk_r9 k75)) ?_
              refine z_bipush (57) dX12_rivetLine_123 rfl ?_
              refine e_iload_n dX12_rivetLine_125 rfl ?_
              refine z_iadd dX12_rivetLine_126 ?_
              refine z_ild (C (57 + i)) dX12_rivetLine_127 (rk_a9 k75) (by decide) (by omega) (by omega) (((frm_r f74 (by omega))).trans ((I2 (57 + i) (by omega) (by omega)).trans (rv_c (by omega)).2.1)) ?_
              refine e_aload_n dX12_rivetLine_128 rfl ?_
              refine e_get (.ref (m + 10)) dX12_rivetLine_129 tf_12_38 (rk_s k75) (congrArg va_rf (rk_r10 k75)) ?_
              refine z_iconst (0) dX12_rivetLine_132 rfl ?_
              refine z_ild (tkV T L p) dX12_rivetLine_133 (rk_a10 k75) (by decide) (by omega) (by omega) (((frm_r f74 (by omega))).trans I3) ?_
              refine z_icmp_ne 141 dX12_rivetLine_134 rfl ⟨by omega, by omega⟩ ⟨by omega, by omega⟩ (fun c81 => ?_) (fun c81 => ?_)
              · skip
                refine e_aload_n dX12_rivetLine_141 rfl ?_
                refine e_get (.ref (m + 9)) dX12_rivetLine_142 tf_12_35 (rk_s k75) (congrArg va_rf (rk_r9 k75)) ?_
                refine z_bipush (57) dX12_rivetLine_145 rfl ?_
                refine e_iload_n dX12_rivetLine_147 rfl ?_
                refine z_iadd dX12_rivetLine_148 ?_
                refine z_ild (C (57 + i)) dX12_rivetLine_149 (rk_a9 k75) (by decide) (by omega) (by omega) (((frm_r f74 (by omega))).trans ((I2 (57 + i) (by omega) (by omega)).trans (rv_c (by omega)).2.1)) ?_
                refine z_ist dX12_rivetLine_150 (rk_a9 k75) (by decide) (by omega) (by omega) (fun h82 e83 => ?_)
                have f84 := frm_1 e83
                have k85 := rk_q (frm_s f84) k75
                have H86 := rfT_c f84 (fun a k q => by omega) H76
                have H87 := rfP_c f84 (fun a k q => by omega) H77
                have H88 := rfF_c f84 (fun a k q => by omega) H78
                have H89 := rfD_c f84 (fun a k q => by omega) H79
                have FR90 := frm_t FR80 (frm_m (S' := (fun a j => (a = m ∧ (j = 9 ∨ (11 ≤ j ∧ j ≤ 17) ∨ (20 ≤ j ∧ j ≤ 22))) ∨ a = m + 9 ∨ a = m + 10)) f84 (fun a k q => by omega))
                refine z_iinc (L' := [_, _]) dX12_rivetLine_151 rfl rfl ?_
                refine e_goto 65 dX12_rivetLine_154 rfl ?_
                exact ih45 _ (by omega) (i + 1) h82 rfl k85 H86 H87 H88 H89 FR90 (by omega) (fun k a z => by
                  by_cases z0 : k = 27 + i
                  · rw [show rvC C (tkV T L p) (tkV T L (tkE T L p)) (i + 1) k = (if C (27 + i) = (tkV T L (tkE T L p)) then -1 else C (27 + i)) by rw [z0]; exact (rv_c (by omega)).2.2.1]; (first | rw [if_pos (by omega)] | rw [if_neg (by omega)]); exact ((frm_r f84 (by omega)).trans (rI_eqz (by omega) e73 ⟨by omega, by omega⟩))
                  by_cases z1 : k = 57 + i
                  · rw [show rvC C (tkV T L p) (tkV T L (tkE T L p)) (i + 1) k = (if C (57 + i) = (tkV T L p) then -1 else C (57 + i)) by rw [z1]; exact (rv_c (by omega)).2.2.2]; (first | rw [if_pos (by omega)] | rw [if_neg (by omega)]); exact (rI_eqz (by omega) e83 ⟨by omega, by omega⟩)
                  rw [rv_n ⟨z0, z1⟩]
                  exact (((frm_r f84 (by omega)).trans (frm_r f74 (by omega)))).trans (I2 k a z)) ((((frm_r f84 (by omega)).trans (frm_r f74 (by omega)))).trans I3) ((((frm_r f84 (by omega)).trans (frm_r f74 (by omega)))).trans I4)
              · skip
                refine z_iconst (-1) dX12_rivetLine_137 rfl ?_
                refine e_goto 150 dX12_rivetLine_138 rfl ?_
                refine z_ist dX12_rivetLine_150 (rk_a9 k75) (by decide) (by omega) (by omega) (fun h91 e92 => ?_)
                have f93 := frm_1 e92
                have k94 := rk_q (frm_s f93) k75
                have H95 := rfT_c f93 (fun a k q => by omega) H76
                have H96 := rfP_c f93 (fun a k q => by omega) H77
                have H97 := rfF_c f93 (fun a k q => by omega) H78
                have H98 := rfD_c f93 (fun a k q => by omega) H79
                have FR99 := frm_t FR80 (frm_m (S' := (fun a j => (a = m ∧ (j = 9 ∨ (11 ≤ j ∧ j ≤ 17) ∨ (20 ≤ j ∧ j ≤ 22))) ∨ a = m + 9 ∨ a = m + 10)) f93 (fun a k q => by omega))
                refine z_iinc (L' := [_, _]) dX12_rivetLine_151 rfl rfl ?_
                refine e_goto 65 dX12_rivetLine_154 rfl ?_
                exact ih45 _ (by omega) (i + 1) h91 rfl k94 H95 H96 H97 H98 FR99 (by omega) (fun k a z => by
                  by_cases z0 : k = 27 + i
                  · rw [show rvC C (tkV T L p) (tkV T L (tkE T L p)) (i + 1) k = (if C (27 + i) = (tkV T L (tkE T L p)) then -1 else C (27 + i)) by rw [z0]; exact (rv_c (by omega)).2.2.1]; (first | rw [if_pos (by omega)] | rw [if_neg (by omega)]); exact ((frm_r f93 (by omega)).trans (rI_eqz (by omega) e73 ⟨by omega, by omega⟩))
                  by_cases z1 : k = 57 + i
                  · rw [show rvC C (tkV T L p) (tkV T L (tkE T L p)) (i + 1) k = (if C (57 + i) = (tkV T L p) then -1 else C (57 + i)) by rw [z1]; exact (rv_c (by omega)).2.2.2]; (first | rw [if_pos (by omega)] | rw [if_neg (by omega)]); exact (rI_eqz (by omega) e92 ⟨by omega, by omega⟩)
                  rw [rv_n ⟨z0, z1⟩]
                  exact (((frm_r f93 (by omega)).trans (frm_r f74 (by omega)))).trans (I2 k a z)) ((((frm_r f93 (by omega)).trans (frm_r f74 (by omega)))).trans I3) ((((frm_r f93 (by omega)).trans (frm_r f74 (by omega)))).trans I4)
            · skip
              refine z_iconst (-1) dX12_rivetLine_97 rfl ?_
              refine e_goto 110 dX12_rivetLine_98 rfl ?_
              refine z_ist dX12_rivetLine_110 (rk_a9 k46) (by decide) (by omega) (by omega) (fun h100 e101 => ?_)
              have f102 := frm_1 e101
              have k103 := rk_q (frm_s f102) k46
              have H104 := rfT_c f102 (fun a k q => by omega) H47
              have H105 := rfP_c f102 (fun a k q => by omega) H48
              have H106 := rfF_c f102 (fun a k q => by omega) H49
              have H107 := rfD_c f102 (fun a k q => by omega) H50
              have FR108 := frm_t FR51 (frm_m (S' := (fun a j => (a = m ∧ (j = 9 ∨ (11 ≤ j ∧ j ≤ 17) ∨ (20 ≤ j ∧ j ≤ 22))) ∨ a = m + 9 ∨ a = m + 10)) f102 (fun a k q => by omega))
              refine e_aload_n dX12_rivetLine_111 rfl ?_
              refine e_get (.ref (m + 9)) dX12_rivetLine_112 tf_12_35 (rk_s k103) (congrArg va_rf (rk_r9 k103)) ?_
              refine z_bipush (57) dX12_rivetLine_115 rfl ?_
              refine e_iload_n dX12_rivetLine_117 rfl ?_
              refine z_iadd dX12_rivetLine_118 ?_
              refine e_aload_n dX12_rivetLine_119 rfl ?_
              refine e_get (.ref (m + 9)) dX12_rivetLine_120 tf_12_35 (rk_s k103) (congrArg va_rf (rk_r9 k103)) ?_
              refine z_bipush (57) dX12_rivetLine_123 rfl ?_
              refine e_iload_n dX12_rivetLine_125 rfl ?_
              refine z_iadd dX12_rivetLine_126 ?_
              refine z_ild (C (57 + i)) dX12_rivetLine_127 (rk_a9 k103) (by decide) (by omega) (by omega) (((frm_r f102 (by omega))).trans ((I2 (57 + i) (by omega) (by omega)).trans (rv_c (by omega)).2.1)) ?_
              refine e_aload_n dX12_rivetLine_128 rfl ?_
              refine e_get (.ref (m + 10)) dX12_rivetLine_129 tf_12_38 (rk_s k103) (congrArg va_rf (rk_r10 k103)) ?_
              refine z_iconst (0) dX12_rivetLine_132 rfl ?_
              refine z_ild (tkV T L p) dX12_rivetLine_133 (rk_a10 k103) (by decide) (by omega) (by omega) (((frm_r f102 (by omega))).trans I3) ?_
              refine z_icmp_ne 141 dX12_rivetLine_134 rfl ⟨by omega, by omega⟩ ⟨by omega, by omega⟩ (fun c109 => ?_) (fun c109 => ?_)
              · skip
                refine e_aload_n dX12_rivetLine_141 rfl ?_
                refine e_get (.ref (m + 9)) dX12_rivetLine_142 tf_12_35 (rk_s k103) (congrArg va_rf (rk_r9 k103)) ?_
                refine z_bipush (57) dX12_rivetLine_145 rfl ?_
                refine e_iload_n dX12_rivetLine_147 rfl ?_
                refine z_iadd dX12_rivetLine_148 ?_
                refine z_ild (C (57 + i)) dX12_rivetLine_149 (rk_a9 k103) (by decide) (by omega) (by omega) (((frm_r f102 (by omega))).trans ((I2 (57 + i) (by omega) (by omega)).trans (rv_c (by omega)).2.1)) ?_
                refine z_ist dX12_rivetLine_150 (rk_a9 k103) (by decide) (by omega) (by omega) (fun h110 e111 => ?_)
                have f112 := frm_1 e111
                have k113 := rk_q (frm_s f112) k103
                have H114 := rfT_c f112 (fun a k q => by omega) H104
                have H115 := rfP_c f112 (fun a k q => by omega) H105
                have H116 := rfF_c f112 (fun a k q => by omega) H106
                have H117 := rfD_c f112 (fun a k q => by omega) H107
                have FR118 := frm_t FR108 (frm_m (S' := (fun a j => (a = m ∧ (j = 9 ∨ (11 ≤ j ∧ j ≤ 17) ∨ (20 ≤ j ∧ j ≤ 22))) ∨ a = m + 9 ∨ a = m + 10)) f112 (fun a k q => by omega))
                refine z_iinc (L' := [_, _]) dX12_rivetLine_151 rfl rfl ?_
                refine e_goto 65 dX12_rivetLine_154 rfl ?_
                exact ih45 _ (by omega) (i + 1) h110 rfl k113 H114 H115 H116 H117 FR118 (by omega) (fun k a z => by
                  by_cases z0 : k = 27 + i
                  · rw [show rvC C (tkV T L p) (tkV T L (tkE T L p)) (i + 1) k = (if C (27 + i) = (tkV T L (tkE T L p)) then -1 else C (27 + i)) by rw [z0]; exact (rv_c (by omega)).2.2.1]; (first | rw [if_pos (by omega)] | rw [if_neg (by omega)]); exact ((frm_r f112 (by omega)).trans (rI_eqz (by omega) e101 ⟨by omega, by omega⟩))
                  by_cases z1 : k = 57 + i
                  · rw [show rvC C (tkV T L p) (tkV T L (tkE T L p)) (i + 1) k = (if C (57 + i) = (tkV T L p) then -1 else C (57 + i)) by rw [z1]; exact (rv_c (by omega)).2.2.2]; (first | rw [if_pos (by omega)] | rw [if_neg (by omega)]); exact (rI_eqz (by omega) e111 ⟨by omega, by omega⟩)
                  rw [rv_n ⟨z0, z1⟩]
                  exact (((frm_r f112 (by omega)).trans (frm_r f102 (by omega)))).trans (I2 k a z)) ((((frm_r f112 (by omega)).trans (frm_r f102 (by omega)))).trans I3) ((((frm_r f112 (by omega)).trans (frm_r f102 (by omega)))).trans I4)
              · skip
                refine z_iconst (-1) dX12_rivetLine_137 rfl ?_
                refine e_goto 150 dX12_rivetLine_138 rfl ?_
                refine z_ist dX12_rivetLine_150 (rk_a9 k103) (by decide) (by omega) (by omega) (fun h119 e120 => ?_)
                have f121 := frm_1 e120
                have k122 := rk_q (frm_s f121) k103
                have H123 := rfT_c f121 (fun a k q => by omega) H104
                have H124 := rfP_c f121 (fun a k q => by omega) H105
                have H125 := rfF_c f121 (fun a k q => by omega) H106
                have H126 := rfD_c f121 (fun a k q => by omega) H107
                have FR127 := frm_t FR108 (frm_m (S' := (fun a j => (a = m ∧ (j = 9 ∨ (11 ≤ j ∧ j ≤ 17) ∨ (20 ≤ j ∧ j ≤ 22))) ∨ a = m + 9 ∨ a = m + 10)) f121 (fun a k q => by omega))
                refine z_iinc (L' := [_, _]) dX12_rivetLine_151 rfl rfl ?_
                refine e_goto 65 dX12_rivetLine_154 rfl ?_
                exact ih45 _ (by omega) (i + 1) h119 rfl k122 H123 H124 H125 H126 FR127 (by omega) (fun k a z => by
                  by_cases z0 : k = 27 + i
                  · rw [show rvC C (tkV T L p) (tkV T L (tkE T L p)) (i + 1) k = (if C (27 + i) = (tkV T L (tkE T L p)) then -1 else C (27 + i)) by rw [z0]; exact (rv_c (by omega)).2.2.1]; (first | rw [if_pos (by omega)] | rw [if_neg (by omega)]); exact ((frm_r f121 (by omega)).trans (rI_eqz (by omega) e101 ⟨by omega, by omega⟩))
                  by_cases z1 : k = 57 + i
                  · rw [show rvC C (tkV T L p) (tkV T L (tkE T L p)) (i + 1) k = (if C (57 + i) = (tkV T L p) then -1 else C (57 + i)) by rw [z1]; exact (rv_c (by omega)).2.2.2]; (first | rw [if_pos (by omega)] | rw [if_neg (by omega)]); exact (rI_eqz (by omega) e120 ⟨by omega, by omega⟩)
                  rw [rv_n ⟨z0, z1⟩]
                  exact (((frm_r f121 (by omega)).trans (frm_r f102 (by omega)))).trans (I2 k a z)) ((((frm_r f121 (by omega)).trans (frm_r f102 (by omega)))).trans I3) ((((frm_r f121 (by omega)).trans (frm_r f102 (by omega)))).trans I4)
        exact lp45 _ 0 h34 rfl k37 H38 H40 H41 D43 FR42 (by omega) (fun k a z => by rw [rv_0]; exact H39 k a z) ((((frm_r f36 (by omega)).trans ((frm_r f27 (by omega)).trans (frm_r f16 (by omega))))).trans K12n) ((((frm_r f36 (by omega)).trans (frm_r f27 (by omega)))).trans K24n)
    · skip
      obtain ⟨k0, f0⟩ := tkr_0 p17 (by omega)
      refine z_iconst (0) dX12_rivetLine_20 rfl ?_
      refine z_bret dX12_rivetLine_21 rfl (Or.inl rfl) ⟨rfl, ?_⟩
      exact kq 0 (Or.inl rfl) _ FR22 (Or.inr ⟨rfl, fun z => k0 z.2.1, by rw [xp_y K12, xp_n k0]; exact f0⟩)

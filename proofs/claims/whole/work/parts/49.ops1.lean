/-! THE INVARIANT; TIPS, LONE, RANK -/
theorem dX11_lone_0 : decode cX11_lone 0 = .ok (.aload_n 0, 1) := by decide +kernel
theorem dX11_lone_1 : decode cX11_lone 1 = .ok (.getfield 10, 3) := by decide +kernel
theorem dX11_lone_4 : decode cX11_lone 4 = .ok (.iload_n 1, 1) := by decide +kernel
theorem dX11_lone_5 : decode cX11_lone 5 = .ok (.invokevirtual 94, 3) := by decide +kernel
theorem dX11_lone_8 : decode cX11_lone 8 = .ok (.astore_n 2, 1) := by decide +kernel
theorem dX11_lone_9 : decode cX11_lone 9 = .ok (.aload_n 2, 1) := by decide +kernel
theorem dX11_lone_10 : decode cX11_lone 10 = .ok (.ifnonnull 7, 3) := by decide +kernel
theorem dX11_lone_13 : decode cX11_lone 13 = .ok (.iconst (-1), 1) := by decide +kernel
theorem dX11_lone_14 : decode cX11_lone 14 = .ok (.goto 7, 3) := by decide +kernel
theorem dX11_lone_17 : decode cX11_lone 17 = .ok (.aload_n 2, 1) := by decide +kernel
theorem dX11_lone_18 : decode cX11_lone 18 = .ok (.invokevirtual 275, 3) := by decide +kernel
theorem dX11_lone_21 : decode cX11_lone 21 = .ok (.ireturn, 1) := by decide +kernel
theorem dX11_rank_0 : decode cX11_rank 0 = .ok (.aload_n 0, 1) := by decide +kernel
theorem dX11_rank_1 : decode cX11_rank 1 = .ok (.getfield 10, 3) := by decide +kernel
theorem dX11_rank_4 : decode cX11_rank 4 = .ok (.iload_n 1, 1) := by decide +kernel
theorem dX11_rank_5 : decode cX11_rank 5 = .ok (.invokevirtual 94, 3) := by decide +kernel
theorem dX11_rank_8 : decode cX11_rank 8 = .ok (.astore_n 3, 1) := by decide +kernel
theorem dX11_rank_9 : decode cX11_rank 9 = .ok (.aload_n 3, 1) := by decide +kernel
theorem dX11_rank_10 : decode cX11_rank 10 = .ok (.ifnonnull 7, 3) := by decide +kernel
theorem dX11_rank_13 : decode cX11_rank 13 = .ok (.iconst (-1), 1) := by decide +kernel
theorem dX11_rank_14 : decode cX11_rank 14 = .ok (.goto 8, 3) := by decide +kernel
theorem dX11_rank_17 : decode cX11_rank 17 = .ok (.aload_n 3, 1) := by decide +kernel
theorem dX11_rank_18 : decode cX11_rank 18 = .ok (.iload_n 2, 1) := by decide +kernel
theorem dX11_rank_19 : decode cX11_rank 19 = .ok (.invokevirtual 278, 3) := by decide +kernel
theorem dX11_rank_22 : decode cX11_rank 22 = .ok (.ireturn, 1) := by decide +kernel
theorem dX11_tips_0 : decode cX11_tips 0 = .ok (.aload_n 0, 1) := by decide +kernel
theorem dX11_tips_1 : decode cX11_tips 1 = .ok (.getfield 10, 3) := by decide +kernel
theorem dX11_tips_4 : decode cX11_tips 4 = .ok (.iload_n 1, 1) := by decide +kernel
theorem dX11_tips_5 : decode cX11_tips 5 = .ok (.invokevirtual 94, 3) := by decide +kernel
theorem dX11_tips_8 : decode cX11_tips 8 = .ok (.astore_n 2, 1) := by decide +kernel
theorem dX11_tips_9 : decode cX11_tips 9 = .ok (.aload_n 2, 1) := by decide +kernel
theorem dX11_tips_10 : decode cX11_tips 10 = .ok (.ifnonnull 7, 3) := by decide +kernel
theorem dX11_tips_13 : decode cX11_tips 13 = .ok (.iconst (-1), 1) := by decide +kernel
theorem dX11_tips_14 : decode cX11_tips 14 = .ok (.goto 7, 3) := by decide +kernel
theorem dX11_tips_17 : decode cX11_tips 17 = .ok (.aload_n 2, 1) := by decide +kernel
theorem dX11_tips_18 : decode cX11_tips 18 = .ok (.invokevirtual 294, 3) := by decide +kernel
theorem dX11_tips_21 : decode cX11_tips 21 = .ok (.ireturn, 1) := by decide +kernel
theorem dX12_lone_0 : decode cX12_lone 0 = .ok (.aload_n 0, 1) := by decide +kernel
theorem dX12_lone_1 : decode cX12_lone 1 = .ok (.iconst 0, 1) := by decide +kernel
theorem dX12_lone_2 : decode cX12_lone 2 = .ok (.putfield 103, 3) := by decide +kernel
theorem dX12_lone_5 : decode cX12_lone 5 = .ok (.aload_n 0, 1) := by decide +kernel
theorem dX12_lone_6 : decode cX12_lone 6 = .ok (.iload_n 1, 1) := by decide +kernel
theorem dX12_lone_7 : decode cX12_lone 7 = .ok (.invokevirtual 292, 3) := by decide +kernel
theorem dX12_lone_10 : decode cX12_lone 10 = .ok (.ifCond .ne 5, 3) := by decide +kernel
theorem dX12_lone_13 : decode cX12_lone 13 = .ok (.iconst (-1), 1) := by decide +kernel
theorem dX12_lone_14 : decode cX12_lone 14 = .ok (.ireturn, 1) := by decide +kernel
theorem dX12_lone_15 : decode cX12_lone 15 = .ok (.iconst (-1), 1) := by decide +kernel
theorem dX12_lone_16 : decode cX12_lone 16 = .ok (.istore_n 2, 1) := by decide +kernel
theorem dX12_lone_17 : decode cX12_lone 17 = .ok (.iconst 0, 1) := by decide +kernel
theorem dX12_lone_18 : decode cX12_lone 18 = .ok (.istore_n 3, 1) := by decide +kernel
theorem dX12_lone_19 : decode cX12_lone 19 = .ok (.iload_n 3, 1) := by decide +kernel
theorem dX12_lone_20 : decode cX12_lone 20 = .ok (.bipush 36, 2) := by decide +kernel
theorem dX12_lone_22 : decode cX12_lone 22 = .ok (.if_icmp .ge 108, 3) := by decide +kernel
theorem dX12_lone_25 : decode cX12_lone 25 = .ok (.iload_n 3, 1) := by decide +kernel
theorem dX12_lone_26 : decode cX12_lone 26 = .ok (.bipush 6, 2) := by decide +kernel
theorem dX12_lone_28 : decode cX12_lone 28 = .ok (.idiv, 1) := by decide +kernel
theorem dX12_lone_29 : decode cX12_lone 29 = .ok (.aload_n 0, 1) := by decide +kernel
theorem dX12_lone_30 : decode cX12_lone 30 = .ok (.getfield 271, 3) := by decide +kernel
theorem dX12_lone_33 : decode cX12_lone 33 = .ok (.if_icmp .ge 45, 3) := by decide +kernel
theorem dX12_lone_36 : decode cX12_lone 36 = .ok (.iload_n 3, 1) := by decide +kernel
theorem dX12_lone_37 : decode cX12_lone 37 = .ok (.bipush 6, 2) := by decide +kernel
theorem dX12_lone_39 : decode cX12_lone 39 = .ok (.irem, 1) := by decide +kernel
theorem dX12_lone_40 : decode cX12_lone 40 = .ok (.aload_n 0, 1) := by decide +kernel
theorem dX12_lone_41 : decode cX12_lone 41 = .ok (.getfield 274, 3) := by decide +kernel
theorem dX12_lone_44 : decode cX12_lone 44 = .ok (.if_icmp .ge 34, 3) := by decide +kernel
theorem dX12_lone_47 : decode cX12_lone 47 = .ok (.aload_n 0, 1) := by decide +kernel
theorem dX12_lone_48 : decode cX12_lone 48 = .ok (.iload_n 3, 1) := by decide +kernel
theorem dX12_lone_49 : decode cX12_lone 49 = .ok (.bipush 6, 2) := by decide +kernel
theorem dX12_lone_51 : decode cX12_lone 51 = .ok (.idiv, 1) := by decide +kernel
theorem dX12_lone_52 : decode cX12_lone 52 = .ok (.invokevirtual 286, 3) := by decide +kernel
theorem dX12_lone_55 : decode cX12_lone 55 = .ok (.ifCond .ne 23, 3) := by decide +kernel
theorem dX12_lone_58 : decode cX12_lone 58 = .ok (.aload_n 0, 1) := by decide +kernel
theorem dX12_lone_59 : decode cX12_lone 59 = .ok (.getfield 53, 3) := by decide +kernel
theorem dX12_lone_62 : decode cX12_lone 62 = .ok (.bipush 6, 2) := by decide +kernel
theorem dX12_lone_64 : decode cX12_lone 64 = .ok (.iload_n 3, 1) := by decide +kernel
theorem dX12_lone_65 : decode cX12_lone 65 = .ok (.bipush 6, 2) := by decide +kernel
theorem dX12_lone_67 : decode cX12_lone 67 = .ok (.irem, 1) := by decide +kernel
theorem dX12_lone_68 : decode cX12_lone 68 = .ok (.iadd, 1) := by decide +kernel
theorem dX12_lone_69 : decode cX12_lone 69 = .ok (.iaload, 1) := by decide +kernel
theorem dX12_lone_70 : decode cX12_lone 70 = .ok (.iconst (-1), 1) := by decide +kernel
theorem dX12_lone_71 : decode cX12_lone 71 = .ok (.if_icmp .ne 7, 3) := by decide +kernel
theorem dX12_lone_74 : decode cX12_lone 74 = .ok (.iconst 1, 1) := by decide +kernel
theorem dX12_lone_75 : decode cX12_lone 75 = .ok (.goto 4, 3) := by decide +kernel
theorem dX12_lone_78 : decode cX12_lone 78 = .ok (.iconst 0, 1) := by decide +kernel
theorem dX12_lone_79 : decode cX12_lone 79 = .ok (.istore 4, 2) := by decide +kernel
theorem dX12_lone_81 : decode cX12_lone 81 = .ok (.iload 4, 2) := by decide +kernel
theorem dX12_lone_83 : decode cX12_lone 83 = .ok (.ifCond .eq 39, 3) := by decide +kernel
theorem dX12_lone_86 : decode cX12_lone 86 = .ok (.iload_n 2, 1) := by decide +kernel
theorem dX12_lone_87 : decode cX12_lone 87 = .ok (.iconst (-1), 1) := by decide +kernel
theorem dX12_lone_88 : decode cX12_lone 88 = .ok (.if_icmp .eq 30, 3) := by decide +kernel
theorem dX12_lone_91 : decode cX12_lone 91 = .ok (.aload_n 0, 1) := by decide +kernel
theorem dX12_lone_92 : decode cX12_lone 92 = .ok (.iload_n 3, 1) := by decide +kernel
theorem dX12_lone_93 : decode cX12_lone 93 = .ok (.bipush 6, 2) := by decide +kernel
theorem dX12_lone_95 : decode cX12_lone 95 = .ok (.idiv, 1) := by decide +kernel
theorem dX12_lone_96 : decode cX12_lone 96 = .ok (.iload_n 3, 1) := by decide +kernel
theorem dX12_lone_97 : decode cX12_lone 97 = .ok (.bipush 6, 2) := by decide +kernel
theorem dX12_lone_99 : decode cX12_lone 99 = .ok (.irem, 1) := by decide +kernel
theorem dX12_lone_100 : decode cX12_lone 100 = .ok (.invokevirtual 283, 3) := by decide +kernel
theorem dX12_lone_103 : decode cX12_lone 103 = .ok (.aload_n 0, 1) := by decide +kernel
theorem dX12_lone_104 : decode cX12_lone 104 = .ok (.iload_n 2, 1) := by decide +kernel
theorem dX12_lone_105 : decode cX12_lone 105 = .ok (.bipush 6, 2) := by decide +kernel
theorem dX12_lone_107 : decode cX12_lone 107 = .ok (.idiv, 1) := by decide +kernel
theorem dX12_lone_108 : decode cX12_lone 108 = .ok (.iload_n 2, 1) := by decide +kernel
theorem dX12_lone_109 : decode cX12_lone 109 = .ok (.bipush 6, 2) := by decide +kernel
theorem dX12_lone_111 : decode cX12_lone 111 = .ok (.irem, 1) := by decide +kernel
theorem dX12_lone_112 : decode cX12_lone 112 = .ok (.invokevirtual 283, 3) := by decide +kernel
theorem dX12_lone_115 : decode cX12_lone 115 = .ok (.if_icmp .le 7, 3) := by decide +kernel
theorem dX12_lone_118 : decode cX12_lone 118 = .ok (.iload_n 3, 1) := by decide +kernel
theorem dX12_lone_119 : decode cX12_lone 119 = .ok (.goto 4, 3) := by decide +kernel
theorem dX12_lone_122 : decode cX12_lone 122 = .ok (.iload_n 2, 1) := by decide +kernel
theorem dX12_lone_123 : decode cX12_lone 123 = .ok (.istore_n 2, 1) := by decide +kernel
theorem dX12_lone_124 : decode cX12_lone 124 = .ok (.iinc 3 1, 3) := by decide +kernel
theorem dX12_lone_127 : decode cX12_lone 127 = .ok (.goto (-108), 3) := by decide +kernel
theorem dX12_lone_130 : decode cX12_lone 130 = .ok (.iload_n 2, 1) := by decide +kernel
theorem dX12_lone_131 : decode cX12_lone 131 = .ok (.ireturn, 1) := by decide +kernel
theorem dX12_rank_0 : decode cX12_rank 0 = .ok (.aload_n 0, 1) := by decide +kernel
theorem dX12_rank_1 : decode cX12_rank 1 = .ok (.iconst 0, 1) := by decide +kernel
theorem dX12_rank_2 : decode cX12_rank 2 = .ok (.putfield 103, 3) := by decide +kernel
theorem dX12_rank_5 : decode cX12_rank 5 = .ok (.aload_n 0, 1) := by decide +kernel
theorem dX12_rank_6 : decode cX12_rank 6 = .ok (.iload_n 1, 1) := by decide +kernel
theorem dX12_rank_7 : decode cX12_rank 7 = .ok (.invokevirtual 292, 3) := by decide +kernel
theorem dX12_rank_10 : decode cX12_rank 10 = .ok (.ifCond .ne 5, 3) := by decide +kernel
theorem dX12_rank_13 : decode cX12_rank 13 = .ok (.iconst (-1), 1) := by decide +kernel
theorem dX12_rank_14 : decode cX12_rank 14 = .ok (.ireturn, 1) := by decide +kernel
theorem dX12_rank_15 : decode cX12_rank 15 = .ok (.iconst 0, 1) := by decide +kernel
theorem dX12_rank_16 : decode cX12_rank 16 = .ok (.istore_n 3, 1) := by decide +kernel
theorem dX12_rank_17 : decode cX12_rank 17 = .ok (.iload_n 3, 1) := by decide +kernel
theorem dX12_rank_18 : decode cX12_rank 18 = .ok (.aload_n 0, 1) := by decide +kernel
theorem dX12_rank_19 : decode cX12_rank 19 = .ok (.getfield 271, 3) := by decide +kernel
theorem dX12_rank_22 : decode cX12_rank 22 = .ok (.if_icmp .ge 120, 3) := by decide +kernel
theorem dX12_rank_25 : decode cX12_rank 25 = .ok (.iconst 0, 1) := by decide +kernel
theorem dX12_rank_26 : decode cX12_rank 26 = .ok (.istore 4, 2) := by decide +kernel
theorem dX12_rank_28 : decode cX12_rank 28 = .ok (.iconst 0, 1) := by decide +kernel
theorem dX12_rank_29 : decode cX12_rank 29 = .ok (.istore 5, 2) := by decide +kernel
theorem dX12_rank_31 : decode cX12_rank 31 = .ok (.iload 5, 2) := by decide +kernel
theorem dX12_rank_33 : decode cX12_rank 33 = .ok (.aload_n 0, 1) := by decide +kernel
theorem dX12_rank_34 : decode cX12_rank 34 = .ok (.getfield 271, 3) := by decide +kernel
theorem dX12_rank_37 : decode cX12_rank 37 = .ok (.if_icmp .ge 83, 3) := by decide +kernel
theorem dX12_rank_40 : decode cX12_rank 40 = .ok (.aload_n 0, 1) := by decide +kernel
theorem dX12_rank_41 : decode cX12_rank 41 = .ok (.iload_n 3, 1) := by decide +kernel
theorem dX12_rank_42 : decode cX12_rank 42 = .ok (.invokevirtual 286, 3) := by decide +kernel
theorem dX12_rank_45 : decode cX12_rank 45 = .ok (.ifCond .eq 75, 3) := by decide +kernel
theorem dX12_rank_48 : decode cX12_rank 48 = .ok (.aload_n 0, 1) := by decide +kernel
theorem dX12_rank_49 : decode cX12_rank 49 = .ok (.iload 5, 2) := by decide +kernel
theorem dX12_rank_51 : decode cX12_rank 51 = .ok (.invokevirtual 286, 3) := by decide +kernel
theorem dX12_rank_54 : decode cX12_rank 54 = .ok (.ifCond .eq 31, 3) := by decide +kernel
theorem dX12_rank_57 : decode cX12_rank 57 = .ok (.aload_n 0, 1) := by decide +kernel
theorem dX12_rank_58 : decode cX12_rank 58 = .ok (.iload 5, 2) := by decide +kernel
theorem dX12_rank_60 : decode cX12_rank 60 = .ok (.aload_n 0, 1) := by decide +kernel
theorem dX12_rank_61 : decode cX12_rank 61 = .ok (.getfield 53, 3) := by decide +kernel
theorem dX12_rank_64 : decode cX12_rank 64 = .ok (.iload 5, 2) := by decide +kernel
theorem dX12_rank_66 : decode cX12_rank 66 = .ok (.iaload, 1) := by decide +kernel
theorem dX12_rank_67 : decode cX12_rank 67 = .ok (.invokevirtual 289, 3) := by decide +kernel
theorem dX12_rank_70 : decode cX12_rank 70 = .ok (.aload_n 0, 1) := by decide +kernel
theorem dX12_rank_71 : decode cX12_rank 71 = .ok (.iload_n 3, 1) := by decide +kernel
theorem dX12_rank_72 : decode cX12_rank 72 = .ok (.aload_n 0, 1) := by decide +kernel
theorem dX12_rank_73 : decode cX12_rank 73 = .ok (.getfield 53, 3) := by decide +kernel
theorem dX12_rank_76 : decode cX12_rank 76 = .ok (.iload_n 3, 1) := by decide +kernel
theorem dX12_rank_77 : decode cX12_rank 77 = .ok (.iaload, 1) := by decide +kernel
theorem dX12_rank_78 : decode cX12_rank 78 = .ok (.invokevirtual 289, 3) := by decide +kernel
theorem dX12_rank_81 : decode cX12_rank 81 = .ok (.isub, 1) := by decide +kernel
theorem dX12_rank_82 : decode cX12_rank 82 = .ok (.goto 4, 3) := by decide +kernel
theorem dX12_rank_85 : decode cX12_rank 85 = .ok (.iconst (-1), 1) := by decide +kernel
theorem dX12_rank_86 : decode cX12_rank 86 = .ok (.istore 6, 2) := by decide +kernel
theorem dX12_rank_88 : decode cX12_rank 88 = .ok (.iload 4, 2) := by decide +kernel
theorem dX12_rank_90 : decode cX12_rank 90 = .ok (.iload 6, 2) := by decide +kernel
theorem dX12_rank_92 : decode cX12_rank 92 = .ok (.ifCond .gt 14, 3) := by decide +kernel
theorem dX12_rank_95 : decode cX12_rank 95 = .ok (.iload 6, 2) := by decide +kernel
theorem dX12_rank_97 : decode cX12_rank 97 = .ok (.ifCond .ne 13, 3) := by decide +kernel
theorem dX12_rank_100 : decode cX12_rank 100 = .ok (.iload 5, 2) := by decide +kernel
theorem dX12_rank_102 : decode cX12_rank 102 = .ok (.iload_n 3, 1) := by decide +kernel
theorem dX12_rank_103 : decode cX12_rank 103 = .ok (.if_icmp .ge 7, 3) := by decide +kernel
theorem dX12_rank_106 : decode cX12_rank 106 = .ok (.iconst 1, 1) := by decide +kernel
theorem dX12_rank_107 : decode cX12_rank 107 = .ok (.goto 4, 3) := by decide +kernel
theorem dX12_rank_110 : decode cX12_rank 110 = .ok (.iconst 0, 1) := by decide +kernel
theorem dX12_rank_111 : decode cX12_rank 111 = .ok (.iadd, 1) := by decide +kernel
theorem dX12_rank_112 : decode cX12_rank 112 = .ok (.istore 4, 2) := by decide +kernel
theorem dX12_rank_114 : decode cX12_rank 114 = .ok (.iinc 5 1, 3) := by decide +kernel
theorem dX12_rank_117 : decode cX12_rank 117 = .ok (.goto (-86), 3) := by decide +kernel
theorem dX12_rank_120 : decode cX12_rank 120 = .ok (.aload_n 0, 1) := by decide +kernel
theorem dX12_rank_121 : decode cX12_rank 121 = .ok (.iload_n 3, 1) := by decide +kernel
theorem dX12_rank_122 : decode cX12_rank 122 = .ok (.invokevirtual 286, 3) := by decide +kernel
theorem dX12_rank_125 : decode cX12_rank 125 = .ok (.ifCond .eq 11, 3) := by decide +kernel
theorem dX12_rank_128 : decode cX12_rank 128 = .ok (.iload 4, 2) := by decide +kernel
theorem dX12_rank_130 : decode cX12_rank 130 = .ok (.iload_n 2, 1) := by decide +kernel
theorem dX12_rank_131 : decode cX12_rank 131 = .ok (.if_icmp .ne 5, 3) := by decide +kernel
theorem dX12_rank_134 : decode cX12_rank 134 = .ok (.iload_n 3, 1) := by decide +kernel
theorem dX12_rank_135 : decode cX12_rank 135 = .ok (.ireturn, 1) := by decide +kernel
theorem dX12_rank_136 : decode cX12_rank 136 = .ok (.iinc 3 1, 3) := by decide +kernel
theorem dX12_rank_139 : decode cX12_rank 139 = .ok (.goto (-122), 3) := by decide +kernel
theorem dX12_rank_142 : decode cX12_rank 142 = .ok (.iconst (-1), 1) := by decide +kernel
theorem dX12_rank_143 : decode cX12_rank 143 = .ok (.ireturn, 1) := by decide +kernel
theorem dX12_tips_0 : decode cX12_tips 0 = .ok (.aload_n 0, 1) := by decide +kernel
theorem dX12_tips_1 : decode cX12_tips 1 = .ok (.iconst 0, 1) := by decide +kernel
theorem dX12_tips_2 : decode cX12_tips 2 = .ok (.putfield 103, 3) := by decide +kernel
theorem dX12_tips_5 : decode cX12_tips 5 = .ok (.aload_n 0, 1) := by decide +kernel
theorem dX12_tips_6 : decode cX12_tips 6 = .ok (.iload_n 1, 1) := by decide +kernel
theorem dX12_tips_7 : decode cX12_tips 7 = .ok (.invokevirtual 292, 3) := by decide +kernel
theorem dX12_tips_10 : decode cX12_tips 10 = .ok (.ifCond .ne 5, 3) := by decide +kernel
theorem dX12_tips_13 : decode cX12_tips 13 = .ok (.iconst (-1), 1) := by decide +kernel
theorem dX12_tips_14 : decode cX12_tips 14 = .ok (.ireturn, 1) := by decide +kernel
theorem dX12_tips_15 : decode cX12_tips 15 = .ok (.iconst 0, 1) := by decide +kernel
theorem dX12_tips_16 : decode cX12_tips 16 = .ok (.istore_n 2, 1) := by decide +kernel
theorem dX12_tips_17 : decode cX12_tips 17 = .ok (.iconst 0, 1) := by decide +kernel
theorem dX12_tips_18 : decode cX12_tips 18 = .ok (.istore_n 3, 1) := by decide +kernel
theorem dX12_tips_19 : decode cX12_tips 19 = .ok (.iload_n 3, 1) := by decide +kernel
theorem dX12_tips_20 : decode cX12_tips 20 = .ok (.aload_n 0, 1) := by decide +kernel
theorem dX12_tips_21 : decode cX12_tips 21 = .ok (.getfield 271, 3) := by decide +kernel
theorem dX12_tips_24 : decode cX12_tips 24 = .ok (.if_icmp .ge 48, 3) := by decide +kernel
theorem dX12_tips_27 : decode cX12_tips 27 = .ok (.iload_n 2, 1) := by decide +kernel
theorem dX12_tips_28 : decode cX12_tips 28 = .ok (.aload_n 0, 1) := by decide +kernel
theorem dX12_tips_29 : decode cX12_tips 29 = .ok (.iload_n 3, 1) := by decide +kernel
theorem dX12_tips_30 : decode cX12_tips 30 = .ok (.invokevirtual 286, 3) := by decide +kernel
theorem dX12_tips_33 : decode cX12_tips 33 = .ok (.ifCond .eq 30, 3) := by decide +kernel
theorem dX12_tips_36 : decode cX12_tips 36 = .ok (.aload_n 0, 1) := by decide +kernel
theorem dX12_tips_37 : decode cX12_tips 37 = .ok (.getfield 41, 3) := by decide +kernel
theorem dX12_tips_40 : decode cX12_tips 40 = .ok (.iload_n 3, 1) := by decide +kernel
theorem dX12_tips_41 : decode cX12_tips 41 = .ok (.iaload, 1) := by decide +kernel
theorem dX12_tips_42 : decode cX12_tips 42 = .ok (.aload_n 0, 1) := by decide +kernel
theorem dX12_tips_43 : decode cX12_tips 43 = .ok (.getfield 41, 3) := by decide +kernel
theorem dX12_tips_46 : decode cX12_tips 46 = .ok (.bipush 6, 2) := by decide +kernel
theorem dX12_tips_48 : decode cX12_tips 48 = .ok (.aload_n 0, 1) := by decide +kernel
theorem dX12_tips_49 : decode cX12_tips 49 = .ok (.getfield 53, 3) := by decide +kernel
theorem dX12_tips_52 : decode cX12_tips 52 = .ok (.iload_n 3, 1) := by decide +kernel
theorem dX12_tips_53 : decode cX12_tips 53 = .ok (.iaload, 1) := by decide +kernel
theorem dX12_tips_54 : decode cX12_tips 54 = .ok (.iadd, 1) := by decide +kernel
theorem dX12_tips_55 : decode cX12_tips 55 = .ok (.iaload, 1) := by decide +kernel
theorem dX12_tips_56 : decode cX12_tips 56 = .ok (.if_icmp .ne 7, 3) := by decide +kernel
theorem dX12_tips_59 : decode cX12_tips 59 = .ok (.iconst 1, 1) := by decide +kernel
theorem dX12_tips_60 : decode cX12_tips 60 = .ok (.goto 4, 3) := by decide +kernel
theorem dX12_tips_63 : decode cX12_tips 63 = .ok (.iconst 0, 1) := by decide +kernel
theorem dX12_tips_64 : decode cX12_tips 64 = .ok (.iadd, 1) := by decide +kernel
theorem dX12_tips_65 : decode cX12_tips 65 = .ok (.istore_n 2, 1) := by decide +kernel
theorem dX12_tips_66 : decode cX12_tips 66 = .ok (.iinc 3 1, 3) := by decide +kernel
theorem dX12_tips_69 : decode cX12_tips 69 = .ok (.goto (-50), 3) := by decide +kernel
theorem dX12_tips_72 : decode cX12_tips 72 = .ok (.iload_n 2, 1) := by decide +kernel
theorem dX12_tips_73 : decode cX12_tips 73 = .ok (.ireturn, 1) := by decide +kernel
set_option maxRecDepth 20000 in
theorem tm_11_94 : tMet TB0 11 94 = some (0, M_X8_forgeAt) := rfl
set_option maxRecDepth 20000 in
theorem tm_11_275 : tMet TB0 11 275 = some (0, M_X2_bestLoneCouple) := rfl
set_option maxRecDepth 20000 in
theorem tm_11_278 : tMet TB0 11 278 = some (0, M_X2_pairByPower) := rfl
set_option maxRecDepth 20000 in
theorem tm_11_294 : tMet TB0 11 294 = some (0, M_X2_likeLengths) := rfl
set_option maxRecDepth 20000 in
theorem tm_12_292 : tMet TB0 12 292 = some (0, M_X12_hand) := rfl
theorem e_astore_nN {T : mTb} {ad : mA} {M : mM} {dp : Nat} {lim : Nat × Nat} {cal : mC} {Q : mZ} {pc : Nat} {L L' : mL} {h : mH} {z : Nat × Nat} {r : List Value} {i : Fin 4} (hd : decode (mMc M) pc = .ok (.astore_n i, 1)) (hi : (i : Nat) < L.length) (hL : mSet1 L i .null = L') (k : mEv T ad M dp lim cal Q (pc + 1) L' r h z) : mEv T ad M dp lim cal Q pc L (.null :: r) h z := fun X hX => hX _ _ _ _ _ ⟨_, _, hd, rfl, none, r, rfl, hi, by rw [← hL] at k; exact k X hX⟩
theorem e_astoreN {T : mTb} {ad : mA} {M : mM} {dp : Nat} {lim : Nat × Nat} {cal : mC} {Q : mZ} {pc : Nat} {L L' : mL} {h : mH} {z : Nat × Nat} {r : List Value} {i : Nat} (hd : decode (mMc M) pc = .ok (.astore i, 2)) (hi : i < L.length) (hL : mSet1 L i .null = L') (k : mEv T ad M dp lim cal Q (pc + 2) L' r h z) : mEv T ad M dp lim cal Q pc L (.null :: r) h z := fun X hX => hX _ _ _ _ _ ⟨_, _, hd, rfl, none, r, rfl, hi, by rw [← hL] at k; exact k X hX⟩
/-- an image: none, or a Told of its own and the reference's slot beside it -/
def img (B : Nat) (h : mH) (k : Int) : Prop := (mR h (B + 55) k.toNat = none ∧ rI h (B + 187) k = 0) ∨ ∃ (t : Nat) (σ : Sg), mR h (B + 55) k.toNat = some t ∧ tdk h t ∧ (B + 188 ≤ t ∧ t + 54 ≤ mE h) ∧ rI h (B + 187) k = 1 ∧ clsT h t σ ∧ refT h (B + 157) (k + 1) σ
def Inv (B : Nat) (h : mH) : Prop := bk h B ∧ rk h (B + 157) ∧ (B + 188 ≤ mE h) ∧ (∃ σ, clsT h (B + 1) σ ∧ refT h (B + 157) 0 σ) ∧ (∀ k : Int, 0 ≤ k → k < 3 → img B h k) ∧ (∀ (k k' : Int) (t t' : Nat), 0 ≤ k → k < 3 → 0 ≤ k' → k' < 3 → k ≠ k' → mR h (B + 55) k.toNat = some t → mR h (B + 55) k'.toNat = some t' → t + 54 ≤ t' ∨ t' + 54 ≤ t)
/-- what a question may change -/
def qset (B : Nat) (a : Nat) (_i : Nat) : Prop := (B + 56 ≤ a ∧ a < B + 158) ∨ (B + 166 ≤ a ∧ a < B + 187)
theorem Inv_q {B : Nat} {h h1 : mH} (f : frm (qset B) h h1) (I : Inv B h) : Inv B h1 := by
  obtain ⟨i1, i2, i3, ⟨σ, c, r⟩, i5, i6⟩ := I
  have eS := f.1
  refine ⟨bk_q eS i1, rk_q eS i2, by rw [eS.1]; exact i3, ⟨σ, clsT_c f (fun a k x y q => by unfold qset at q; omega) c, refT_c f (fun a k x y q => by unfold qset at q; omega) r⟩, fun k a b => ?_, fun k k' t t' a b c d e p q => ?_⟩
  · rcases i5 k a b with ⟨p, q⟩ | ⟨t, σ', p, q, s, u, v, w⟩
    · exact Or.inl ⟨by rw [eS.2.2]; exact p, (frm_r f (fun z => by unfold qset at z; omega)).trans q⟩
    · exact Or.inr ⟨t, σ', by rw [eS.2.2]; exact p, lk_q eS q, by rw [eS.1]; exact s, (frm_r f (fun z => by unfold qset at z; omega)).trans u, clsT_c f (fun a k x y q => by unfold qset at q; omega) v, refT_c f (fun a k x y q => by unfold qset at q; omega) w⟩
  · rw [eS.2.2] at p q
    exact i6 k k' t t' a b c d e p q
/-- a question: both answer, and the answers are the same -/
theorem opq_I {ad : mA} {B : Nat} {MX MM : mM} {A : List Value} (P : Sg → Int → Prop) (hu : ∀ σ r r', P σ r → P σ r' → r = r') (hx : ∀ (h : mH) (σ : Sg), bk h B → clsT h (B + 1) σ → ∀ Q : mQ, (∀ r h1, frm (fun a _ => B + 56 ≤ a ∧ a < B + 157) h h1 → P σ r → Q (some (.int (zI r))) h1) → mCal TB0 ad 799 MX (.ref B :: A) h 0 0 Q) (hm : ∀ (h : mH) (σ : Sg), rk h (B + 157) → refT h (B + 157) 0 σ → ∀ Q : mQ, (∀ r h1, frm (fun a _ => a = B + 157 ∨ (B + 157 + 9 ≤ a ∧ a < B + 157 + 30)) h h1 → P σ r → Q (some (.int (zI r))) h1) → mCal TB0 ad 799 MM (.ref (B + 157) :: A) h 0 0 Q) : opI ad B (Inv B) MX MM A := by
  intro h I
  have I0 := I
  obtain ⟨i1, i2, i3, ⟨σ, c, r⟩, i5, i6⟩ := I
  refine ⟨0, 0, by omega, by omega, hx h σ i1 c _ (fun v h1 f p => ?_)⟩
  have i2' := rk_q f.1 i2
  have r' := refT_c f (fun a k x y q => by omega) r
  refine ⟨_, rfl, rk_s i2', hm h1 σ i2' r' _ (fun v' h2 f' p' => ?_)⟩
  rw [hu σ v' v p' p]
  exact ⟨rfl, Inv_q (frm_t (frm_m f (fun a k q => by unfold qset; omega)) (frm_m f' (fun a k q => by unfold qset; omega))) I0⟩
/-- a question about a forge -/
def ansF (f : Int) (none_ : Int) (R : (Int → Int) → Int → Prop) (σ : Sg) (r : Int) : Prop := (0 ≤ f ∧ f < cn σ 0 ∧ R (sG σ f) r) ∨ (¬ (0 ≤ f ∧ f < cn σ 0) ∧ r = none_)
theorem ansF_u {f n : Int} {R : (Int → Int) → Int → Prop} (hR : ∀ g r r', R g r → R g r' → r = r') (σ : Sg) (r r' : Int) (a : ansF f n R σ r) (b : ansF f n R σ r') : r = r' := by
  rcases a with ⟨a1, a2, a3⟩ | ⟨a1, a2⟩
  · rcases b with ⟨b1, b2, b3⟩ | ⟨b1, b2⟩
    · exact hR _ _ _ a3 b3
    · exact absurd ⟨a1, a2⟩ b1
  · rcases b with ⟨b1, b2, b3⟩ | ⟨b1, b2⟩
    · exact absurd ⟨b1, b2⟩ a1
    · rw [a2, b2]
theorem in_of (a : Int32) : -2147483648 ≤ a.toInt ∧ a.toInt < 2147483648 := inI_toInt a
set_option maxHeartbeats 400000 in
theorem zp_X11_tips_in {ad : mA} {dd : Nat} {h : mH} {Q : mQ} {x : Nat} {σ : Sg} (hk : bk h x) (HX : clsT h (x + 1) σ)  (f : Int) (f_r : -2147483648 ≤ f ∧ f < 2147483648) (p1 : 0 ≤ f) (p2 : f < cn σ 0) (kq : Q (some (.int (zI (sumZ (fun d => bZ (tipP (sG σ f) d)) (nd (sG σ f)).toNat)))) h) : mCal TB0 ad (dd + 4) M_X11_tips [.ref x, .int (zI f)] h 0 0 Q := by
  refine ⟨Nat.le_of_ble_eq_true rfl, ?_⟩
  show mEv TB0 ad M_X11_tips (dd + 4) (0, 0) (mCal TB0 ad (dd + 3)) (fun v h' z => z.1 = 0 ∧ Q v h') 0 [some (.ref x), some (.int (zI f)), none] [] h (0, 0)
  have w1 := wS_n (clsT_w HX)
  refine e_aload_n dX11_tips_0 rfl ?_
  refine e_get (.ref (x + 1)) dX11_tips_1 tf_11_10 (congrArg Prod.fst (bk_s0 hk)) (congrArg va_rf (bk_r0_0 hk)) ?_
  refine e_iload_n dX11_tips_4 rfl ?_
  refine e_callV [.int _] dX11_tips_5 tm_11_94 rfl (Nat.le_of_ble_eq_true rfl) (congrArg Prod.fst (bk_s1 hk)) (Nat.le_of_ble_eq_true rfl) (Nat.le_refl _) (Nat.le_refl _) rfl (zp_X8_forgeAt_in (bk_td1 hk) HX f ⟨by omega, by omega⟩ (by omega) (by omega) ?_)
  have k1 := fAt_k (bk_td1 hk) f
  have H2 := clsT_F HX (show 0 ≤ f by omega) (by omega)
  have y3 := fAt_b (x + 1) f
  refine e_astore_n (L' := [_, _, _]) dX11_tips_8 (Nat.le_of_ble_eq_true rfl) rfl ?_
  refine e_aload_n dX11_tips_9 rfl ?_
  refine e_ifnonnull 17 dX11_tips_10 rfl ?_
  refine e_aload_n dX11_tips_17 rfl ?_
  refine e_callV [] dX11_tips_18 tm_11_294 rfl (Nat.le_of_ble_eq_true rfl) (congrArg Prod.fst (fg_s0 k1)) (Nat.le_of_ble_eq_true rfl) (Nat.le_refl _) (Nat.le_refl _) rfl (zp_X2_likeLengths k1 H2 ?_)
  refine z_iret dX11_tips_21 rfl ⟨rfl, ?_⟩
  refine z_q kq ?_
  rfl
set_option maxHeartbeats 400000 in
theorem zp_X11_tips_out {ad : mA} {dd : Nat} {h : mH} {Q : mQ} {x : Nat} {σ : Sg} (hk : bk h x) (HX : clsT h (x + 1) σ)  (f : Int) (f_r : -2147483648 ≤ f ∧ f < 2147483648) (p1 : ¬ (0 ≤ f ∧ f < cn σ 0)) (kq : Q (some (.int (zI (-1)))) h) : mCal TB0 ad (dd + 4) M_X11_tips [.ref x, .int (zI f)] h 0 0 Q := by
  refine ⟨Nat.le_of_ble_eq_true rfl, ?_⟩
  show mEv TB0 ad M_X11_tips (dd + 4) (0, 0) (mCal TB0 ad (dd + 3)) (fun v h' z => z.1 = 0 ∧ Q v h') 0 [some (.ref x), some (.int (zI f)), none] [] h (0, 0)
  have w1 := wS_n (clsT_w HX)
  refine e_aload_n dX11_tips_0 rfl ?_
  refine e_get (.ref (x + 1)) dX11_tips_1 tf_11_10 (congrArg Prod.fst (bk_s0 hk)) (congrArg va_rf (bk_r0_0 hk)) ?_
  refine e_iload_n dX11_tips_4 rfl ?_
  refine e_callV [.int _] dX11_tips_5 tm_11_94 rfl (Nat.le_of_ble_eq_true rfl) (congrArg Prod.fst (bk_s1 hk)) (Nat.le_of_ble_eq_true rfl) (Nat.le_refl _) (Nat.le_refl _) rfl (zp_X8_forgeAt_out (bk_td1 hk) HX f ⟨by omega, by omega⟩ (by omega) ?_)
  refine e_astore_nN (L' := [_, _, _]) dX11_tips_8 (Nat.le_of_ble_eq_true rfl) rfl ?_
  refine e_aload_nN dX11_tips_9 rfl ?_
  refine e_ifnonnullN 17 dX11_tips_10 rfl ?_
  refine z_iconst (-1) dX11_tips_13 rfl ?_
  refine e_goto 21 dX11_tips_14 rfl ?_
  refine z_iret dX11_tips_21 rfl ⟨rfl, ?_⟩
  refine z_q kq ?_
  rfl
set_option maxHeartbeats 400000 in
theorem zp_X12_tips_in {ad : mA} {dd : Nat} {h : mH} {Q : mQ} {m : Nat} {σ : Sg} (hk : rk h m) (HR : refT h m 0 σ)  (f : Int) (f_r : -2147483648 ≤ f ∧ f < 2147483648) (p1 : 0 ≤ f) (p2 : f < cn σ 0) (kq : ∀ h1, frm (fun a i => a = m ∨ (m + 9 ≤ a ∧ a < m + 30)) h h1 → Q (some (.int (zI (sumZ (fun d => bZ (tipP (sG σ f) d)) (nd (sG σ f)).toNat)))) h1) : mCal TB0 ad (dd + 4) M_X12_tips [.ref m, .int (zI f)] h 0 0 Q := by
  refine ⟨Nat.le_of_ble_eq_true rfl, ?_⟩
  show mEv TB0 ad M_X12_tips (dd + 4) (0, 0) (mCal TB0 ad (dd + 3)) (fun v h' z => z.1 = 0 ∧ Q v h') 0 [some (.ref m), some (.int (zI f)), none, none] [] h (0, 0)
  have FR0 : frm (fun a i => a = m ∨ (m + 9 ≤ a ∧ a < m + 30)) h h := frm_0 h
  have w1 := wS_n (refT_w HR)
  refine e_aload_n dX12_tips_0 rfl ?_
  refine z_iconst (0) dX12_tips_1 rfl ?_
  refine z_put dX12_tips_2 tf_12_103 (rk_s hk) rfl (Or.inl rfl) (fun h1 e2 => ?_)
  have f3 := frm_1 e2
  have k4 := rk_q (frm_s f3) hk
  have H5 := refT_c f3 (fun a k q1 q2 => by omega) HR
  have FR6 := frm_t FR0 (frm_m (S' := (fun a i => a = m ∨ (m + 9 ≤ a ∧ a < m + 30))) f3 (fun a k q => by omega))
  refine e_aload_n dX12_tips_5 rfl ?_
  refine e_iload_n dX12_tips_6 rfl ?_
  refine e_callV [.int _] dX12_tips_7 tm_12_292 rfl (Nat.le_of_ble_eq_true rfl) (rk_s k4) (Nat.le_of_ble_eq_true rfl) (Nat.le_refl _) (Nat.le_refl _) rfl (zp_X12_hand_in k4 H5 f ⟨by omega, by omega⟩ (by omega) (by omega) (fun  h7 f8 p9 p10 p11 p12 => ?_))
  have k13 := rk_q (frm_s f8) k4
  have H14 := refT_c f8 (fun a k q1 q2 => by omega) H5
  have FR15 := frm_t FR6 (frm_m (S' := (fun a i => a = m ∨ (m + 9 ≤ a ∧ a < m + 30))) f8 (fun a k q => by omega))
  have w5 := rB_n p9
  have w6 := rC_n p11
  refine z_ifb_ne 15 dX12_tips_10 rfl (fun c16 => ?_) (fun c16 => ?_)
  · skip
    refine z_iconst (0) dX12_tips_15 rfl ?_
    refine e_istore_n (L' := [_, _, _, _]) dX12_tips_16 (Nat.le_of_ble_eq_true rfl) rfl ?_
    refine z_iconst (0) dX12_tips_17 rfl ?_
    refine e_istore_n (L' := [_, _, _, _]) dX12_tips_18 (Nat.le_of_ble_eq_true rfl) rfl ?_
    have lp17 : ∀ (n17 : Nat) (n i : Int), (nd (sG σ f) - i).toNat = n17 → (0 ≤ i) → (i ≤ nd (sG σ f)) → (n = sumZ (fun d => bZ (tipP (sG σ f) d)) i.toNat) → mEv TB0 ad M_X12_tips (dd + 4) (0, 0) (mCal TB0 ad (dd + 3)) (fun v h' z => z.1 = 0 ∧ Q v h') 19 [some (.ref m), some (.int (zI f)), some (.int (zI n)), some (.int (zI i))] [] h7 (0, 0) := by
      intro n17
      induction n17 using Nat.strongRecOn with
      | ind n17 ih17 =>
      intro n i  hn17  I1 I2 I3
      refine e_iload_n dX12_tips_19 rfl ?_
      refine e_aload_n dX12_tips_20 rfl ?_
      refine z_get (nd (sG σ f)) dX12_tips_21 tf_12_271 (rk_s k13) (Or.inl rfl) (rB_nd p9) ?_
      have y18 := rB_n p9
      refine z_icmp_ge 72 dX12_tips_24 rfl ⟨by omega, by omega⟩ ⟨by omega, by omega⟩ (fun c19 => ?_) (fun c19 => ?_)
      · skip
        refine e_iload_n dX12_tips_72 rfl ?_
        refine z_iret dX12_tips_73 rfl ⟨rfl, ?_⟩
        refine z_q (kq _ FR15) ?_
        rw [I3, show i = nd (sG σ f) by omega]
      · skip
        refine e_iload_n dX12_tips_27 rfl ?_
        have u1 := upv_in (g := (sG σ f)) (d := i) (by omega) (by omega)
        refine e_aload_n dX12_tips_28 rfl ?_
        refine e_iload_n dX12_tips_29 rfl ?_
        refine e_callV [.int _] dX12_tips_30 tm_12_286 rfl (Nat.le_of_ble_eq_true rfl) (rk_s k13) (Nat.le_of_ble_eq_true rfl) (Nat.le_refl _) (Nat.le_refl _) rfl (zp_X12_isPaired k13 p10 i ⟨by omega, by omega⟩ (by omega) (by omega) ?_)
        have y20 := wM_d (rM_w p10) (show 0 ≤ i by omega) (by omega)
        refine z_ifb_eq 63 dX12_tips_33 rfl (fun c21 => ?_) (fun c21 => ?_)
        · skip
          refine z_iconst (0) dX12_tips_63 rfl ?_
          refine z_iadd dX12_tips_64 ?_
          refine e_istore_n (L' := [_, _, _, _]) dX12_tips_65 (Nat.le_of_ble_eq_true rfl) rfl ?_
          refine z_iinc (L' := [_, _, _, _]) dX12_tips_66 rfl rfl ?_
          refine e_goto 19 dX12_tips_69 rfl ?_
          exact ih17 _ (by omega) (n + 0) (i + 1)  rfl  (by omega) (by omega) (by rw [sumZ_s (by omega)]; first | (rw [bZ_1 ⟨by omega, by rw [u1]; omega⟩]; omega) | (rw [bZ_0 (fun q => by obtain ⟨q1, q2⟩ := q; rw [u1] at q2; omega)]; omega))
        · skip
          refine e_aload_n dX12_tips_36 rfl ?_
          refine e_get (.ref (m + 11)) dX12_tips_37 tf_12_41 (rk_s k13) (congrArg va_rf (rk_r11 k13)) ?_
          refine e_iload_n dX12_tips_40 rfl ?_
          refine z_ild (dl (sG σ f) i) dX12_tips_41 (rk_a11 k13) (by decide) (by omega) (by omega) (rB_dl p9 (by omega) (by omega)) ?_
          have y22 := wB_d (rB_w p9) (show 0 ≤ i by omega) (by omega)
          refine e_aload_n dX12_tips_42 rfl ?_
          refine e_get (.ref (m + 11)) dX12_tips_43 tf_12_41 (rk_s k13) (congrArg va_rf (rk_r11 k13)) ?_
          refine z_bipush (6) dX12_tips_46 rfl ?_
          refine e_aload_n dX12_tips_48 rfl ?_
          refine e_get (.ref (m + 15)) dX12_tips_49 tf_12_53 (rk_s k13) (congrArg va_rf (rk_r15 k13)) ?_
          refine e_iload_n dX12_tips_52 rfl ?_
          refine z_ild (dm (sG σ f) i) dX12_tips_53 (rk_a15 k13) (by decide) (by omega) (by omega) (rM_d p10 (by omega) (by omega)) ?_
          have y23 := wM_d (rM_w p10) (show 0 ≤ i by omega) (by omega)
          refine z_iadd dX12_tips_54 ?_
          refine z_ild (ul (sG σ f) (dm (sG σ f) i)) dX12_tips_55 (rk_a11 k13) (by decide) (by omega) (by omega) (rB_ul p9 (by omega) (by omega)) ?_
          have y24 := wB_u (rB_w p9) (show 0 ≤ (dm (sG σ f) i) by omega) (by omega)
          refine z_icmp_ne 63 dX12_tips_56 rfl ⟨by omega, by omega⟩ ⟨by omega, by omega⟩ (fun c25 => ?_) (fun c25 => ?_)
          · skip
            refine z_iconst (0) dX12_tips_63 rfl ?_
            refine z_iadd dX12_tips_64 ?_
            refine e_istore_n (L' := [_, _, _, _]) dX12_tips_65 (Nat.le_of_ble_eq_true rfl) rfl ?_
            refine z_iinc (L' := [_, _, _, _]) dX12_tips_66 rfl rfl ?_
            refine e_goto 19 dX12_tips_69 rfl ?_
            exact ih17 _ (by omega) (n + 0) (i + 1)  rfl  (by omega) (by omega) (by rw [sumZ_s (by omega)]; first | (rw [bZ_1 ⟨by omega, by rw [u1]; omega⟩]; omega) | (rw [bZ_0 (fun q => by obtain ⟨q1, q2⟩ := q; rw [u1] at q2; omega)]; omega))
          · skip
            refine z_iconst (1) dX12_tips_59 rfl ?_
            refine e_goto 64 dX12_tips_60 rfl ?_
            refine z_iadd dX12_tips_64 ?_
            refine e_istore_n (L' := [_, _, _, _]) dX12_tips_65 (Nat.le_of_ble_eq_true rfl) rfl ?_
            refine z_iinc (L' := [_, _, _, _]) dX12_tips_66 rfl rfl ?_
            refine e_goto 19 dX12_tips_69 rfl ?_
            exact ih17 _ (by omega) (n + 1) (i + 1)  rfl  (by omega) (by omega) (by rw [sumZ_s (by omega)]; first | (rw [bZ_1 ⟨by omega, by rw [u1]; omega⟩]; omega) | (rw [bZ_0 (fun q => by obtain ⟨q1, q2⟩ := q; rw [u1] at q2; omega)]; omega))
    exact lp17 _ 0 0  rfl  (by omega) (by omega) rfl
  · exact absurd trivial c16
set_option maxHeartbeats 400000 in
theorem zp_X12_tips_out {ad : mA} {dd : Nat} {h : mH} {Q : mQ} {m : Nat} {σ : Sg} (hk : rk h m) (HR : refT h m 0 σ)  (f : Int) (f_r : -2147483648 ≤ f ∧ f < 2147483648) (p1 : ¬ (0 ≤ f ∧ f < cn σ 0)) (kq : ∀ h1, frm (fun a i => a = m ∨ (m + 9 ≤ a ∧ a < m + 30)) h h1 → Q (some (.int (zI (-1)))) h1) : mCal TB0 ad (dd + 4) M_X12_tips [.ref m, .int (zI f)] h 0 0 Q := by
  refine ⟨Nat.le_of_ble_eq_true rfl, ?_⟩
  show mEv TB0 ad M_X12_tips (dd + 4) (0, 0) (mCal TB0 ad (dd + 3)) (fun v h' z => z.1 = 0 ∧ Q v h') 0 [some (.ref m), some (.int (zI f)), none, none] [] h (0, 0)
  have FR0 : frm (fun a i => a = m ∨ (m + 9 ≤ a ∧ a < m + 30)) h h := frm_0 h
  have w1 := wS_n (refT_w HR)
  refine e_aload_n dX12_tips_0 rfl ?_
  refine z_iconst (0) dX12_tips_1 rfl ?_
  refine z_put dX12_tips_2 tf_12_103 (rk_s hk) rfl (Or.inl rfl) (fun h1 e2 => ?_)
  have f3 := frm_1 e2
  have k4 := rk_q (frm_s f3) hk
  have H5 := refT_c f3 (fun a k q1 q2 => by omega) HR
  have FR6 := frm_t FR0 (frm_m (S' := (fun a i => a = m ∨ (m + 9 ≤ a ∧ a < m + 30))) f3 (fun a k q => by omega))
  refine e_aload_n dX12_tips_5 rfl ?_
  refine e_iload_n dX12_tips_6 rfl ?_
  refine e_callV [.int _] dX12_tips_7 tm_12_292 rfl (Nat.le_of_ble_eq_true rfl) (rk_s k4) (Nat.le_of_ble_eq_true rfl) (Nat.le_refl _) (Nat.le_refl _) rfl (zp_X12_hand_out k4 H5 f ⟨by omega, by omega⟩ (by omega) ?_)
  refine z_ifb_ne 15 dX12_tips_10 rfl (fun c7 => ?_) (fun c7 => ?_)
  · exfalso; exact c7
  · skip
    refine z_iconst (-1) dX12_tips_13 rfl ?_
    refine z_iret dX12_tips_14 rfl ⟨rfl, ?_⟩
    exact kq _ FR6
set_option maxHeartbeats 400000 in
theorem zp_X11_lone_in {ad : mA} {dd : Nat} {h : mH} {Q : mQ} {x : Nat} {σ : Sg} (hk : bk h x) (HX : clsT h (x + 1) σ)  (f : Int) (f_r : -2147483648 ≤ f ∧ f < 2147483648) (p1 : 0 ≤ f) (p2 : f < cn σ 0) (kq : ∀ v : Int, (fmax (lonC (sG σ f)) (lonS (sG σ f)) 36 v) → Q (some (.int (zI v))) h) : mCal TB0 ad (dd + 4) M_X11_lone [.ref x, .int (zI f)] h 0 0 Q := by
  refine ⟨Nat.le_of_ble_eq_true rfl, ?_⟩
  show mEv TB0 ad M_X11_lone (dd + 4) (0, 0) (mCal TB0 ad (dd + 3)) (fun v h' z => z.1 = 0 ∧ Q v h') 0 [some (.ref x), some (.int (zI f)), none] [] h (0, 0)
  have w1 := wS_n (clsT_w HX)
  refine e_aload_n dX11_lone_0 rfl ?_
  refine e_get (.ref (x + 1)) dX11_lone_1 tf_11_10 (congrArg Prod.fst (bk_s0 hk)) (congrArg va_rf (bk_r0_0 hk)) ?_
  refine e_iload_n dX11_lone_4 rfl ?_
  refine e_callV [.int _] dX11_lone_5 tm_11_94 rfl (Nat.le_of_ble_eq_true rfl) (congrArg Prod.fst (bk_s1 hk)) (Nat.le_of_ble_eq_true rfl) (Nat.le_refl _) (Nat.le_refl _) rfl (zp_X8_forgeAt_in (bk_td1 hk) HX f ⟨by omega, by omega⟩ (by omega) (by omega) ?_)
  have k1 := fAt_k (bk_td1 hk) f
  have H2 := clsT_F HX (show 0 ≤ f by omega) (by omega)
  have y3 := fAt_b (x + 1) f
  refine e_astore_n (L' := [_, _, _]) dX11_lone_8 (Nat.le_of_ble_eq_true rfl) rfl ?_
  refine e_aload_n dX11_lone_9 rfl ?_
  refine e_ifnonnull 17 dX11_lone_10 rfl ?_
  refine e_aload_n dX11_lone_17 rfl ?_
  refine e_callV [] dX11_lone_18 tm_11_275 rfl (Nat.le_of_ble_eq_true rfl) (congrArg Prod.fst (fg_s0 k1)) (Nat.le_of_ble_eq_true rfl) (Nat.le_refl _) (Nat.le_refl _) rfl (zp_X2_bestLoneCouple k1 H2 (fun v4 p5 => ?_))
  refine z_iret dX11_lone_21 rfl ⟨rfl, ?_⟩
  refine kq _ ?_
  assumption
set_option maxHeartbeats 400000 in
theorem zp_X11_lone_out {ad : mA} {dd : Nat} {h : mH} {Q : mQ} {x : Nat} {σ : Sg} (hk : bk h x) (HX : clsT h (x + 1) σ)  (f : Int) (f_r : -2147483648 ≤ f ∧ f < 2147483648) (p1 : ¬ (0 ≤ f ∧ f < cn σ 0)) (kq : Q (some (.int (zI (-1)))) h) : mCal TB0 ad (dd + 4) M_X11_lone [.ref x, .int (zI f)] h 0 0 Q := by
  refine ⟨Nat.le_of_ble_eq_true rfl, ?_⟩
  show mEv TB0 ad M_X11_lone (dd + 4) (0, 0) (mCal TB0 ad (dd + 3)) (fun v h' z => z.1 = 0 ∧ Q v h') 0 [some (.ref x), some (.int (zI f)), none] [] h (0, 0)
  have w1 := wS_n (clsT_w HX)
  refine e_aload_n dX11_lone_0 rfl ?_
  refine e_get (.ref (x + 1)) dX11_lone_1 tf_11_10 (congrArg Prod.fst (bk_s0 hk)) (congrArg va_rf (bk_r0_0 hk)) ?_
  refine e_iload_n dX11_lone_4 rfl ?_
  refine e_callV [.int _] dX11_lone_5 tm_11_94 rfl (Nat.le_of_ble_eq_true rfl) (congrArg Prod.fst (bk_s1 hk)) (Nat.le_of_ble_eq_true rfl) (Nat.le_refl _) (Nat.le_refl _) rfl (zp_X8_forgeAt_out (bk_td1 hk) HX f ⟨by omega, by omega⟩ (by omega) ?_)
  refine e_astore_nN (L' := [_, _, _]) dX11_lone_8 (Nat.le_of_ble_eq_true rfl) rfl ?_
  refine e_aload_nN dX11_lone_9 rfl ?_
  refine e_ifnonnullN 17 dX11_lone_10 rfl ?_
  refine z_iconst (-1) dX11_lone_13 rfl ?_
  refine e_goto 21 dX11_lone_14 rfl ?_
  refine z_iret dX11_lone_21 rfl ⟨rfl, ?_⟩
  refine z_q kq ?_
  rfl
set_option maxHeartbeats 400000 in
theorem zp_X12_lone_in {ad : mA} {dd : Nat} {h : mH} {Q : mQ} {m : Nat} {σ : Sg} (hk : rk h m) (HR : refT h m 0 σ)  (f : Int) (f_r : -2147483648 ≤ f ∧ f < 2147483648) (p1 : 0 ≤ f) (p2 : f < cn σ 0) (kq : ∀ v : Int, (fmax (lonC (sG σ f)) (lonS (sG σ f)) 36 v) → ∀ h1, frm (fun a i => a = m ∨ (m + 9 ≤ a ∧ a < m + 30)) h h1 → Q (some (.int (zI v))) h1) : mCal TB0 ad (dd + 4) M_X12_lone [.ref m, .int (zI f)] h 0 0 Q := by
  refine ⟨Nat.le_of_ble_eq_true rfl, ?_⟩
  show mEv TB0 ad M_X12_lone (dd + 4) (0, 0) (mCal TB0 ad (dd + 3)) (fun v h' z => z.1 = 0 ∧ Q v h') 0 [some (.ref m), some (.int (zI f)), none, none, none] [] h (0, 0)
  have FR0 : frm (fun a i => a = m ∨ (m + 9 ≤ a ∧ a < m + 30)) h h := frm_0 h
  have w1 := wS_n (refT_w HR)
  refine e_aload_n dX12_lone_0 rfl ?_
  refine z_iconst (0) dX12_lone_1 rfl ?_
  refine z_put dX12_lone_2 tf_12_103 (rk_s hk) rfl (Or.inl rfl) (fun h1 e2 => ?_)
  have f3 := frm_1 e2
  have k4 := rk_q (frm_s f3) hk
  have H5 := refT_c f3 (fun a k q1 q2 => by omega) HR
  have FR6 := frm_t FR0 (frm_m (S' := (fun a i => a = m ∨ (m + 9 ≤ a ∧ a < m + 30))) f3 (fun a k q => by omega))
  refine e_aload_n dX12_lone_5 rfl ?_
  refine e_iload_n dX12_lone_6 rfl ?_
  refine e_callV [.int _] dX12_lone_7 tm_12_292 rfl (Nat.le_of_ble_eq_true rfl) (rk_s k4) (Nat.le_of_ble_eq_true rfl) (Nat.le_refl _) (Nat.le_refl _) rfl (zp_X12_hand_in k4 H5 f ⟨by omega, by omega⟩ (by omega) (by omega) (fun  h7 f8 p9 p10 p11 p12 => ?_))
  have k13 := rk_q (frm_s f8) k4
  have H14 := refT_c f8 (fun a k q1 q2 => by omega) H5
  have FR15 := frm_t FR6 (frm_m (S' := (fun a i => a = m ∨ (m + 9 ≤ a ∧ a < m + 30))) f8 (fun a k q => by omega))
  have w5 := rB_n p9
  have w6 := rC_n p11
  refine z_ifb_ne 15 dX12_lone_10 rfl (fun c16 => ?_) (fun c16 => ?_)
  · skip
    refine z_iconst (-1) dX12_lone_15 rfl ?_
    refine e_istore_n (L' := [_, _, _, _, _]) dX12_lone_16 (Nat.le_of_ble_eq_true rfl) rfl ?_
    refine z_iconst (0) dX12_lone_17 rfl ?_
    refine e_istore_n (L' := [_, _, _, _, _]) dX12_lone_18 (Nat.le_of_ble_eq_true rfl) rfl ?_
    have lp17 : ∀ (n17 : Nat) (b i : Int), (36 - i).toNat = n17 → (0 ≤ i) → (i ≤ 36) → (fmax (lonC (sG σ f)) (lonS (sG σ f)) i b) → mEv TB0 ad M_X12_lone (dd + 4) (0, 0) (mCal TB0 ad (dd + 3)) (fun v h' z => z.1 = 0 ∧ Q v h') 19 [some (.ref m), some (.int (zI f)), some (.int (zI b)), some (.int (zI i)), none] [] h7 (0, 0) := by
      intro n17
      induction n17 using Nat.strongRecOn with
      | ind n17 ih17 =>
      intro b i  hn17  I1 I2 I3
      refine e_iload_n dX12_lone_19 rfl ?_
      refine z_bipush (36) dX12_lone_20 rfl ?_
      refine z_icmp_ge 130 dX12_lone_22 rfl ⟨by omega, by omega⟩ ⟨by omega, by omega⟩ (fun c18 => ?_) (fun c18 => ?_)
      · skip
        refine e_iload_n dX12_lone_130 rfl ?_
        refine z_iret dX12_lone_131 rfl ⟨rfl, ?_⟩
        refine kq _ ?_ _ FR15
        rw [show (36 : Int) = i by omega]; exact I3
      · skip
        have qc := fmax_b I3
        refine e_iload_n dX12_lone_25 rfl ?_
        refine z_bipush (6) dX12_lone_26 rfl ?_
        refine z_idiv dX12_lone_28 (by omega) (by omega) (by omega) (by omega) ?_
        refine e_aload_n dX12_lone_29 rfl ?_
        refine z_get (nd (sG σ f)) dX12_lone_30 tf_12_271 (rk_s k13) (Or.inl rfl) (rB_nd p9) ?_
        have y19 := rB_n p9
        refine z_icmp_ge 78 dX12_lone_33 rfl ⟨by omega, by omega⟩ ⟨by omega, by omega⟩ (fun c20 => ?_) (fun c20 => ?_)
        · skip
          refine z_iconst (0) dX12_lone_78 rfl ?_
          refine e_istore (L' := [_, _, _, _, _]) dX12_lone_79 (Nat.le_of_ble_eq_true rfl) rfl ?_
          refine e_iload dX12_lone_81 rfl ?_
          refine z_if_eq 122 dX12_lone_83 rfl ⟨by omega, by omega⟩ (fun c21 => ?_) (fun c21 => ?_)
          · skip
            refine e_iload_n dX12_lone_122 rfl ?_
            refine e_istore_n (L' := [_, _, _, _, _]) dX12_lone_123 (Nat.le_of_ble_eq_true rfl) rfl ?_
            refine z_iinc (L' := [_, _, _, _, _]) dX12_lone_124 rfl rfl ?_
            refine e_goto 19 dX12_lone_127 rfl ?_
            exact mEv_wk (by exact ⟨Or.inr rfl, Or.inr rfl, Or.inr rfl, Or.inr rfl, Or.inl rfl, trivial⟩) (ih17 _ (by omega) b (i + 1)  rfl  (by omega) (by omega) (by first | exact fmax_no I3 (by intro q; obtain ⟨⟨q1, q2⟩, q3, q4⟩ := q; omega) | exact fmax_new I3 (by omega) ⟨by omega, by omega, by omega⟩ (by unfold lonS; omega) | exact fmax_keep I3 (by omega) (by unfold lonS; omega)))
          · exfalso; omega
        · skip
          refine e_iload_n dX12_lone_36 rfl ?_
          refine z_bipush (6) dX12_lone_37 rfl ?_
          refine z_irem dX12_lone_39 (by omega) (by omega) (by omega) (by omega) ?_
          refine e_aload_n dX12_lone_40 rfl ?_
          refine z_get (nu (sG σ f)) dX12_lone_41 tf_12_274 (rk_s k13) (Or.inl rfl) (rB_nu p9) ?_
          have y22 := rB_n p9
          refine z_icmp_ge 78 dX12_lone_44 rfl ⟨by omega, by omega⟩ ⟨by omega, by omega⟩ (fun c23 => ?_) (fun c23 => ?_)
          · skip
            refine z_iconst (0) dX12_lone_78 rfl ?_
            refine e_istore (L' := [_, _, _, _, _]) dX12_lone_79 (Nat.le_of_ble_eq_true rfl) rfl ?_
            refine e_iload dX12_lone_81 rfl ?_
            refine z_if_eq 122 dX12_lone_83 rfl ⟨by omega, by omega⟩ (fun c24 => ?_) (fun c24 => ?_)
            · skip
              refine e_iload_n dX12_lone_122 rfl ?_
              refine e_istore_n (L' := [_, _, _, _, _]) dX12_lone_123 (Nat.le_of_ble_eq_true rfl) rfl ?_
              refine z_iinc (L' := [_, _, _, _, _]) dX12_lone_124 rfl rfl ?_
              refine e_goto 19 dX12_lone_127 rfl ?_
              exact mEv_wk (by exact ⟨Or.inr rfl, Or.inr rfl, Or.inr rfl, Or.inr rfl, Or.inl rfl, trivial⟩) (ih17 _ (by omega) b (i + 1)  rfl  (by omega) (by omega) (by first | exact fmax_no I3 (by intro q; obtain ⟨⟨q1, q2⟩, q3, q4⟩ := q; omega) | exact fmax_new I3 (by omega) ⟨by omega, by omega, by omega⟩ (by unfold lonS; omega) | exact fmax_keep I3 (by omega) (by unfold lonS; omega)))
            · exfalso; omega
          · skip
            refine e_aload_n dX12_lone_47 rfl ?_
            refine e_iload_n dX12_lone_48 rfl ?_
            refine z_bipush (6) dX12_lone_49 rfl ?_
            refine z_idiv dX12_lone_51 (by omega) (by omega) (by omega) (by omega) ?_
            refine e_callV [.int _] dX12_lone_52 tm_12_286 rfl (Nat.le_of_ble_eq_true rfl) (rk_s k13) (Nat.le_of_ble_eq_true rfl) (Nat.le_refl _) (Nat.le_refl _) rfl (zp_X12_isPaired k13 p10 (i / 6) ⟨by omega, by omega⟩ (by omega) (by omega) ?_)
            have y25 := wM_d (rM_w p10) (show 0 ≤ (i / 6) by omega) (by omega)
            refine z_ifb_ne 78 dX12_lone_55 rfl (fun c26 => ?_) (fun c26 => ?_)
            · skip
              refine z_iconst (0) dX12_lone_78 rfl ?_
              refine e_istore (L' := [_, _, _, _, _]) dX12_lone_79 (Nat.le_of_ble_eq_true rfl) rfl ?_
              refine e_iload dX12_lone_81 rfl ?_
              refine z_if_eq 122 dX12_lone_83 rfl ⟨by omega, by omega⟩ (fun c27 => ?_) (fun c27 => ?_)
              · skip
                refine e_iload_n dX12_lone_122 rfl ?_
                refine e_istore_n (L' := [_, _, _, _, _]) dX12_lone_123 (Nat.le_of_ble_eq_true rfl) rfl ?_
                refine z_iinc (L' := [_, _, _, _, _]) dX12_lone_124 rfl rfl ?_
                refine e_goto 19 dX12_lone_127 rfl ?_
                exact mEv_wk (by exact ⟨Or.inr rfl, Or.inr rfl, Or.inr rfl, Or.inr rfl, Or.inl rfl, trivial⟩) (ih17 _ (by omega) b (i + 1)  rfl  (by omega) (by omega) (by first | exact fmax_no I3 (by intro q; obtain ⟨⟨q1, q2⟩, q3, q4⟩ := q; omega) | exact fmax_new I3 (by omega) ⟨by omega, by omega, by omega⟩ (by unfold lonS; omega) | exact fmax_keep I3 (by omega) (by unfold lonS; omega)))
              · exfalso; omega
            · skip
              refine e_aload_n dX12_lone_58 rfl ?_
              refine e_get (.ref (m + 15)) dX12_lone_59 tf_12_53 (rk_s k13) (congrArg va_rf (rk_r15 k13)) ?_
              refine z_bipush (6) dX12_lone_62 rfl ?_
              refine e_iload_n dX12_lone_64 rfl ?_
              refine z_bipush (6) dX12_lone_65 rfl ?_
              refine z_irem dX12_lone_67 (by omega) (by omega) (by omega) (by omega) ?_
              refine z_iadd dX12_lone_68 ?_
              refine z_ild (um (sG σ f) (i % 6)) dX12_lone_69 (rk_a15 k13) (by decide) (by omega) (by omega) (rM_u p10 (by omega) (by omega)) ?_
              have y28 := wM_u (rM_w p10) (show 0 ≤ (i % 6) by omega) (by omega)
              refine z_iconst (-1) dX12_lone_70 rfl ?_
              refine z_icmp_ne 78 dX12_lone_71 rfl ⟨by omega, by omega⟩ ⟨by omega, by omega⟩ (fun c29 => ?_) (fun c29 => ?_)
              · skip
                refine z_iconst (0) dX12_lone_78 rfl ?_
                refine e_istore (L' := [_, _, _, _, _]) dX12_lone_79 (Nat.le_of_ble_eq_true rfl) rfl ?_
                refine e_iload dX12_lone_81 rfl ?_
                refine z_if_eq 122 dX12_lone_83 rfl ⟨by omega, by omega⟩ (fun c30 => ?_) (fun c30 => ?_)
                · skip
                  refine e_iload_n dX12_lone_122 rfl ?_
                  refine e_istore_n (L' := [_, _, _, _, _]) dX12_lone_123 (Nat.le_of_ble_eq_true rfl) rfl ?_
                  refine z_iinc (L' := [_, _, _, _, _]) dX12_lone_124 rfl rfl ?_
                  refine e_goto 19 dX12_lone_127 rfl ?_
                  exact mEv_wk (by exact ⟨Or.inr rfl, Or.inr rfl, Or.inr rfl, Or.inr rfl, Or.inl rfl, trivial⟩) (ih17 _ (by omega) b (i + 1)  rfl  (by omega) (by omega) (by first | exact fmax_no I3 (by intro q; obtain ⟨⟨q1, q2⟩, q3, q4⟩ := q; omega) | exact fmax_new I3 (by omega) ⟨by omega, by omega, by omega⟩ (by unfold lonS; omega) | exact fmax_keep I3 (by omega) (by unfold lonS; omega)))
                · exfalso; omega
              · skip
                refine z_iconst (1) dX12_lone_74 rfl ?_
                refine e_goto 79 dX12_lone_75 rfl ?_
                refine e_istore (L' := [_, _, _, _, _]) dX12_lone_79 (Nat.le_of_ble_eq_true rfl) rfl ?_
                refine e_iload dX12_lone_81 rfl ?_
                refine z_if_eq 122 dX12_lone_83 rfl ⟨by omega, by omega⟩ (fun c31 => ?_) (fun c31 => ?_)
                · exfalso; omega
                · skip
                  refine e_iload_n dX12_lone_86 rfl ?_
                  refine z_iconst (-1) dX12_lone_87 rfl ?_
                  refine z_icmp_eq 118 dX12_lone_88 rfl ⟨by omega, by omega⟩ ⟨by omega, by omega⟩ (fun c32 => ?_) (fun c32 => ?_)
                  · skip
                    refine e_iload_n dX12_lone_118 rfl ?_
                    refine e_goto 123 dX12_lone_119 rfl ?_
                    refine e_istore_n (L' := [_, _, _, _, _]) dX12_lone_123 (Nat.le_of_ble_eq_true rfl) rfl ?_
                    refine z_iinc (L' := [_, _, _, _, _]) dX12_lone_124 rfl rfl ?_
                    refine e_goto 19 dX12_lone_127 rfl ?_
                    exact mEv_wk (by exact ⟨Or.inr rfl, Or.inr rfl, Or.inr rfl, Or.inr rfl, Or.inl rfl, trivial⟩) (ih17 _ (by omega) i (i + 1)  rfl  (by omega) (by omega) (by first | exact fmax_no I3 (by intro q; obtain ⟨⟨q1, q2⟩, q3, q4⟩ := q; omega) | exact fmax_new I3 (by omega) ⟨by omega, by omega, by omega⟩ (by unfold lonS; omega) | exact fmax_keep I3 (by omega) (by unfold lonS; omega)))
                  · skip
                    have qb := (fmax_p I3 (by omega)).1
                    refine e_aload_n dX12_lone_91 rfl ?_
                    refine e_iload_n dX12_lone_92 rfl ?_
                    refine z_bipush (6) dX12_lone_93 rfl ?_
                    refine z_idiv dX12_lone_95 (by omega) (by omega) (by omega) (by omega) ?_
                    refine e_iload_n dX12_lone_96 rfl ?_
                    refine z_bipush (6) dX12_lone_97 rfl ?_
                    refine z_irem dX12_lone_99 (by omega) (by omega) (by omega) (by omega) ?_
                    refine e_callV [.int _, .int _] dX12_lone_100 tm_12_283 rfl (Nat.le_of_ble_eq_true rfl) (rk_s k13) (Nat.le_of_ble_eq_true rfl) (Nat.le_refl _) (Nat.le_refl _) rfl (zp_X12_fitOf k13 p9 (i / 6) ⟨by omega, by omega⟩ (i % 6) ⟨by omega, by omega⟩ (by omega) ?_)
                    have y33 := fitZ_b (sG σ f) (i / 6) (i % 6)
                    refine e_aload_n dX12_lone_103 rfl ?_
                    refine e_iload_n dX12_lone_104 rfl ?_
                    refine z_bipush (6) dX12_lone_105 rfl ?_
                    refine z_idiv dX12_lone_107 (by omega) (by omega) (by omega) (by omega) ?_
                    refine e_iload_n dX12_lone_108 rfl ?_
                    refine z_bipush (6) dX12_lone_109 rfl ?_
                    refine z_irem dX12_lone_111 (by omega) (by omega) (by omega) (by omega) ?_
                    refine e_callV [.int _, .int _] dX12_lone_112 tm_12_283 rfl (Nat.le_of_ble_eq_true rfl) (rk_s k13) (Nat.le_of_ble_eq_true rfl) (Nat.le_refl _) (Nat.le_refl _) rfl (zp_X12_fitOf k13 p9 (b / 6) ⟨by omega, by omega⟩ (b % 6) ⟨by omega, by omega⟩ (by omega) ?_)
                    have y34 := fitZ_b (sG σ f) (b / 6) (b % 6)
                    refine z_icmp_le 122 dX12_lone_115 rfl ⟨by omega, by omega⟩ ⟨by omega, by omega⟩ (fun c35 => ?_) (fun c35 => ?_)
                    · skip
                      refine e_iload_n dX12_lone_122 rfl ?_
                      refine e_istore_n (L' := [_, _, _, _, _]) dX12_lone_123 (Nat.le_of_ble_eq_true rfl) rfl ?_
                      refine z_iinc (L' := [_, _, _, _, _]) dX12_lone_124 rfl rfl ?_
                      refine e_goto 19 dX12_lone_127 rfl ?_
                      exact mEv_wk (by exact ⟨Or.inr rfl, Or.inr rfl, Or.inr rfl, Or.inr rfl, Or.inl rfl, trivial⟩) (ih17 _ (by omega) b (i + 1)  rfl  (by omega) (by omega) (by first | exact fmax_no I3 (by intro q; obtain ⟨⟨q1, q2⟩, q3, q4⟩ := q; omega) | exact fmax_new I3 (by omega) ⟨by omega, by omega, by omega⟩ (by unfold lonS; omega) | exact fmax_keep I3 (by omega) (by unfold lonS; omega)))
                    · skip
                      refine e_iload_n dX12_lone_118 rfl ?_
                      refine e_goto 123 dX12_lone_119 rfl ?_
                      refine e_istore_n (L' := [_, _, _, _, _]) dX12_lone_123 (Nat.le_of_ble_eq_true rfl) rfl ?_
                      refine z_iinc (L' := [_, _, _, _, _]) dX12_lone_124 rfl rfl ?_
                      refine e_goto 19 dX12_lone_127 rfl ?_
                      exact mEv_wk (by exact ⟨Or.inr rfl, Or.inr rfl, Or.inr rfl, Or.inr rfl, Or.inl rfl, trivial⟩) (ih17 _ (by omega) i (i + 1)  rfl  (by omega) (by omega) (by first | exact fmax_no I3 (by intro q; obtain ⟨⟨q1, q2⟩, q3, q4⟩ := q; omega) | exact fmax_new I3 (by omega) ⟨by omega, by omega, by omega⟩ (by unfold lonS; omega) | exact fmax_keep I3 (by omega) (by unfold lonS; omega)))
    exact lp17 _ (-1) 0  rfl  (by omega) (by omega) (fmax_0 _ _ (by omega))
  · exact absurd trivial c16
set_option maxHeartbeats 400000 in
theorem zp_X12_lone_out {ad : mA} {dd : Nat} {h : mH} {Q : mQ} {m : Nat} {σ : Sg} (hk : rk h m) (HR : refT h m 0 σ)  (f : Int) (f_r : -2147483648 ≤ f ∧ f < 2147483648) (p1 : ¬ (0 ≤ f ∧ f < cn σ 0)) (kq : ∀ h1, frm (fun a i => a = m ∨ (m + 9 ≤ a ∧ a < m + 30)) h h1 → Q (some (.int (zI (-1)))) h1) : mCal TB0 ad (dd + 4) M_X12_lone [.ref m, .int (zI f)] h 0 0 Q := by
  refine ⟨Nat.le_of_ble_eq_true rfl, ?_⟩
  show mEv TB0 ad M_X12_lone (dd + 4) (0, 0) (mCal TB0 ad (dd + 3)) (fun v h' z => z.1 = 0 ∧ Q v h') 0 [some (.ref m), some (.int (zI f)), none, none, none] [] h (0, 0)
  have FR0 : frm (fun a i => a = m ∨ (m + 9 ≤ a ∧ a < m + 30)) h h := frm_0 h
  have w1 := wS_n (refT_w HR)
  refine e_aload_n dX12_lone_0 rfl ?_
  refine z_iconst (0) dX12_lone_1 rfl ?_
  refine z_put dX12_lone_2 tf_12_103 (rk_s hk) rfl (Or.inl rfl) (fun h1 e2 => ?_)
  have f3 := frm_1 e2
  have k4 := rk_q (frm_s f3) hk
  have H5 := refT_c f3 (fun a k q1 q2 => by omega) HR
  have FR6 := frm_t FR0 (frm_m (S' := (fun a i => a = m ∨ (m + 9 ≤ a ∧ a < m + 30))) f3 (fun a k q => by omega))
  refine e_aload_n dX12_lone_5 rfl ?_
  refine e_iload_n dX12_lone_6 rfl ?_
  refine e_callV [.int _] dX12_lone_7 tm_12_292 rfl (Nat.le_of_ble_eq_true rfl) (rk_s k4) (Nat.le_of_ble_eq_true rfl) (Nat.le_refl _) (Nat.le_refl _) rfl (zp_X12_hand_out k4 H5 f ⟨by omega, by omega⟩ (by omega) ?_)
  refine z_ifb_ne 15 dX12_lone_10 rfl (fun c7 => ?_) (fun c7 => ?_)
  · exfalso; exact c7
  · skip
    refine z_iconst (-1) dX12_lone_13 rfl ?_
    refine z_iret dX12_lone_14 rfl ⟨rfl, ?_⟩
    exact kq _ FR6
set_option maxHeartbeats 400000 in
theorem zp_X11_rank_in {ad : mA} {dd : Nat} {h : mH} {Q : mQ} {x : Nat} {σ : Sg} (hk : bk h x) (HX : clsT h (x + 1) σ)  (f : Int) (f_r : -2147483648 ≤ f ∧ f < 2147483648) (k : Int) (k_r : -2147483648 ≤ k ∧ k < 2147483648) (p1 : 0 ≤ f) (p2 : f < cn σ 0) (kq : ∀ v : Int, (fst1 (fun d => upv (sG σ f) d ≠ -1 ∧ strZ (sG σ f) d = k) (nd (sG σ f)) v) → Q (some (.int (zI v))) h) : mCal TB0 ad (dd + 6) M_X11_rank [.ref x, .int (zI f), .int (zI k)] h 0 0 Q := by
  refine ⟨Nat.le_of_ble_eq_true rfl, ?_⟩
  show mEv TB0 ad M_X11_rank (dd + 6) (0, 0) (mCal TB0 ad (dd + 5)) (fun v h' z => z.1 = 0 ∧ Q v h') 0 [some (.ref x), some (.int (zI f)), some (.int (zI k)), none] [] h (0, 0)
  have w1 := wS_n (clsT_w HX)
  refine e_aload_n dX11_rank_0 rfl ?_
  refine e_get (.ref (x + 1)) dX11_rank_1 tf_11_10 (congrArg Prod.fst (bk_s0 hk)) (congrArg va_rf (bk_r0_0 hk)) ?_
  refine e_iload_n dX11_rank_4 rfl ?_
  refine e_callV [.int _] dX11_rank_5 tm_11_94 rfl (Nat.le_of_ble_eq_true rfl) (congrArg Prod.fst (bk_s1 hk)) (Nat.le_of_ble_eq_true rfl) (Nat.le_refl _) (Nat.le_refl _) rfl (zp_X8_forgeAt_in (bk_td1 hk) HX f ⟨by omega, by omega⟩ (by omega) (by omega) ?_)
  have k1 := fAt_k (bk_td1 hk) f
  have H2 := clsT_F HX (show 0 ≤ f by omega) (by omega)
  have y3 := fAt_b (x + 1) f
  refine e_astore_n (L' := [_, _, _, _]) dX11_rank_8 (Nat.le_of_ble_eq_true rfl) rfl ?_
  refine e_aload_n dX11_rank_9 rfl ?_
  refine e_ifnonnull 17 dX11_rank_10 rfl ?_
  refine e_aload_n dX11_rank_17 rfl ?_
  refine e_iload_n dX11_rank_18 rfl ?_
  refine e_callV [.int _] dX11_rank_19 tm_11_278 rfl (Nat.le_of_ble_eq_true rfl) (congrArg Prod.fst (fg_s0 k1)) (Nat.le_of_ble_eq_true rfl) (Nat.le_refl _) (Nat.le_refl _) rfl (zp_X2_pairByPower k1 H2 k ⟨by omega, by omega⟩ (fun v4 p5 => ?_))
  refine z_iret dX11_rank_22 rfl ⟨rfl, ?_⟩
  refine kq _ ?_
  assumption
set_option maxHeartbeats 400000 in
theorem zp_X11_rank_out {ad : mA} {dd : Nat} {h : mH} {Q : mQ} {x : Nat} {σ : Sg} (hk : bk h x) (HX : clsT h (x + 1) σ)  (f : Int) (f_r : -2147483648 ≤ f ∧ f < 2147483648) (k : Int) (k_r : -2147483648 ≤ k ∧ k < 2147483648) (p1 : ¬ (0 ≤ f ∧ f < cn σ 0)) (kq : Q (some (.int (zI (-1)))) h) : mCal TB0 ad (dd + 6) M_X11_rank [.ref x, .int (zI f), .int (zI k)] h 0 0 Q := by
  refine ⟨Nat.le_of_ble_eq_true rfl, ?_⟩
  show mEv TB0 ad M_X11_rank (dd + 6) (0, 0) (mCal TB0 ad (dd + 5)) (fun v h' z => z.1 = 0 ∧ Q v h') 0 [some (.ref x), some (.int (zI f)), some (.int (zI k)), none] [] h (0, 0)
  have w1 := wS_n (clsT_w HX)
  refine e_aload_n dX11_rank_0 rfl ?_
  refine e_get (.ref (x + 1)) dX11_rank_1 tf_11_10 (congrArg Prod.fst (bk_s0 hk)) (congrArg va_rf (bk_r0_0 hk)) ?_
  refine e_iload_n dX11_rank_4 rfl ?_
  refine e_callV [.int _] dX11_rank_5 tm_11_94 rfl (Nat.le_of_ble_eq_true rfl) (congrArg Prod.fst (bk_s1 hk)) (Nat.le_of_ble_eq_true rfl) (Nat.le_refl _) (Nat.le_refl _) rfl (zp_X8_forgeAt_out (bk_td1 hk) HX f ⟨by omega, by omega⟩ (by omega) ?_)
  refine e_astore_nN (L' := [_, _, _, _]) dX11_rank_8 (Nat.le_of_ble_eq_true rfl) rfl ?_
  refine e_aload_nN dX11_rank_9 rfl ?_
  refine e_ifnonnullN 17 dX11_rank_10 rfl ?_
  refine z_iconst (-1) dX11_rank_13 rfl ?_
  refine e_goto 22 dX11_rank_14 rfl ?_
  refine z_iret dX11_rank_22 rfl ⟨rfl, ?_⟩
  refine z_q kq ?_
  rfl
set_option maxHeartbeats 400000 in
theorem zp_X12_rank_in {ad : mA} {dd : Nat} {h : mH} {Q : mQ} {m : Nat} {σ : Sg} (hk : rk h m) (HR : refT h m 0 σ)  (f : Int) (f_r : -2147483648 ≤ f ∧ f < 2147483648) (k : Int) (k_r : -2147483648 ≤ k ∧ k < 2147483648) (p1 : 0 ≤ f) (p2 : f < cn σ 0) (kq : ∀ v : Int, (fst1 (fun d => upv (sG σ f) d ≠ -1 ∧ strZ (sG σ f) d = k) (nd (sG σ f)) v) → ∀ h1, frm (fun a i => a = m ∨ (m + 9 ≤ a ∧ a < m + 30)) h h1 → Q (some (.int (zI v))) h1) : mCal TB0 ad (dd + 4) M_X12_rank [.ref m, .int (zI f), .int (zI k)] h 0 0 Q := by
  refine ⟨Nat.le_of_ble_eq_true rfl, ?_⟩
  show mEv TB0 ad M_X12_rank (dd + 4) (0, 0) (mCal TB0 ad (dd + 3)) (fun v h' z => z.1 = 0 ∧ Q v h') 0 [some (.ref m), some (.int (zI f)), some (.int (zI k)), none, none, none, none] [] h (0, 0)
  have FR0 : frm (fun a i => a = m ∨ (m + 9 ≤ a ∧ a < m + 30)) h h := frm_0 h
  have w1 := wS_n (refT_w HR)
  refine e_aload_n dX12_rank_0 rfl ?_
  refine z_iconst (0) dX12_rank_1 rfl ?_
  refine z_put dX12_rank_2 tf_12_103 (rk_s hk) rfl (Or.inl rfl) (fun h1 e2 => ?_)
  have f3 := frm_1 e2
  have k4 := rk_q (frm_s f3) hk
  have H5 := refT_c f3 (fun a k q1 q2 => by omega) HR
  have FR6 := frm_t FR0 (frm_m (S' := (fun a i => a = m ∨ (m + 9 ≤ a ∧ a < m + 30))) f3 (fun a k q => by omega))
  refine e_aload_n dX12_rank_5 rfl ?_
  refine e_iload_n dX12_rank_6 rfl ?_
  refine e_callV [.int _] dX12_rank_7 tm_12_292 rfl (Nat.le_of_ble_eq_true rfl) (rk_s k4) (Nat.le_of_ble_eq_true rfl) (Nat.le_refl _) (Nat.le_refl _) rfl (zp_X12_hand_in k4 H5 f ⟨by omega, by omega⟩ (by omega) (by omega) (fun  h7 f8 p9 p10 p11 p12 => ?_))
  have k13 := rk_q (frm_s f8) k4
  have H14 := refT_c f8 (fun a k q1 q2 => by omega) H5
  have FR15 := frm_t FR6 (frm_m (S' := (fun a i => a = m ∨ (m + 9 ≤ a ∧ a < m + 30))) f8 (fun a k q => by omega))
  have w5 := rB_n p9
  have w6 := rC_n p11
  refine z_ifb_ne 15 dX12_rank_10 rfl (fun c16 => ?_) (fun c16 => ?_)
  · skip
    refine z_iconst (0) dX12_rank_15 rfl ?_
    refine e_istore_n (L' := [_, _, _, _, _, _, _]) dX12_rank_16 (Nat.le_of_ble_eq_true rfl) rfl ?_
    have lp17 : ∀ (n17 : Nat) (i : Int), (nd (sG σ f) - i).toNat = n17 → (0 ≤ i) → (i ≤ nd (sG σ f)) → (∀ d, 0 ≤ d → d < i → ¬ (upv (sG σ f) d ≠ -1 ∧ strZ (sG σ f) d = k)) → mEv TB0 ad M_X12_rank (dd + 4) (0, 0) (mCal TB0 ad (dd + 3)) (fun v h' z => z.1 = 0 ∧ Q v h') 17 [some (.ref m), some (.int (zI f)), some (.int (zI k)), some (.int (zI i)), none, none, none] [] h7 (0, 0) := by
      intro n17
      induction n17 using Nat.strongRecOn with
      | ind n17 ih17 =>
      intro i  hn17  I1 I2 I3
      refine e_iload_n dX12_rank_17 rfl ?_
      refine e_aload_n dX12_rank_18 rfl ?_
      refine z_get (nd (sG σ f)) dX12_rank_19 tf_12_271 (rk_s k13) (Or.inl rfl) (rB_nd p9) ?_
      have y18 := rB_n p9
      refine z_icmp_ge 142 dX12_rank_22 rfl ⟨by omega, by omega⟩ ⟨by omega, by omega⟩ (fun c19 => ?_) (fun c19 => ?_)
      · skip
        refine z_iconst (-1) dX12_rank_142 rfl ?_
        refine z_iret dX12_rank_143 rfl ⟨rfl, ?_⟩
        refine kq _ ?_ _ FR15
        first | exact Or.inr ⟨by omega, ⟨by omega, by rw [show strZ (sG σ f) i = n by rw [J3, show j = nd (sG σ f) by omega]; rfl]; omega⟩, I3⟩ | exact Or.inl ⟨rfl, fun d a b => I3 d a (by omega)⟩
      · skip
        have u1 := upv_in (g := (sG σ f)) (d := i) (by omega) (by omega)
        have W := (refT_w HR).2.2.1 f p1 p2
        refine z_iconst (0) dX12_rank_25 rfl ?_
        refine e_istore (L' := [_, _, _, _, _, _, _]) dX12_rank_26 (Nat.le_of_ble_eq_true rfl) rfl ?_
        refine z_iconst (0) dX12_rank_28 rfl ?_
        refine e_istore (L' := [_, _, _, _, _, _, _]) dX12_rank_29 (Nat.le_of_ble_eq_true rfl) rfl ?_
        have lp20 : ∀ (n20 : Nat) (n j : Int), (nd (sG σ f) - j).toNat = n20 → (0 ≤ j) → (j ≤ nd (sG σ f)) → (n = sumZ (fun e => bZ (strP (sG σ f) i e)) j.toNat) → (0 ≤ n ∧ n ≤ j) → mEv TB0 ad M_X12_rank (dd + 4) (0, 0) (mCal TB0 ad (dd + 3)) (fun v h' z => z.1 = 0 ∧ Q v h') 31 [some (.ref m), some (.int (zI f)), some (.int (zI k)), some (.int (zI i)), some (.int (zI n)), some (.int (zI j)), none] [] h7 (0, 0) := by
          intro n20
          induction n20 using Nat.strongRecOn with
          | ind n20 ih20 =>
          intro n j  hn20  J1 J2 J3 J4
          refine e_iload dX12_rank_31 rfl ?_
          refine e_aload_n dX12_rank_33 rfl ?_
          refine z_get (nd (sG σ f)) dX12_rank_34 tf_12_271 (rk_s k13) (Or.inl rfl) (rB_nd p9) ?_
          have y21 := rB_n p9
          refine z_icmp_ge 120 dX12_rank_37 rfl ⟨by omega, by omega⟩ ⟨by omega, by omega⟩ (fun c22 => ?_) (fun c22 => ?_)
          · skip
            refine e_aload_n dX12_rank_120 rfl ?_
            refine e_iload_n dX12_rank_121 rfl ?_
            refine e_callV [.int _] dX12_rank_122 tm_12_286 rfl (Nat.le_of_ble_eq_true rfl) (rk_s k13) (Nat.le_of_ble_eq_true rfl) (Nat.le_refl _) (Nat.le_refl _) rfl (zp_X12_isPaired k13 p10 i ⟨by omega, by omega⟩ (by omega) (by omega) ?_)
            have y23 := wM_d (rM_w p10) (show 0 ≤ i by omega) (by omega)
            refine z_ifb_eq 136 dX12_rank_125 rfl (fun c24 => ?_) (fun c24 => ?_)
            · skip
              refine z_iinc (L' := [_, _, _, _, _, _, _]) dX12_rank_136 rfl rfl ?_
              refine e_goto 17 dX12_rank_139 rfl ?_
              exact mEv_wk (by exact ⟨Or.inr rfl, Or.inr rfl, Or.inr rfl, Or.inr rfl, Or.inl rfl, Or.inl rfl, Or.inl rfl, trivial⟩) (ih17 _ (by omega) (i + 1)  rfl  (by omega) (by omega) (allS (P := fun d => upv (sG σ f) d ≠ -1 ∧ strZ (sG σ f) d = k) I3 (by rintro ⟨q1, q2⟩; have e3 : n = strZ (sG σ f) i := (by rw [J3, show j = nd (sG σ f) by omega]; rfl); omega)))
            · skip
              refine e_iload dX12_rank_128 rfl ?_
              refine e_iload_n dX12_rank_130 rfl ?_
              refine z_icmp_ne 136 dX12_rank_131 rfl ⟨by omega, by omega⟩ ⟨by omega, by omega⟩ (fun c25 => ?_) (fun c25 => ?_)
              · skip
                refine z_iinc (L' := [_, _, _, _, _, _, _]) dX12_rank_136 rfl rfl ?_
                refine e_goto 17 dX12_rank_139 rfl ?_
                exact mEv_wk (by exact ⟨Or.inr rfl, Or.inr rfl, Or.inr rfl, Or.inr rfl, Or.inl rfl, Or.inl rfl, Or.inl rfl, trivial⟩) (ih17 _ (by omega) (i + 1)  rfl  (by omega) (by omega) (allS (P := fun d => upv (sG σ f) d ≠ -1 ∧ strZ (sG σ f) d = k) I3 (by rintro ⟨q1, q2⟩; have e3 : n = strZ (sG σ f) i := (by rw [J3, show j = nd (sG σ f) by omega]; rfl); omega)))
              · skip
                refine e_iload_n dX12_rank_134 rfl ?_
                refine z_iret dX12_rank_135 rfl ⟨rfl, ?_⟩
                refine kq _ ?_ _ FR15
                first | exact Or.inr ⟨by omega, ⟨by omega, by rw [show strZ (sG σ f) i = n by rw [J3, show j = nd (sG σ f) by omega]; rfl]; omega⟩, I3⟩ | exact Or.inl ⟨rfl, fun d a b => I3 d a (by omega)⟩
          · skip
            refine e_aload_n dX12_rank_40 rfl ?_
            refine e_iload_n dX12_rank_41 rfl ?_
            refine e_callV [.int _] dX12_rank_42 tm_12_286 rfl (Nat.le_of_ble_eq_true rfl) (rk_s k13) (Nat.le_of_ble_eq_true rfl) (Nat.le_refl _) (Nat.le_refl _) rfl (zp_X12_isPaired k13 p10 i ⟨by omega, by omega⟩ (by omega) (by omega) ?_)
            have y26 := wM_d (rM_w p10) (show 0 ≤ i by omega) (by omega)
            refine z_ifb_eq 120 dX12_rank_45 rfl (fun c27 => ?_) (fun c27 => ?_)
            · skip
              refine e_aload_n dX12_rank_120 rfl ?_
              refine e_iload_n dX12_rank_121 rfl ?_
              refine e_callV [.int _] dX12_rank_122 tm_12_286 rfl (Nat.le_of_ble_eq_true rfl) (rk_s k13) (Nat.le_of_ble_eq_true rfl) (Nat.le_refl _) (Nat.le_refl _) rfl (zp_X12_isPaired k13 p10 i ⟨by omega, by omega⟩ (by omega) (by omega) ?_)
              have y28 := wM_d (rM_w p10) (show 0 ≤ i by omega) (by omega)
              refine z_ifb_eq 136 dX12_rank_125 rfl (fun c29 => ?_) (fun c29 => ?_)
              · skip
                refine z_iinc (L' := [_, _, _, _, _, _, _]) dX12_rank_136 rfl rfl ?_
                refine e_goto 17 dX12_rank_139 rfl ?_
                exact mEv_wk (by exact ⟨Or.inr rfl, Or.inr rfl, Or.inr rfl, Or.inr rfl, Or.inl rfl, Or.inl rfl, Or.inl rfl, trivial⟩) (ih17 _ (by omega) (i + 1)  rfl  (by omega) (by omega) (allS (P := fun d => upv (sG σ f) d ≠ -1 ∧ strZ (sG σ f) d = k) I3 (by rintro ⟨q1, q2⟩; have e3 : n = strZ (sG σ f) i := (by rw [J3, show j = nd (sG σ f) by omega]; rfl); omega)))
              · skip
                refine e_iload dX12_rank_128 rfl ?_
                refine e_iload_n dX12_rank_130 rfl ?_
                refine z_icmp_ne 136 dX12_rank_131 rfl ⟨by omega, by omega⟩ ⟨by omega, by omega⟩ (fun c30 => ?_) (fun c30 => ?_)
                · skip
                  refine z_iinc (L' := [_, _, _, _, _, _, _]) dX12_rank_136 rfl rfl ?_
                  refine e_goto 17 dX12_rank_139 rfl ?_
                  exact mEv_wk (by exact ⟨Or.inr rfl, Or.inr rfl, Or.inr rfl, Or.inr rfl, Or.inl rfl, Or.inl rfl, Or.inl rfl, trivial⟩) (ih17 _ (by omega) (i + 1)  rfl  (by omega) (by omega) (allS (P := fun d => upv (sG σ f) d ≠ -1 ∧ strZ (sG σ f) d = k) I3 (by rintro ⟨q1, q2⟩; have e3 : n = strZ (sG σ f) i := (by rw [J3, show j = nd (sG σ f) by omega]; rfl); omega)))
                · skip
                  refine e_iload_n dX12_rank_134 rfl ?_
                  refine z_iret dX12_rank_135 rfl ⟨rfl, ?_⟩
                  refine kq _ ?_ _ FR15
                  first | exact Or.inr ⟨by omega, ⟨by omega, by rw [show strZ (sG σ f) i = n by rw [J3, show j = nd (sG σ f) by omega]; rfl]; omega⟩, I3⟩ | exact Or.inl ⟨rfl, fun d a b => I3 d a (by omega)⟩
            · skip
              have u2 := upv_in (g := (sG σ f)) (d := j) (by omega) (by omega)
              refine e_aload_n dX12_rank_48 rfl ?_
              refine e_iload dX12_rank_49 rfl ?_
              refine e_callV [.int _] dX12_rank_51 tm_12_286 rfl (Nat.le_of_ble_eq_true rfl) (rk_s k13) (Nat.le_of_ble_eq_true rfl) (Nat.le_refl _) (Nat.le_refl _) rfl (zp_X12_isPaired k13 p10 j ⟨by omega, by omega⟩ (by omega) (by omega) ?_)
              have y31 := wM_d (rM_w p10) (show 0 ≤ j by omega) (by omega)
              refine z_ifb_eq 85 dX12_rank_54 rfl (fun c32 => ?_) (fun c32 => ?_)
              · skip
                refine z_iconst (-1) dX12_rank_85 rfl ?_
                refine e_istore (L' := [_, _, _, _, _, _, _]) dX12_rank_86 (Nat.le_of_ble_eq_true rfl) rfl ?_
                refine e_iload dX12_rank_88 rfl ?_
                refine e_iload dX12_rank_90 rfl ?_
                refine z_if_gt 106 dX12_rank_92 rfl ⟨by omega, by omega⟩ (fun c33 => ?_) (fun c33 => ?_)
                · exfalso; omega
                · skip
                  refine e_iload dX12_rank_95 rfl ?_
                  refine z_if_ne 110 dX12_rank_97 rfl ⟨by omega, by omega⟩ (fun c34 => ?_) (fun c34 => ?_)
                  · skip
                    refine z_iconst (0) dX12_rank_110 rfl ?_
                    refine z_iadd dX12_rank_111 ?_
                    refine e_istore (L' := [_, _, _, _, _, _, _]) dX12_rank_112 (Nat.le_of_ble_eq_true rfl) rfl ?_
                    refine z_iinc (L' := [_, _, _, _, _, _, _]) dX12_rank_114 rfl rfl ?_
                    refine e_goto 31 dX12_rank_117 rfl ?_
                    exact mEv_wk (by exact ⟨Or.inr rfl, Or.inr rfl, Or.inr rfl, Or.inr rfl, Or.inr rfl, Or.inr rfl, Or.inl rfl, trivial⟩) (ih20 _ (by omega) (n + 0) (j + 1)  rfl  (by omega) (by omega) (by rw [sumZ_s (by omega)]; first | (rw [bZ_1 (by omega)]; omega) | (rw [bZ_0 (by omega)]; omega)) (by omega))
                  · exfalso; omega
              · skip
                refine e_aload_n dX12_rank_57 rfl ?_
                refine e_iload dX12_rank_58 rfl ?_
                refine e_aload_n dX12_rank_60 rfl ?_
                refine e_get (.ref (m + 15)) dX12_rank_61 tf_12_53 (rk_s k13) (congrArg va_rf (rk_r15 k13)) ?_
                refine e_iload dX12_rank_64 rfl ?_
                refine z_ild (dm (sG σ f) j) dX12_rank_66 (rk_a15 k13) (by decide) (by omega) (by omega) (rM_d p10 (by omega) (by omega)) ?_
                have y35 := wM_d (rM_w p10) (show 0 ≤ j by omega) (by omega)
                refine e_callV [.int _, .int _] dX12_rank_67 tm_12_289 rfl (Nat.le_of_ble_eq_true rfl) (rk_s k13) (Nat.le_of_ble_eq_true rfl) (Nat.le_refl _) (Nat.le_refl _) rfl (zp_X12_powerOf k13 p9 j ⟨by omega, by omega⟩ (dm (sG σ f) j) ⟨by omega, by omega⟩ (by omega) ?_)
                have y36 := powW_0b (rB_w p9) j (dm (sG σ f) j) (by omega)
                have e1 : pwZ (sG σ f) j = (powW (sG σ f) j (dm (sG σ f) j) 0) := by unfold pwZ; rw [u2]
                refine e_aload_n dX12_rank_70 rfl ?_
                refine e_iload_n dX12_rank_71 rfl ?_
                refine e_aload_n dX12_rank_72 rfl ?_
                refine e_get (.ref (m + 15)) dX12_rank_73 tf_12_53 (rk_s k13) (congrArg va_rf (rk_r15 k13)) ?_
                refine e_iload_n dX12_rank_76 rfl ?_
                refine z_ild (dm (sG σ f) i) dX12_rank_77 (rk_a15 k13) (by decide) (by omega) (by omega) (rM_d p10 (by omega) (by omega)) ?_
                have y37 := wM_d (rM_w p10) (show 0 ≤ i by omega) (by omega)
                refine e_callV [.int _, .int _] dX12_rank_78 tm_12_289 rfl (Nat.le_of_ble_eq_true rfl) (rk_s k13) (Nat.le_of_ble_eq_true rfl) (Nat.le_refl _) (Nat.le_refl _) rfl (zp_X12_powerOf k13 p9 i ⟨by omega, by omega⟩ (dm (sG σ f) i) ⟨by omega, by omega⟩ (by omega) ?_)
                have y38 := powW_0b (rB_w p9) i (dm (sG σ f) i) (by omega)
                have e2 : pwZ (sG σ f) i = (powW (sG σ f) i (dm (sG σ f) i) 0) := by unfold pwZ; rw [u1]
                refine z_isub dX12_rank_81 ?_
                refine e_goto 86 dX12_rank_82 rfl ?_
                refine e_istore (L' := [_, _, _, _, _, _, _]) dX12_rank_86 (Nat.le_of_ble_eq_true rfl) rfl ?_
                refine e_iload dX12_rank_88 rfl ?_
                refine e_iload dX12_rank_90 rfl ?_
                refine z_if_gt 106 dX12_rank_92 rfl ⟨by omega, by omega⟩ (fun c39 => ?_) (fun c39 => ?_)
                · skip
                  refine z_iconst (1) dX12_rank_106 rfl ?_
                  refine e_goto 111 dX12_rank_107 rfl ?_
                  refine z_iadd dX12_rank_111 ?_
                  refine e_istore (L' := [_, _, _, _, _, _, _]) dX12_rank_112 (Nat.le_of_ble_eq_true rfl) rfl ?_
                  refine z_iinc (L' := [_, _, _, _, _, _, _]) dX12_rank_114 rfl rfl ?_
                  refine e_goto 31 dX12_rank_117 rfl ?_
                  exact mEv_wk (by exact ⟨Or.inr rfl, Or.inr rfl, Or.inr rfl, Or.inr rfl, Or.inr rfl, Or.inr rfl, Or.inl rfl, trivial⟩) (ih20 _ (by omega) (n + 1) (j + 1)  rfl  (by omega) (by omega) (by rw [sumZ_s (by omega)]; first | (rw [bZ_1 (by omega)]; omega) | (rw [bZ_0 (by omega)]; omega)) (by omega))
                · skip
                  refine e_iload dX12_rank_95 rfl ?_
                  refine z_if_ne 110 dX12_rank_97 rfl ⟨by omega, by omega⟩ (fun c40 => ?_) (fun c40 => ?_)
                  · skip
                    refine z_iconst (0) dX12_rank_110 rfl ?_
                    refine z_iadd dX12_rank_111 ?_
                    refine e_istore (L' := [_, _, _, _, _, _, _]) dX12_rank_112 (Nat.le_of_ble_eq_true rfl) rfl ?_
                    refine z_iinc (L' := [_, _, _, _, _, _, _]) dX12_rank_114 rfl rfl ?_
                    refine e_goto 31 dX12_rank_117 rfl ?_
                    exact mEv_wk (by exact ⟨Or.inr rfl, Or.inr rfl, Or.inr rfl, Or.inr rfl, Or.inr rfl, Or.inr rfl, Or.inl rfl, trivial⟩) (ih20 _ (by omega) (n + 0) (j + 1)  rfl  (by omega) (by omega) (by rw [sumZ_s (by omega)]; first | (rw [bZ_1 (by omega)]; omega) | (rw [bZ_0 (by omega)]; omega)) (by omega))
                  · skip
                    refine e_iload dX12_rank_100 rfl ?_
                    refine e_iload_n dX12_rank_102 rfl ?_
                    refine z_icmp_ge 110 dX12_rank_103 rfl ⟨by omega, by omega⟩ ⟨by omega, by omega⟩ (fun c41 => ?_) (fun c41 => ?_)
                    · skip
                      refine z_iconst (0) dX12_rank_110 rfl ?_
                      refine z_iadd dX12_rank_111 ?_
                      refine e_istore (L' := [_, _, _, _, _, _, _]) dX12_rank_112 (Nat.le_of_ble_eq_true rfl) rfl ?_
                      refine z_iinc (L' := [_, _, _, _, _, _, _]) dX12_rank_114 rfl rfl ?_
                      refine e_goto 31 dX12_rank_117 rfl ?_
                      exact mEv_wk (by exact ⟨Or.inr rfl, Or.inr rfl, Or.inr rfl, Or.inr rfl, Or.inr rfl, Or.inr rfl, Or.inl rfl, trivial⟩) (ih20 _ (by omega) (n + 0) (j + 1)  rfl  (by omega) (by omega) (by rw [sumZ_s (by omega)]; first | (rw [bZ_1 (by omega)]; omega) | (rw [bZ_0 (by omega)]; omega)) (by omega))
                    · skip
                      refine z_iconst (1) dX12_rank_106 rfl ?_
                      refine e_goto 111 dX12_rank_107 rfl ?_
                      refine z_iadd dX12_rank_111 ?_
                      refine e_istore (L' := [_, _, _, _, _, _, _]) dX12_rank_112 (Nat.le_of_ble_eq_true rfl) rfl ?_
                      refine z_iinc (L' := [_, _, _, _, _, _, _]) dX12_rank_114 rfl rfl ?_
                      refine e_goto 31 dX12_rank_117 rfl ?_
                      exact mEv_wk (by exact ⟨Or.inr rfl, Or.inr rfl, Or.inr rfl, Or.inr rfl, Or.inr rfl, Or.inr rfl, Or.inl rfl, trivial⟩) (ih20 _ (by omega) (n + 1) (j + 1)  rfl  (by omega) (by omega) (by rw [sumZ_s (by omega)]; first | (rw [bZ_1 (by omega)]; omega) | (rw [bZ_0 (by omega)]; omega)) (by omega))
        exact lp20 _ 0 0  rfl  (by omega) (by omega) rfl (by omega)
    exact lp17 _ 0  rfl  (by omega) (by omega) (fun d a b => by omega)
  · exact absurd trivial c16
set_option maxHeartbeats 400000 in
theorem zp_X12_rank_out {ad : mA} {dd : Nat} {h : mH} {Q : mQ} {m : Nat} {σ : Sg} (hk : rk h m) (HR : refT h m 0 σ)  (f : Int) (f_r : -2147483648 ≤ f ∧ f < 2147483648) (k : Int) (k_r : -2147483648 ≤ k ∧ k < 2147483648) (p1 : ¬ (0 ≤ f ∧ f < cn σ 0)) (kq : ∀ h1, frm (fun a i => a = m ∨ (m + 9 ≤ a ∧ a < m + 30)) h h1 → Q (some (.int (zI (-1)))) h1) : mCal TB0 ad (dd + 4) M_X12_rank [.ref m, .int (zI f), .int (zI k)] h 0 0 Q := by
  refine ⟨Nat.le_of_ble_eq_true rfl, ?_⟩
  show mEv TB0 ad M_X12_rank (dd + 4) (0, 0) (mCal TB0 ad (dd + 3)) (fun v h' z => z.1 = 0 ∧ Q v h') 0 [some (.ref m), some (.int (zI f)), some (.int (zI k)), none, none, none, none] [] h (0, 0)
  have FR0 : frm (fun a i => a = m ∨ (m + 9 ≤ a ∧ a < m + 30)) h h := frm_0 h
  have w1 := wS_n (refT_w HR)
  refine e_aload_n dX12_rank_0 rfl ?_
  refine z_iconst (0) dX12_rank_1 rfl ?_
  refine z_put dX12_rank_2 tf_12_103 (rk_s hk) rfl (Or.inl rfl) (fun h1 e2 => ?_)
  have f3 := frm_1 e2
  have k4 := rk_q (frm_s f3) hk
  have H5 := refT_c f3 (fun a k q1 q2 => by omega) HR
  have FR6 := frm_t FR0 (frm_m (S' := (fun a i => a = m ∨ (m + 9 ≤ a ∧ a < m + 30))) f3 (fun a k q => by omega))
  refine e_aload_n dX12_rank_5 rfl ?_
  refine e_iload_n dX12_rank_6 rfl ?_
  refine e_callV [.int _] dX12_rank_7 tm_12_292 rfl (Nat.le_of_ble_eq_true rfl) (rk_s k4) (Nat.le_of_ble_eq_true rfl) (Nat.le_refl _) (Nat.le_refl _) rfl (zp_X12_hand_out k4 H5 f ⟨by omega, by omega⟩ (by omega) ?_)
  refine z_ifb_ne 15 dX12_rank_10 rfl (fun c7 => ?_) (fun c7 => ?_)
  · exfalso; exact c7
  · skip
    refine z_iconst (-1) dX12_rank_13 rfl ?_
    refine z_iret dX12_rank_14 rfl ⟨rfl, ?_⟩
    exact kq _ FR6

/-! WHOSE of the class -/
theorem dX1_suspects_0 : decode cX1_suspects 0 = .ok (.lconst 0, 1) := by decide +kernel
theorem dX1_suspects_1 : decode cX1_suspects 1 = .ok (.lstore_n 2, 1) := by decide +kernel
theorem dX1_suspects_2 : decode cX1_suspects 2 = .ok (.iconst 0, 1) := by decide +kernel
theorem dX1_suspects_3 : decode cX1_suspects 3 = .ok (.istore 4, 2) := by decide +kernel
theorem dX1_suspects_5 : decode cX1_suspects 5 = .ok (.iload 4, 2) := by decide +kernel
theorem dX1_suspects_7 : decode cX1_suspects 7 = .ok (.aload_n 1, 1) := by decide +kernel
theorem dX1_suspects_8 : decode cX1_suspects 8 = .ok (.getfield 25, 3) := by decide +kernel
theorem dX1_suspects_11 : decode cX1_suspects 11 = .ok (.getfield 31, 3) := by decide +kernel
theorem dX1_suspects_14 : decode cX1_suspects 14 = .ok (.if_icmp .ge 55, 3) := by decide +kernel
theorem dX1_suspects_17 : decode cX1_suspects 17 = .ok (.iconst 0, 1) := by decide +kernel
theorem dX1_suspects_18 : decode cX1_suspects 18 = .ok (.istore 5, 2) := by decide +kernel
theorem dX1_suspects_20 : decode cX1_suspects 20 = .ok (.iload 5, 2) := by decide +kernel
theorem dX1_suspects_22 : decode cX1_suspects 22 = .ok (.aload_n 1, 1) := by decide +kernel
theorem dX1_suspects_23 : decode cX1_suspects 23 = .ok (.getfield 34, 3) := by decide +kernel
theorem dX1_suspects_26 : decode cX1_suspects 26 = .ok (.getfield 31, 3) := by decide +kernel
theorem dX1_suspects_29 : decode cX1_suspects 29 = .ok (.if_icmp .ge 34, 3) := by decide +kernel
theorem dX1_suspects_32 : decode cX1_suspects 32 = .ok (.aload_n 0, 1) := by decide +kernel
theorem dX1_suspects_33 : decode cX1_suspects 33 = .ok (.aload_n 1, 1) := by decide +kernel
theorem dX1_suspects_34 : decode cX1_suspects 34 = .ok (.iload 4, 2) := by decide +kernel
theorem dX1_suspects_36 : decode cX1_suspects 36 = .ok (.iload 5, 2) := by decide +kernel
theorem dX1_suspects_38 : decode cX1_suspects 38 = .ok (.invokevirtual 37, 3) := by decide +kernel
theorem dX1_suspects_41 : decode cX1_suspects 41 = .ok (.ifCond .eq 16, 3) := by decide +kernel
theorem dX1_suspects_44 : decode cX1_suspects 44 = .ok (.lload_n 2, 1) := by decide +kernel
theorem dX1_suspects_45 : decode cX1_suspects 45 = .ok (.lconst 1, 1) := by decide +kernel
theorem dX1_suspects_46 : decode cX1_suspects 46 = .ok (.bipush 6, 2) := by decide +kernel
theorem dX1_suspects_48 : decode cX1_suspects 48 = .ok (.iload 4, 2) := by decide +kernel
theorem dX1_suspects_50 : decode cX1_suspects 50 = .ok (.imul, 1) := by decide +kernel
theorem dX1_suspects_51 : decode cX1_suspects 51 = .ok (.iload 5, 2) := by decide +kernel
theorem dX1_suspects_53 : decode cX1_suspects 53 = .ok (.iadd, 1) := by decide +kernel
theorem dX1_suspects_54 : decode cX1_suspects 54 = .ok (.lshl, 1) := by decide +kernel
theorem dX1_suspects_55 : decode cX1_suspects 55 = .ok (.lor, 1) := by decide +kernel
theorem dX1_suspects_56 : decode cX1_suspects 56 = .ok (.lstore_n 2, 1) := by decide +kernel
theorem dX1_suspects_57 : decode cX1_suspects 57 = .ok (.iinc 5 1, 3) := by decide +kernel
theorem dX1_suspects_60 : decode cX1_suspects 60 = .ok (.goto (-40), 3) := by decide +kernel
theorem dX1_suspects_63 : decode cX1_suspects 63 = .ok (.iinc 4 1, 3) := by decide +kernel
theorem dX1_suspects_66 : decode cX1_suspects 66 = .ok (.goto (-61), 3) := by decide +kernel
theorem dX1_suspects_69 : decode cX1_suspects 69 = .ok (.lload_n 2, 1) := by decide +kernel
theorem dX1_suspects_70 : decode cX1_suspects 70 = .ok (.lreturn, 1) := by decide +kernel
theorem dX1_fitsAll_0 : decode cX1_fitsAll 0 = .ok (.iconst 0, 1) := by decide +kernel
theorem dX1_fitsAll_1 : decode cX1_fitsAll 1 = .ok (.istore 4, 2) := by decide +kernel
theorem dX1_fitsAll_3 : decode cX1_fitsAll 3 = .ok (.iload 4, 2) := by decide +kernel
theorem dX1_fitsAll_5 : decode cX1_fitsAll 5 = .ok (.aload_n 0, 1) := by decide +kernel
theorem dX1_fitsAll_6 : decode cX1_fitsAll 6 = .ok (.getfield 21, 3) := by decide +kernel
theorem dX1_fitsAll_9 : decode cX1_fitsAll 9 = .ok (.if_icmp .ge 69, 3) := by decide +kernel
theorem dX1_fitsAll_12 : decode cX1_fitsAll 12 = .ok (.iload 4, 2) := by decide +kernel
theorem dX1_fitsAll_14 : decode cX1_fitsAll 14 = .ok (.bipush 8, 2) := by decide +kernel
theorem dX1_fitsAll_16 : decode cX1_fitsAll 16 = .ok (.if_icmp .ge 62, 3) := by decide +kernel
theorem dX1_fitsAll_19 : decode cX1_fitsAll 19 = .ok (.aload_n 1, 1) := by decide +kernel
theorem dX1_fitsAll_20 : decode cX1_fitsAll 20 = .ok (.iload_n 2, 1) := by decide +kernel
theorem dX1_fitsAll_21 : decode cX1_fitsAll 21 = .ok (.iload_n 3, 1) := by decide +kernel
theorem dX1_fitsAll_22 : decode cX1_fitsAll 22 = .ok (.aload_n 0, 1) := by decide +kernel
theorem dX1_fitsAll_23 : decode cX1_fitsAll 23 = .ok (.getfield 9, 3) := by decide +kernel
theorem dX1_fitsAll_26 : decode cX1_fitsAll 26 = .ok (.iload 4, 2) := by decide +kernel
theorem dX1_fitsAll_28 : decode cX1_fitsAll 28 = .ok (.iaload, 1) := by decide +kernel
theorem dX1_fitsAll_29 : decode cX1_fitsAll 29 = .ok (.invokestatic 41, 3) := by decide +kernel
theorem dX1_fitsAll_32 : decode cX1_fitsAll 32 = .ok (.aload_n 0, 1) := by decide +kernel
theorem dX1_fitsAll_33 : decode cX1_fitsAll 33 = .ok (.getfield 15, 3) := by decide +kernel
theorem dX1_fitsAll_36 : decode cX1_fitsAll 36 = .ok (.iload 4, 2) := by decide +kernel
theorem dX1_fitsAll_38 : decode cX1_fitsAll 38 = .ok (.iaload, 1) := by decide +kernel
theorem dX1_fitsAll_39 : decode cX1_fitsAll 39 = .ok (.if_icmp .ne 7, 3) := by decide +kernel
theorem dX1_fitsAll_42 : decode cX1_fitsAll 42 = .ok (.iconst 1, 1) := by decide +kernel
theorem dX1_fitsAll_43 : decode cX1_fitsAll 43 = .ok (.goto 4, 3) := by decide +kernel
theorem dX1_fitsAll_46 : decode cX1_fitsAll 46 = .ok (.iconst 0, 1) := by decide +kernel
theorem dX1_fitsAll_47 : decode cX1_fitsAll 47 = .ok (.istore 5, 2) := by decide +kernel
theorem dX1_fitsAll_49 : decode cX1_fitsAll 49 = .ok (.iload 5, 2) := by decide +kernel
theorem dX1_fitsAll_51 : decode cX1_fitsAll 51 = .ok (.aload_n 0, 1) := by decide +kernel
theorem dX1_fitsAll_52 : decode cX1_fitsAll 52 = .ok (.getfield 18, 3) := by decide +kernel
theorem dX1_fitsAll_55 : decode cX1_fitsAll 55 = .ok (.iload 4, 2) := by decide +kernel
theorem dX1_fitsAll_57 : decode cX1_fitsAll 57 = .ok (.iaload, 1) := by decide +kernel
theorem dX1_fitsAll_58 : decode cX1_fitsAll 58 = .ok (.iconst 1, 1) := by decide +kernel
theorem dX1_fitsAll_59 : decode cX1_fitsAll 59 = .ok (.if_icmp .ne 7, 3) := by decide +kernel
theorem dX1_fitsAll_62 : decode cX1_fitsAll 62 = .ok (.iconst 1, 1) := by decide +kernel
theorem dX1_fitsAll_63 : decode cX1_fitsAll 63 = .ok (.goto 4, 3) := by decide +kernel
theorem dX1_fitsAll_66 : decode cX1_fitsAll 66 = .ok (.iconst 0, 1) := by decide +kernel
theorem dX1_fitsAll_67 : decode cX1_fitsAll 67 = .ok (.if_icmp .eq 5, 3) := by decide +kernel
theorem dX1_fitsAll_70 : decode cX1_fitsAll 70 = .ok (.iconst 0, 1) := by decide +kernel
theorem dX1_fitsAll_71 : decode cX1_fitsAll 71 = .ok (.ireturn, 1) := by decide +kernel
theorem dX1_fitsAll_72 : decode cX1_fitsAll 72 = .ok (.iinc 4 1, 3) := by decide +kernel
theorem dX1_fitsAll_75 : decode cX1_fitsAll 75 = .ok (.goto (-72), 3) := by decide +kernel
theorem dX1_fitsAll_78 : decode cX1_fitsAll 78 = .ok (.iconst 1, 1) := by decide +kernel
theorem dX1_fitsAll_79 : decode cX1_fitsAll 79 = .ok (.ireturn, 1) := by decide +kernel
theorem dX1_measure_0 : decode cX1_measure 0 = .ok (.aload_n 0, 1) := by decide +kernel
theorem dX1_measure_1 : decode cX1_measure 1 = .ok (.getfield 25, 3) := by decide +kernel
theorem dX1_measure_4 : decode cX1_measure 4 = .ok (.iload_n 1, 1) := by decide +kernel
theorem dX1_measure_5 : decode cX1_measure 5 = .ok (.invokevirtual 45, 3) := by decide +kernel
theorem dX1_measure_8 : decode cX1_measure 8 = .ok (.ifCond .eq 14, 3) := by decide +kernel
theorem dX1_measure_11 : decode cX1_measure 11 = .ok (.aload_n 0, 1) := by decide +kernel
theorem dX1_measure_12 : decode cX1_measure 12 = .ok (.getfield 34, 3) := by decide +kernel
theorem dX1_measure_15 : decode cX1_measure 15 = .ok (.iload_n 2, 1) := by decide +kernel
theorem dX1_measure_16 : decode cX1_measure 16 = .ok (.invokevirtual 45, 3) := by decide +kernel
theorem dX1_measure_19 : decode cX1_measure 19 = .ok (.ifCond .ne 5, 3) := by decide +kernel
theorem dX1_measure_22 : decode cX1_measure 22 = .ok (.iconst (-1), 1) := by decide +kernel
theorem dX1_measure_23 : decode cX1_measure 23 = .ok (.ireturn, 1) := by decide +kernel
theorem dX1_measure_24 : decode cX1_measure 24 = .ok (.iload_n 3, 1) := by decide +kernel
theorem dX1_measure_25 : decode cX1_measure 25 = .ok (.tableswitch 90 0 2 #[27, 47, 70], 27) := by decide +kernel
theorem dX1_measure_52 : decode cX1_measure 52 = .ok (.aload_n 0, 1) := by decide +kernel
theorem dX1_measure_53 : decode cX1_measure 53 = .ok (.getfield 25, 3) := by decide +kernel
theorem dX1_measure_56 : decode cX1_measure 56 = .ok (.getfield 49, 3) := by decide +kernel
theorem dX1_measure_59 : decode cX1_measure 59 = .ok (.iload_n 1, 1) := by decide +kernel
theorem dX1_measure_60 : decode cX1_measure 60 = .ok (.iaload, 1) := by decide +kernel
theorem dX1_measure_61 : decode cX1_measure 61 = .ok (.aload_n 0, 1) := by decide +kernel
theorem dX1_measure_62 : decode cX1_measure 62 = .ok (.getfield 34, 3) := by decide +kernel
theorem dX1_measure_65 : decode cX1_measure 65 = .ok (.getfield 49, 3) := by decide +kernel
theorem dX1_measure_68 : decode cX1_measure 68 = .ok (.iload_n 2, 1) := by decide +kernel
theorem dX1_measure_69 : decode cX1_measure 69 = .ok (.iaload, 1) := by decide +kernel
theorem dX1_measure_70 : decode cX1_measure 70 = .ok (.iadd, 1) := by decide +kernel
theorem dX1_measure_71 : decode cX1_measure 71 = .ok (.ireturn, 1) := by decide +kernel
theorem dX1_measure_72 : decode cX1_measure 72 = .ok (.aload_n 0, 1) := by decide +kernel
theorem dX1_measure_73 : decode cX1_measure 73 = .ok (.getfield 25, 3) := by decide +kernel
theorem dX1_measure_76 : decode cX1_measure 76 = .ok (.getfield 49, 3) := by decide +kernel
theorem dX1_measure_79 : decode cX1_measure 79 = .ok (.iload_n 1, 1) := by decide +kernel
theorem dX1_measure_80 : decode cX1_measure 80 = .ok (.iaload, 1) := by decide +kernel
theorem dX1_measure_81 : decode cX1_measure 81 = .ok (.aload_n 0, 1) := by decide +kernel
theorem dX1_measure_82 : decode cX1_measure 82 = .ok (.getfield 34, 3) := by decide +kernel
theorem dX1_measure_85 : decode cX1_measure 85 = .ok (.getfield 49, 3) := by decide +kernel
theorem dX1_measure_88 : decode cX1_measure 88 = .ok (.iload_n 2, 1) := by decide +kernel
theorem dX1_measure_89 : decode cX1_measure 89 = .ok (.iaload, 1) := by decide +kernel
theorem dX1_measure_90 : decode cX1_measure 90 = .ok (.isub, 1) := by decide +kernel
theorem dX1_measure_91 : decode cX1_measure 91 = .ok (.invokestatic 52, 3) := by decide +kernel
theorem dX1_measure_94 : decode cX1_measure 94 = .ok (.ireturn, 1) := by decide +kernel
theorem dX1_measure_95 : decode cX1_measure 95 = .ok (.aload_n 0, 1) := by decide +kernel
theorem dX1_measure_96 : decode cX1_measure 96 = .ok (.getfield 25, 3) := by decide +kernel
theorem dX1_measure_99 : decode cX1_measure 99 = .ok (.getfield 58, 3) := by decide +kernel
theorem dX1_measure_102 : decode cX1_measure 102 = .ok (.iload_n 1, 1) := by decide +kernel
theorem dX1_measure_103 : decode cX1_measure 103 = .ok (.iaload, 1) := by decide +kernel
theorem dX1_measure_104 : decode cX1_measure 104 = .ok (.aload_n 0, 1) := by decide +kernel
theorem dX1_measure_105 : decode cX1_measure 105 = .ok (.getfield 34, 3) := by decide +kernel
theorem dX1_measure_108 : decode cX1_measure 108 = .ok (.getfield 58, 3) := by decide +kernel
theorem dX1_measure_111 : decode cX1_measure 111 = .ok (.iload_n 2, 1) := by decide +kernel
theorem dX1_measure_112 : decode cX1_measure 112 = .ok (.iaload, 1) := by decide +kernel
theorem dX1_measure_113 : decode cX1_measure 113 = .ok (.iadd, 1) := by decide +kernel
theorem dX1_measure_114 : decode cX1_measure 114 = .ok (.ireturn, 1) := by decide +kernel
theorem dX1_measure_115 : decode cX1_measure 115 = .ok (.aload_n 0, 1) := by decide +kernel
theorem dX1_measure_116 : decode cX1_measure 116 = .ok (.getfield 25, 3) := by decide +kernel
theorem dX1_measure_119 : decode cX1_measure 119 = .ok (.getfield 61, 3) := by decide +kernel
theorem dX1_measure_122 : decode cX1_measure 122 = .ok (.iload_n 1, 1) := by decide +kernel
theorem dX1_measure_123 : decode cX1_measure 123 = .ok (.iaload, 1) := by decide +kernel
theorem dX1_measure_124 : decode cX1_measure 124 = .ok (.aload_n 0, 1) := by decide +kernel
theorem dX1_measure_125 : decode cX1_measure 125 = .ok (.getfield 34, 3) := by decide +kernel
theorem dX1_measure_128 : decode cX1_measure 128 = .ok (.getfield 61, 3) := by decide +kernel
theorem dX1_measure_131 : decode cX1_measure 131 = .ok (.iload_n 2, 1) := by decide +kernel
theorem dX1_measure_132 : decode cX1_measure 132 = .ok (.iaload, 1) := by decide +kernel
theorem dX1_measure_133 : decode cX1_measure 133 = .ok (.iadd, 1) := by decide +kernel
theorem dX1_measure_134 : decode cX1_measure 134 = .ok (.ireturn, 1) := by decide +kernel
theorem dX1_suspectAt_0 : decode cX1_suspectAt 0 = .ok (.iconst 0, 1) := by decide +kernel
theorem dX1_suspectAt_1 : decode cX1_suspectAt 1 = .ok (.istore_n 3, 1) := by decide +kernel
theorem dX1_suspectAt_2 : decode cX1_suspectAt 2 = .ok (.iconst 0, 1) := by decide +kernel
theorem dX1_suspectAt_3 : decode cX1_suspectAt 3 = .ok (.istore 4, 2) := by decide +kernel
theorem dX1_suspectAt_5 : decode cX1_suspectAt 5 = .ok (.iload 4, 2) := by decide +kernel
theorem dX1_suspectAt_7 : decode cX1_suspectAt 7 = .ok (.bipush 36, 2) := by decide +kernel
theorem dX1_suspectAt_9 : decode cX1_suspectAt 9 = .ok (.if_icmp .ge 31, 3) := by decide +kernel
theorem dX1_suspectAt_12 : decode cX1_suspectAt 12 = .ok (.lload_n 0, 1) := by decide +kernel
theorem dX1_suspectAt_13 : decode cX1_suspectAt 13 = .ok (.iload 4, 2) := by decide +kernel
theorem dX1_suspectAt_15 : decode cX1_suspectAt 15 = .ok (.lshr, 1) := by decide +kernel
theorem dX1_suspectAt_16 : decode cX1_suspectAt 16 = .ok (.lconst 1, 1) := by decide +kernel
theorem dX1_suspectAt_17 : decode cX1_suspectAt 17 = .ok (.land, 1) := by decide +kernel
theorem dX1_suspectAt_18 : decode cX1_suspectAt 18 = .ok (.lconst 1, 1) := by decide +kernel
theorem dX1_suspectAt_19 : decode cX1_suspectAt 19 = .ok (.lcmp, 1) := by decide +kernel
theorem dX1_suspectAt_20 : decode cX1_suspectAt 20 = .ok (.ifCond .ne 14, 3) := by decide +kernel
theorem dX1_suspectAt_23 : decode cX1_suspectAt 23 = .ok (.iload_n 3, 1) := by decide +kernel
theorem dX1_suspectAt_24 : decode cX1_suspectAt 24 = .ok (.iload_n 2, 1) := by decide +kernel
theorem dX1_suspectAt_25 : decode cX1_suspectAt 25 = .ok (.if_icmp .ne 6, 3) := by decide +kernel
theorem dX1_suspectAt_28 : decode cX1_suspectAt 28 = .ok (.iload 4, 2) := by decide +kernel
theorem dX1_suspectAt_30 : decode cX1_suspectAt 30 = .ok (.ireturn, 1) := by decide +kernel
theorem dX1_suspectAt_31 : decode cX1_suspectAt 31 = .ok (.iinc 3 1, 3) := by decide +kernel
theorem dX1_suspectAt_34 : decode cX1_suspectAt 34 = .ok (.iinc 4 1, 3) := by decide +kernel
theorem dX1_suspectAt_37 : decode cX1_suspectAt 37 = .ok (.goto (-32), 3) := by decide +kernel
theorem dX1_suspectAt_40 : decode cX1_suspectAt 40 = .ok (.bipush (-2), 2) := by decide +kernel
theorem dX1_suspectAt_42 : decode cX1_suspectAt 42 = .ok (.ireturn, 1) := by decide +kernel
theorem dX1_sureBlade_0 : decode cX1_sureBlade 0 = .ok (.iconst (-1), 1) := by decide +kernel
theorem dX1_sureBlade_1 : decode cX1_sureBlade 1 = .ok (.istore_n 3, 1) := by decide +kernel
theorem dX1_sureBlade_2 : decode cX1_sureBlade 2 = .ok (.iconst 0, 1) := by decide +kernel
theorem dX1_sureBlade_3 : decode cX1_sureBlade 3 = .ok (.istore 4, 2) := by decide +kernel
theorem dX1_sureBlade_5 : decode cX1_sureBlade 5 = .ok (.iload 4, 2) := by decide +kernel
theorem dX1_sureBlade_7 : decode cX1_sureBlade 7 = .ok (.bipush 36, 2) := by decide +kernel
theorem dX1_sureBlade_9 : decode cX1_sureBlade 9 = .ok (.if_icmp .ge 55, 3) := by decide +kernel
theorem dX1_sureBlade_12 : decode cX1_sureBlade 12 = .ok (.lload_n 0, 1) := by decide +kernel
theorem dX1_sureBlade_13 : decode cX1_sureBlade 13 = .ok (.iload 4, 2) := by decide +kernel
theorem dX1_sureBlade_15 : decode cX1_sureBlade 15 = .ok (.lshr, 1) := by decide +kernel
theorem dX1_sureBlade_16 : decode cX1_sureBlade 16 = .ok (.lconst 1, 1) := by decide +kernel
theorem dX1_sureBlade_17 : decode cX1_sureBlade 17 = .ok (.land, 1) := by decide +kernel
theorem dX1_sureBlade_18 : decode cX1_sureBlade 18 = .ok (.lconst 1, 1) := by decide +kernel
theorem dX1_sureBlade_19 : decode cX1_sureBlade 19 = .ok (.lcmp, 1) := by decide +kernel
theorem dX1_sureBlade_20 : decode cX1_sureBlade 20 = .ok (.ifCond .ne 38, 3) := by decide +kernel
theorem dX1_sureBlade_23 : decode cX1_sureBlade 23 = .ok (.iload_n 2, 1) := by decide +kernel
theorem dX1_sureBlade_24 : decode cX1_sureBlade 24 = .ok (.ifCond .eq 11, 3) := by decide +kernel
theorem dX1_sureBlade_27 : decode cX1_sureBlade 27 = .ok (.iload 4, 2) := by decide +kernel
theorem dX1_sureBlade_29 : decode cX1_sureBlade 29 = .ok (.bipush 6, 2) := by decide +kernel
theorem dX1_sureBlade_31 : decode cX1_sureBlade 31 = .ok (.idiv, 1) := by decide +kernel
theorem dX1_sureBlade_32 : decode cX1_sureBlade 32 = .ok (.goto 8, 3) := by decide +kernel
theorem dX1_sureBlade_35 : decode cX1_sureBlade 35 = .ok (.iload 4, 2) := by decide +kernel
theorem dX1_sureBlade_37 : decode cX1_sureBlade 37 = .ok (.bipush 6, 2) := by decide +kernel
theorem dX1_sureBlade_39 : decode cX1_sureBlade 39 = .ok (.irem, 1) := by decide +kernel
theorem dX1_sureBlade_40 : decode cX1_sureBlade 40 = .ok (.istore 5, 2) := by decide +kernel
theorem dX1_sureBlade_42 : decode cX1_sureBlade 42 = .ok (.iload_n 3, 1) := by decide +kernel
theorem dX1_sureBlade_43 : decode cX1_sureBlade 43 = .ok (.iconst (-1), 1) := by decide +kernel
theorem dX1_sureBlade_44 : decode cX1_sureBlade 44 = .ok (.if_icmp .eq 11, 3) := by decide +kernel
theorem dX1_sureBlade_47 : decode cX1_sureBlade 47 = .ok (.iload_n 3, 1) := by decide +kernel
theorem dX1_sureBlade_48 : decode cX1_sureBlade 48 = .ok (.iload 5, 2) := by decide +kernel
theorem dX1_sureBlade_50 : decode cX1_sureBlade 50 = .ok (.if_icmp .eq 5, 3) := by decide +kernel
theorem dX1_sureBlade_53 : decode cX1_sureBlade 53 = .ok (.iconst (-1), 1) := by decide +kernel
theorem dX1_sureBlade_54 : decode cX1_sureBlade 54 = .ok (.ireturn, 1) := by decide +kernel
theorem dX1_sureBlade_55 : decode cX1_sureBlade 55 = .ok (.iload 5, 2) := by decide +kernel
theorem dX1_sureBlade_57 : decode cX1_sureBlade 57 = .ok (.istore_n 3, 1) := by decide +kernel
theorem dX1_sureBlade_58 : decode cX1_sureBlade 58 = .ok (.iinc 4 1, 3) := by decide +kernel
theorem dX1_sureBlade_61 : decode cX1_sureBlade 61 = .ok (.goto (-56), 3) := by decide +kernel
theorem dX1_sureBlade_64 : decode cX1_sureBlade 64 = .ok (.iload_n 3, 1) := by decide +kernel
theorem dX1_sureBlade_65 : decode cX1_sureBlade 65 = .ok (.ireturn, 1) := by decide +kernel
theorem dX1_bestNext_0 : decode cX1_bestNext 0 = .ok (.iconst (-1), 1) := by decide +kernel
theorem dX1_bestNext_1 : decode cX1_bestNext 1 = .ok (.istore_n 3, 1) := by decide +kernel
theorem dX1_bestNext_2 : decode cX1_bestNext 2 = .ok (.bipush 37, 2) := by decide +kernel
theorem dX1_bestNext_4 : decode cX1_bestNext 4 = .ok (.istore 4, 2) := by decide +kernel
theorem dX1_bestNext_6 : decode cX1_bestNext 6 = .ok (.iconst 0, 1) := by decide +kernel
theorem dX1_bestNext_7 : decode cX1_bestNext 7 = .ok (.istore 5, 2) := by decide +kernel
theorem dX1_bestNext_9 : decode cX1_bestNext 9 = .ok (.iload 5, 2) := by decide +kernel
theorem dX1_bestNext_11 : decode cX1_bestNext 11 = .ok (.iconst 4, 1) := by decide +kernel
theorem dX1_bestNext_12 : decode cX1_bestNext 12 = .ok (.if_icmp .ge 38, 3) := by decide +kernel
theorem dX1_bestNext_15 : decode cX1_bestNext 15 = .ok (.lload_n 1, 1) := by decide +kernel
theorem dX1_bestNext_16 : decode cX1_bestNext 16 = .ok (.lconst 0, 1) := by decide +kernel
theorem dX1_bestNext_17 : decode cX1_bestNext 17 = .ok (.lcmp, 1) := by decide +kernel
theorem dX1_bestNext_18 : decode cX1_bestNext 18 = .ok (.ifCond .eq 32, 3) := by decide +kernel
theorem dX1_bestNext_21 : decode cX1_bestNext 21 = .ok (.aload_n 0, 1) := by decide +kernel
theorem dX1_bestNext_22 : decode cX1_bestNext 22 = .ok (.lload_n 1, 1) := by decide +kernel
theorem dX1_bestNext_23 : decode cX1_bestNext 23 = .ok (.iload 5, 2) := by decide +kernel
theorem dX1_bestNext_25 : decode cX1_bestNext 25 = .ok (.invokestatic 64, 3) := by decide +kernel
theorem dX1_bestNext_28 : decode cX1_bestNext 28 = .ok (.istore 6, 2) := by decide +kernel
theorem dX1_bestNext_30 : decode cX1_bestNext 30 = .ok (.iload 6, 2) := by decide +kernel
theorem dX1_bestNext_32 : decode cX1_bestNext 32 = .ok (.iload 4, 2) := by decide +kernel
theorem dX1_bestNext_34 : decode cX1_bestNext 34 = .ok (.if_icmp .ge 10, 3) := by decide +kernel
theorem dX1_bestNext_37 : decode cX1_bestNext 37 = .ok (.iload 6, 2) := by decide +kernel
theorem dX1_bestNext_39 : decode cX1_bestNext 39 = .ok (.istore 4, 2) := by decide +kernel
theorem dX1_bestNext_41 : decode cX1_bestNext 41 = .ok (.iload 5, 2) := by decide +kernel
theorem dX1_bestNext_43 : decode cX1_bestNext 43 = .ok (.istore_n 3, 1) := by decide +kernel
theorem dX1_bestNext_44 : decode cX1_bestNext 44 = .ok (.iinc 5 1, 3) := by decide +kernel
theorem dX1_bestNext_47 : decode cX1_bestNext 47 = .ok (.goto (-38), 3) := by decide +kernel
theorem dX1_bestNext_50 : decode cX1_bestNext 50 = .ok (.iload_n 3, 1) := by decide +kernel
theorem dX1_bestNext_51 : decode cX1_bestNext 51 = .ok (.ireturn, 1) := by decide +kernel
theorem dX1_largestAlike_0 : decode cX1_largestAlike 0 = .ok (.iconst 0, 1) := by decide +kernel
theorem dX1_largestAlike_1 : decode cX1_largestAlike 1 = .ok (.istore 4, 2) := by decide +kernel
theorem dX1_largestAlike_3 : decode cX1_largestAlike 3 = .ok (.iconst 0, 1) := by decide +kernel
theorem dX1_largestAlike_4 : decode cX1_largestAlike 4 = .ok (.istore 5, 2) := by decide +kernel
theorem dX1_largestAlike_6 : decode cX1_largestAlike 6 = .ok (.iload 5, 2) := by decide +kernel
theorem dX1_largestAlike_8 : decode cX1_largestAlike 8 = .ok (.bipush 36, 2) := by decide +kernel
theorem dX1_largestAlike_10 : decode cX1_largestAlike 10 = .ok (.if_icmp .ge 52, 3) := by decide +kernel
theorem dX1_largestAlike_13 : decode cX1_largestAlike 13 = .ok (.lload_n 1, 1) := by decide +kernel
theorem dX1_largestAlike_14 : decode cX1_largestAlike 14 = .ok (.iload 5, 2) := by decide +kernel
theorem dX1_largestAlike_16 : decode cX1_largestAlike 16 = .ok (.lshr, 1) := by decide +kernel
theorem dX1_largestAlike_17 : decode cX1_largestAlike 17 = .ok (.lconst 1, 1) := by decide +kernel
theorem dX1_largestAlike_18 : decode cX1_largestAlike 18 = .ok (.land, 1) := by decide +kernel
theorem dX1_largestAlike_19 : decode cX1_largestAlike 19 = .ok (.lconst 1, 1) := by decide +kernel
theorem dX1_largestAlike_20 : decode cX1_largestAlike 20 = .ok (.lcmp, 1) := by decide +kernel
theorem dX1_largestAlike_21 : decode cX1_largestAlike 21 = .ok (.ifCond .ne 35, 3) := by decide +kernel
theorem dX1_largestAlike_24 : decode cX1_largestAlike 24 = .ok (.aload_n 0, 1) := by decide +kernel
theorem dX1_largestAlike_25 : decode cX1_largestAlike 25 = .ok (.iload 5, 2) := by decide +kernel
theorem dX1_largestAlike_27 : decode cX1_largestAlike 27 = .ok (.bipush 6, 2) := by decide +kernel
theorem dX1_largestAlike_29 : decode cX1_largestAlike 29 = .ok (.idiv, 1) := by decide +kernel
theorem dX1_largestAlike_30 : decode cX1_largestAlike 30 = .ok (.iload 5, 2) := by decide +kernel
theorem dX1_largestAlike_32 : decode cX1_largestAlike 32 = .ok (.bipush 6, 2) := by decide +kernel
theorem dX1_largestAlike_34 : decode cX1_largestAlike 34 = .ok (.irem, 1) := by decide +kernel
theorem dX1_largestAlike_35 : decode cX1_largestAlike 35 = .ok (.iload_n 3, 1) := by decide +kernel
theorem dX1_largestAlike_36 : decode cX1_largestAlike 36 = .ok (.invokestatic 41, 3) := by decide +kernel
theorem dX1_largestAlike_39 : decode cX1_largestAlike 39 = .ok (.istore 6, 2) := by decide +kernel
theorem dX1_largestAlike_41 : decode cX1_largestAlike 41 = .ok (.iload 4, 2) := by decide +kernel
theorem dX1_largestAlike_43 : decode cX1_largestAlike 43 = .ok (.aload_n 0, 1) := by decide +kernel
theorem dX1_largestAlike_44 : decode cX1_largestAlike 44 = .ok (.lload_n 1, 1) := by decide +kernel
theorem dX1_largestAlike_45 : decode cX1_largestAlike 45 = .ok (.iload_n 3, 1) := by decide +kernel
theorem dX1_largestAlike_46 : decode cX1_largestAlike 46 = .ok (.iload 6, 2) := by decide +kernel
theorem dX1_largestAlike_48 : decode cX1_largestAlike 48 = .ok (.invokestatic 68, 3) := by decide +kernel
theorem dX1_largestAlike_51 : decode cX1_largestAlike 51 = .ok (.invokestatic 72, 3) := by decide +kernel
theorem dX1_largestAlike_54 : decode cX1_largestAlike 54 = .ok (.istore 4, 2) := by decide +kernel
theorem dX1_largestAlike_56 : decode cX1_largestAlike 56 = .ok (.iinc 5 1, 3) := by decide +kernel
theorem dX1_largestAlike_59 : decode cX1_largestAlike 59 = .ok (.goto (-53), 3) := by decide +kernel
theorem dX1_largestAlike_62 : decode cX1_largestAlike 62 = .ok (.iload 4, 2) := by decide +kernel
theorem dX1_largestAlike_64 : decode cX1_largestAlike 64 = .ok (.ireturn, 1) := by decide +kernel
theorem dX1_alike_0 : decode cX1_alike 0 = .ok (.iconst 0, 1) := by decide +kernel
theorem dX1_alike_1 : decode cX1_alike 1 = .ok (.istore 5, 2) := by decide +kernel
theorem dX1_alike_3 : decode cX1_alike 3 = .ok (.iconst 0, 1) := by decide +kernel
theorem dX1_alike_4 : decode cX1_alike 4 = .ok (.istore 6, 2) := by decide +kernel
theorem dX1_alike_6 : decode cX1_alike 6 = .ok (.iload 6, 2) := by decide +kernel
theorem dX1_alike_8 : decode cX1_alike 8 = .ok (.bipush 36, 2) := by decide +kernel
theorem dX1_alike_10 : decode cX1_alike 10 = .ok (.if_icmp .ge 43, 3) := by decide +kernel
theorem dX1_alike_13 : decode cX1_alike 13 = .ok (.lload_n 1, 1) := by decide +kernel
theorem dX1_alike_14 : decode cX1_alike 14 = .ok (.iload 6, 2) := by decide +kernel
theorem dX1_alike_16 : decode cX1_alike 16 = .ok (.lshr, 1) := by decide +kernel
theorem dX1_alike_17 : decode cX1_alike 17 = .ok (.lconst 1, 1) := by decide +kernel
theorem dX1_alike_18 : decode cX1_alike 18 = .ok (.land, 1) := by decide +kernel
theorem dX1_alike_19 : decode cX1_alike 19 = .ok (.lconst 1, 1) := by decide +kernel
theorem dX1_alike_20 : decode cX1_alike 20 = .ok (.lcmp, 1) := by decide +kernel
theorem dX1_alike_21 : decode cX1_alike 21 = .ok (.ifCond .ne 26, 3) := by decide +kernel
theorem dX1_alike_24 : decode cX1_alike 24 = .ok (.aload_n 0, 1) := by decide +kernel
theorem dX1_alike_25 : decode cX1_alike 25 = .ok (.iload 6, 2) := by decide +kernel
theorem dX1_alike_27 : decode cX1_alike 27 = .ok (.bipush 6, 2) := by decide +kernel
theorem dX1_alike_29 : decode cX1_alike 29 = .ok (.idiv, 1) := by decide +kernel
theorem dX1_alike_30 : decode cX1_alike 30 = .ok (.iload 6, 2) := by decide +kernel
theorem dX1_alike_32 : decode cX1_alike 32 = .ok (.bipush 6, 2) := by decide +kernel
theorem dX1_alike_34 : decode cX1_alike 34 = .ok (.irem, 1) := by decide +kernel
theorem dX1_alike_35 : decode cX1_alike 35 = .ok (.iload_n 3, 1) := by decide +kernel
theorem dX1_alike_36 : decode cX1_alike 36 = .ok (.invokestatic 41, 3) := by decide +kernel
theorem dX1_alike_39 : decode cX1_alike 39 = .ok (.iload 4, 2) := by decide +kernel
theorem dX1_alike_41 : decode cX1_alike 41 = .ok (.if_icmp .ne 6, 3) := by decide +kernel
theorem dX1_alike_44 : decode cX1_alike 44 = .ok (.iinc 5 1, 3) := by decide +kernel
theorem dX1_alike_47 : decode cX1_alike 47 = .ok (.iinc 6 1, 3) := by decide +kernel
theorem dX1_alike_50 : decode cX1_alike 50 = .ok (.goto (-44), 3) := by decide +kernel
theorem dX1_alike_53 : decode cX1_alike 53 = .ok (.iload 5, 2) := by decide +kernel
theorem dX1_alike_55 : decode cX1_alike 55 = .ok (.ireturn, 1) := by decide +kernel
theorem dX11_whose_0 : decode cX11_whose 0 = .ok (.aload_n 0, 1) := by decide +kernel
theorem dX11_whose_1 : decode cX11_whose 1 = .ok (.getfield 10, 3) := by decide +kernel
theorem dX11_whose_4 : decode cX11_whose 4 = .ok (.iload_n 1, 1) := by decide +kernel
theorem dX11_whose_5 : decode cX11_whose 5 = .ok (.invokevirtual 94, 3) := by decide +kernel
theorem dX11_whose_8 : decode cX11_whose 8 = .ok (.astore 4, 2) := by decide +kernel
theorem dX11_whose_10 : decode cX11_whose 10 = .ok (.aload_n 0, 1) := by decide +kernel
theorem dX11_whose_11 : decode cX11_whose 11 = .ok (.getfield 10, 3) := by decide +kernel
theorem dX11_whose_14 : decode cX11_whose 14 = .ok (.iload_n 2, 1) := by decide +kernel
theorem dX11_whose_15 : decode cX11_whose 15 = .ok (.invokevirtual 223, 3) := by decide +kernel
theorem dX11_whose_18 : decode cX11_whose 18 = .ok (.astore 5, 2) := by decide +kernel
theorem dX11_whose_20 : decode cX11_whose 20 = .ok (.aload 4, 2) := by decide +kernel
theorem dX11_whose_22 : decode cX11_whose 22 = .ok (.ifnull 8, 3) := by decide +kernel
theorem dX11_whose_25 : decode cX11_whose 25 = .ok (.aload 5, 2) := by decide +kernel
theorem dX11_whose_27 : decode cX11_whose 27 = .ok (.ifnonnull 6, 3) := by decide +kernel
theorem dX11_whose_30 : decode cX11_whose 30 = .ok (.bipush (-2), 2) := by decide +kernel
theorem dX11_whose_32 : decode cX11_whose 32 = .ok (.ireturn, 1) := by decide +kernel
theorem dX11_whose_33 : decode cX11_whose 33 = .ok (.aload 5, 2) := by decide +kernel
theorem dX11_whose_35 : decode cX11_whose 35 = .ok (.aload 4, 2) := by decide +kernel
theorem dX11_whose_37 : decode cX11_whose 37 = .ok (.invokevirtual 230, 3) := by decide +kernel
theorem dX11_whose_40 : decode cX11_whose 40 = .ok (.lstore 6, 2) := by decide +kernel
theorem dX11_whose_42 : decode cX11_whose 42 = .ok (.iload_n 3, 1) := by decide +kernel
theorem dX11_whose_43 : decode cX11_whose 43 = .ok (.tableswitch 57 0 3 #[29, 35, 42, 49], 29) := by decide +kernel
theorem dX11_whose_72 : decode cX11_whose 72 = .ok (.lload 6, 2) := by decide +kernel
theorem dX11_whose_74 : decode cX11_whose 74 = .ok (.invokestatic 234, 3) := by decide +kernel
theorem dX11_whose_77 : decode cX11_whose 77 = .ok (.ireturn, 1) := by decide +kernel
theorem dX11_whose_78 : decode cX11_whose 78 = .ok (.lload 6, 2) := by decide +kernel
theorem dX11_whose_80 : decode cX11_whose 80 = .ok (.iconst 1, 1) := by decide +kernel
theorem dX11_whose_81 : decode cX11_whose 81 = .ok (.invokestatic 240, 3) := by decide +kernel
theorem dX11_whose_84 : decode cX11_whose 84 = .ok (.ireturn, 1) := by decide +kernel
theorem dX11_whose_85 : decode cX11_whose 85 = .ok (.lload 6, 2) := by decide +kernel
theorem dX11_whose_87 : decode cX11_whose 87 = .ok (.iconst 0, 1) := by decide +kernel
theorem dX11_whose_88 : decode cX11_whose 88 = .ok (.invokestatic 240, 3) := by decide +kernel
theorem dX11_whose_91 : decode cX11_whose 91 = .ok (.ireturn, 1) := by decide +kernel
theorem dX11_whose_92 : decode cX11_whose 92 = .ok (.aload 4, 2) := by decide +kernel
theorem dX11_whose_94 : decode cX11_whose 94 = .ok (.lload 6, 2) := by decide +kernel
theorem dX11_whose_96 : decode cX11_whose 96 = .ok (.invokestatic 244, 3) := by decide +kernel
theorem dX11_whose_99 : decode cX11_whose 99 = .ok (.ireturn, 1) := by decide +kernel
theorem dX11_whose_100 : decode cX11_whose 100 = .ok (.iload_n 3, 1) := by decide +kernel
theorem dX11_whose_101 : decode cX11_whose 101 = .ok (.bipush 10, 2) := by decide +kernel
theorem dX11_whose_103 : decode cX11_whose 103 = .ok (.if_icmp .ge 8, 3) := by decide +kernel
theorem dX11_whose_106 : decode cX11_whose 106 = .ok (.bipush (-2), 2) := by decide +kernel
theorem dX11_whose_108 : decode cX11_whose 108 = .ok (.goto 12, 3) := by decide +kernel
theorem dX11_whose_111 : decode cX11_whose 111 = .ok (.lload 6, 2) := by decide +kernel
theorem dX11_whose_113 : decode cX11_whose 113 = .ok (.iload_n 3, 1) := by decide +kernel
theorem dX11_whose_114 : decode cX11_whose 114 = .ok (.bipush 10, 2) := by decide +kernel
theorem dX11_whose_116 : decode cX11_whose 116 = .ok (.isub, 1) := by decide +kernel
theorem dX11_whose_117 : decode cX11_whose 117 = .ok (.invokestatic 248, 3) := by decide +kernel
theorem dX11_whose_120 : decode cX11_whose 120 = .ok (.ireturn, 1) := by decide +kernel
theorem tf_1_25 : tFld TB0 1 25 = some (2, 0) := rfl
theorem tf_1_31 : tFld TB0 1 31 = some (0, 5) := rfl
theorem tf_1_34 : tFld TB0 1 34 = some (2, 1) := rfl
theorem tf_1_49 : tFld TB0 1 49 = some (0, 0) := rfl
theorem tf_1_58 : tFld TB0 1 58 = some (0, 2) := rfl
theorem tf_1_61 : tFld TB0 1 61 = some (0, 3) := rfl
set_option maxRecDepth 20000 in
theorem tm_1_37 : tMet TB0 1 37 = some (0, M_X1_fitsAll) := rfl
set_option maxRecDepth 20000 in
theorem tm_1_41 : tMet TB0 1 41 = some (1, M_X1_measure) := rfl
set_option maxRecDepth 20000 in
theorem tm_1_45 : tMet TB0 1 45 = some (0, M_X0_has) := rfl
set_option maxRecDepth 20000 in
theorem tm_1_52 : tMet TB0 1 52 = some (12, M_none) := rfl
set_option maxRecDepth 20000 in
theorem tm_1_64 : tMet TB0 1 64 = some (1, M_X1_largestAlike) := rfl
set_option maxRecDepth 20000 in
theorem tm_1_68 : tMet TB0 1 68 = some (1, M_X1_alike) := rfl
set_option maxRecDepth 20000 in
theorem tm_1_72 : tMet TB0 1 72 = some (10, M_none) := rfl
set_option maxRecDepth 20000 in
theorem tm_11_230 : tMet TB0 11 230 = some (0, M_X1_suspects) := rfl
set_option maxRecDepth 20000 in
theorem tm_11_234 : tMet TB0 11 234 = some (1, M_J13_bitCount_95d88) := rfl
set_option maxRecDepth 20000 in
theorem tm_11_240 : tMet TB0 11 240 = some (1, M_X1_sureBlade) := rfl
set_option maxRecDepth 20000 in
theorem tm_11_244 : tMet TB0 11 244 = some (1, M_X1_bestNext) := rfl
set_option maxRecDepth 20000 in
theorem tm_11_248 : tMet TB0 11 248 = some (1, M_X1_suspectAt) := rfl
/-! WHOSE: which couples, bits of a long -/
def allN (P : Int → Prop) [DecidablePred P] : Nat → Bool
  | 0 => true
  | k + 1 => allN P k && decide (P (k : Int))
theorem allN_i {P : Int → Prop} [DecidablePred P] {n : Nat} : allN P n = true ↔ ∀ i : Int, 0 ≤ i → i < n → P i := by
  induction n with
  | zero => exact ⟨fun _ i a c => by omega, fun _ => rfl⟩
  | succ k ih =>
    show (allN P k && decide (P (k : Int))) = true ↔ _
    rw [Bool.and_eq_true, decide_eq_true_eq, ih]
    constructor
    · rintro ⟨h1, h2⟩ i a c
      by_cases q : i = (k : Int)
      · rw [q]; exact h2
      · exact h1 i a (by omega)
    · intro h
      exact ⟨fun i a c => h i a (by omega), h k (by omega) (by omega)⟩
def ms2 (g : Int → Int) (s d u : Int) : Int := if s = 0 then dl g d + ul g u else if s = 1 then absI (dl g d - ul g u) else if s = 2 then de g d + ue g u else dh g d + uh g u
theorem ms2_0 {g : Int → Int} {s d u : Int} (h : s = 0) : dl g d + ul g u = ms2 g s d u := (if_pos h).symm
theorem ms2_1 {g : Int → Int} {s d u : Int} (h : s = 1) : absI (dl g d - ul g u) = ms2 g s d u := by unfold ms2; rw [if_neg (by omega), if_pos h]
theorem ms2_2 {g : Int → Int} {s d u : Int} (h : s = 2) : de g d + ue g u = ms2 g s d u := by unfold ms2; rw [if_neg (by omega), if_neg (by omega), if_pos h]
theorem ms2_3 {g : Int → Int} {s d u : Int} (h : s = 3) : dh g d + uh g u = ms2 g s d u := by unfold ms2; rw [if_neg (by omega), if_neg (by omega), if_neg (by omega)]
theorem ms2_b {g : Int → Int} (w : wfB g) (s : Int) {d u : Int} (hd : 0 ≤ d ∧ d < nd g) (hu : 0 ≤ u ∧ u < nu g) : 0 ≤ ms2 g s d u ∧ ms2 g s d u ≤ 40 := by
  have h1 := wB_d w hd.1 hd.2
  have h2 := wB_u w hu.1 hu.2
  have h3 := absI_s (dl g d - ul g u)
  unfold ms2
  split
  · omega
  · split
    · omega
    · split <;> omega
abbrev clP (g K : Int → Int) (d u i : Int) : Prop := (ms2 g (ysr K i) d u = yfi K i) ↔ (yse K i = 1)
abbrev suP (g K : Int → Int) (k : Int) : Prop := (k / 6 < nd g ∧ k % 6 < nu g) ∧ allN (clP g K (k / 6) (k % 6)) (K 0).toNat = true
theorem suP_i {g K : Int → Int} {i j : Int} (h0 : 0 ≤ j) (h1 : j < 6) : suP g K (6 * i + j) ↔ (i < nd g ∧ j < nu g) ∧ allN (clP g K i j) (K 0).toNat = true := by
  have e := lon_i (i := i) h0 h1
  unfold suP
  rw [e.1, e.2]
def cN (g K : Int → Int) (c N : Int) : Prop := (0 ≤ c ∧ c < 68719476736) ∧ ∀ k, 0 ≤ k → k < 36 → (hasZ c k ↔ (suP g K k ∧ k < N))
def cS (g K : Int → Int) (c : Int) : Prop := (0 ≤ c ∧ c < 68719476736) ∧ ∀ k, 0 ≤ k → k < 36 → (hasZ c k ↔ suP g K k)
theorem has_0 (k : Int) : ¬ hasZ 0 k := by unfold hasZ; rw [show (0 : Int).toNat = 0 from rfl, Nat.zero_testBit]; exact Bool.false_ne_true
theorem cN_0 (g K : Int → Int) : cN g K 0 0 := ⟨⟨by omega, by omega⟩, fun k a c => ⟨fun q => absurd q (has_0 k), fun q => by omega⟩⟩
theorem cN_skip {g K : Int → Int} {c N N' : Int} (H : cN g K c N) (hN : N ≤ N') (q : ∀ k, N ≤ k → k < N' → k < 36 → ¬ suP g K k) : cN g K c N' := ⟨H.1, fun k a e => (H.2 k a e).trans ⟨fun z => ⟨z.1, by omega⟩, fun z => ⟨z.1, by
  rcases Int.lt_or_le k N with w | w
  · exact w
  · exact absurd z.1 (q k w z.2 e)⟩⟩⟩
theorem cN_yes {g K : Int → Int} {c N : Int} (H : cN g K c N) (h0 : 0 ≤ N) (h1 : N < 36) (p : suP g K N) : cN g K (orZ c (shlZ 1 N)) (N + 1) := by
  have s := shl_36 N
  refine ⟨or_36 H.1 ⟨s.1, s.2 h1⟩, fun k a e => ?_⟩
  rw [or_has, H.2 k a e, show shlZ 1 N = b1 N from rfl, has_b1 h0 a]
  constructor
  · rintro (z | z)
    · exact ⟨z.1, by omega⟩
    · rw [z]; exact ⟨p, by omega⟩
  · intro z
    rcases Int.lt_or_le k N with w | w
    · exact Or.inl ⟨z.1, w⟩
    · exact Or.inr (by omega)
theorem cN_S {g K : Int → Int} {c N : Int} (H : cN g K c N) (h : 36 ≤ N) : cS g K c := ⟨H.1, fun k a e => (H.2 k a e).trans ⟨fun z => z.1, fun z => ⟨z, by omega⟩⟩⟩
theorem cN_b {g K : Int → Int} {c N : Int} (H : cN g K c N) : 0 ≤ c ∧ c < 68719476736 := H.1
theorem cS_b {g K : Int → Int} {c : Int} (H : cS g K c) : 0 ≤ c ∧ c < 68719476736 := H.1
theorem cS_t {g K : Int → Int} {c i : Int} (H : cS g K c) (h0 : 0 ≤ i) (h1 : i < 36) : andZ (shrZ c i) 1 = 1 ↔ suP g K i := hasZ_i.trans (H.2 i h0 h1)
def suC (g K : Int → Int) (n : Int) : Int := sumZ (fun k => bZ (suP g K k)) n.toNat
theorem suC_1 {g K : Int → Int} {i : Int} (h : 0 ≤ i) (p : suP g K i) : suC g K (i + 1) = suC g K i + 1 := by unfold suC; rw [sumZ_s h, bZ_1 p]
theorem suC_n {g K : Int → Int} {i : Int} (h : 0 ≤ i) (p : ¬ suP g K i) : suC g K (i + 1) = suC g K i := by unfold suC; rw [sumZ_s h, bZ_0 p, Int.add_zero]
theorem suC_b (g K : Int → Int) {i : Int} (h : 0 ≤ i) : 0 ≤ suC g K i ∧ suC g K i ≤ i := by
  have := sumZ_b (f := fun k => bZ (suP g K k)) (lo := 0) (hi := 1) (n := i.toNat) (fun i _ _ => ⟨bZ_lo _, bZ_hi _⟩)
  unfold suC; omega
theorem suC_m (g K : Int → Int) {i : Int} (h : 0 ≤ i) (n : Nat) : suC g K i ≤ suC g K (i + n) := by
  induction n with
  | zero => rw [show i + ((0 : Nat) : Int) = i by omega]; exact Int.le_refl _
  | succ n ih =>
    rw [show i + ((n + 1 : Nat) : Int) = (i + n) + 1 by omega]
    by_cases p : suP g K (i + n)
    · rw [suC_1 (by omega) p]; omega
    · rw [suC_n (by omega) p]; exact ih
theorem suC_lt {g K : Int → Int} {i j : Int} (h : 0 ≤ i) (p : suP g K i) (q : i < j) : suC g K i < suC g K j := by
  have h1 := suC_m g K (show 0 ≤ i + 1 by omega) (j - (i + 1)).toNat
  rw [show i + 1 + ((j - (i + 1)).toNat : Int) = j by omega, suC_1 h p] at h1
  omega
theorem suC_le (g K : Int → Int) {i j : Int} (h : 0 ≤ i) (q : i ≤ j) : suC g K i ≤ suC g K j := by
  have h1 := suC_m g K h (j - i).toNat
  rw [show i + ((j - i).toNat : Int) = j by omega] at h1
  exact h1
theorem suC_z {g K : Int → Int} (h : suC g K 36 = 0) {k : Int} (h0 : 0 ≤ k) (h1 : k < 36) : ¬ suP g K k := fun p => by
  have a := suC_lt h0 p h1
  have b := (suC_b g K h0).1
  omega
theorem cS_z {g K : Int → Int} {c : Int} (H : cS g K c) : c = 0 ↔ suC g K 36 = 0 := by
  constructor
  · intro e
    subst e
    have n : ∀ k, 0 ≤ k → k < 36 → ¬ suP g K k := fun k a e p => has_0 k ((H.2 k a e).mpr p)
    have : ∀ m : Nat, m ≤ 36 → suC g K (m : Int) = 0 := by
      intro m
      induction m with
      | zero => intro _; rfl
      | succ m ih =>
        intro hm
        rw [show ((m + 1 : Nat) : Int) = (m : Int) + 1 by omega, suC_n (by omega) (n m (by omega) (by omega))]
        exact ih (by omega)
    exact this 36 (by omega)
  · intro e
    have n : c.toNat = 0 := by
      apply Nat.eq_of_testBit_eq
      intro i
      rw [Nat.zero_testBit]
      by_cases q : i < 36
      · have h1 := suC_z e (k := (i : Int)) (by omega) (by omega)
        have h2 := fun z => h1 ((H.2 (i : Int) (by omega) (by omega)).mp z)
        unfold hasZ at h2
        rw [Int.toNat_natCast] at h2
        exact Bool.eq_false_iff.mpr h2
      · have hc := H.1
        exact Nat.testBit_lt_two_pow (Nat.lt_of_lt_of_le (show c.toNat < 68719476736 by omega) (by have := Nat.pow_le_pow_right (n := 2) (by omega) (show 36 ≤ i by omega); omega))
    have := H.1
    omega
theorem pc_S {g K : Int → Int} {c : Int} (H : cS g K c) : pcZ c = suC g K 36 := sumZ_e (fun i a e => bZ_iff (H.2 i a (by omega)))
/-- the one at a place -/
def atR (g K : Int → Int) (k v : Int) : Prop := (v = -2 ∧ ∀ e, 0 ≤ e → e < 36 → suP g K e → suC g K e ≠ k) ∨ ((0 ≤ v ∧ v < 36) ∧ suP g K v ∧ suC g K v = k)
theorem atR_u {g K : Int → Int} {k v v' : Int} (x : atR g K k v) (y : atR g K k v') : v = v' := by
  rcases x with ⟨x1, x2⟩ | ⟨x1, x2, x3⟩ <;> rcases y with ⟨y1, y2⟩ | ⟨y1, y2, y3⟩
  · omega
  · exact absurd y3 (x2 v' y1.1 y1.2 y2)
  · exact absurd x3 (y2 v x1.1 x1.2 x2)
  · rcases (show v < v' ∨ v = v' ∨ v' < v by omega) with q | q | q
    · have := suC_lt x1.1 x2 q; omega
    · exact q
    · have := suC_lt y1.1 y2 q; omega
/-- what all have -/
def sr0 (P : Int → Prop) (f : Int → Int) (N v : Int) : Prop := (v = -1 ∧ ∀ k, 0 ≤ k → k < N → ¬ P k) ∨ (0 ≤ v ∧ (∃ k, (0 ≤ k ∧ k < N) ∧ P k) ∧ ∀ k, 0 ≤ k → k < N → P k → f k = v)
def srR (P : Int → Prop) (f : Int → Int) (N v : Int) : Prop := sr0 P f N v ∨ (v = -1 ∧ ∃ k k', (0 ≤ k ∧ k < N) ∧ (0 ≤ k' ∧ k' < N) ∧ P k ∧ P k' ∧ f k ≠ f k')
theorem sr0_0 (P : Int → Prop) (f : Int → Int) : sr0 P f 0 (-1) := Or.inl ⟨rfl, fun k a c => by omega⟩
theorem sr0_no {P : Int → Prop} {f : Int → Int} {i v : Int} (H : sr0 P f i v) (p : ¬ P i) : sr0 P f (i + 1) v := by
  rcases H with ⟨h1, h2⟩ | ⟨h1, ⟨k, h2, h3⟩, h4⟩
  · exact Or.inl ⟨h1, allS h2 p⟩
  · refine Or.inr ⟨h1, ⟨k, by omega, h3⟩, fun k a c q => ?_⟩
    by_cases z : k = i
    · rw [z] at q; exact absurd q p
    · exact h4 k a (by omega) q
theorem sr0_yes {P : Int → Prop} {f : Int → Int} {i v : Int} (H : sr0 P f i v) (h0 : 0 ≤ i) (p : P i) (f0 : 0 ≤ f i) (q : v = -1 ∨ v = f i) : sr0 P f (i + 1) (f i) := by
  rcases H with ⟨h1, h2⟩ | ⟨h1, ⟨k, h2, h3⟩, h4⟩
  · refine Or.inr ⟨f0, ⟨i, by omega, p⟩, fun k a c pk => ?_⟩
    by_cases z : k = i
    · rw [z]
    · exact absurd pk (h2 k a (by omega))
  · refine Or.inr ⟨f0, ⟨i, by omega, p⟩, fun k a c pk => ?_⟩
    by_cases z : k = i
    · rw [z]
    · rw [h4 k a (by omega) pk]; omega
theorem sr0_c {P : Int → Prop} {f : Int → Int} {i v N : Int} (H : sr0 P f i v) (h0 : 0 ≤ i) (h1 : i < N) (p : P i) (q : v ≠ -1) (q2 : v ≠ f i) : srR P f N (-1) := by
  rcases H with ⟨a1, a2⟩ | ⟨a1, ⟨k, a2, a3⟩, a4⟩
  · exact absurd a1 q
  · exact Or.inr ⟨rfl, k, i, by omega, by omega, a3, p, by rw [a4 k a2.1 a2.2 a3]; exact q2⟩
theorem sr0_b {P : Int → Prop} {f : Int → Int} {N v : Int} (H : sr0 P f N v) : -1 ≤ v := by rcases H with q | q <;> omega
theorem srR_u {P : Int → Prop} {f : Int → Int} {N v v' : Int} (x : srR P f N v) (y : srR P f N v') : v = v' := by
  rcases x with (⟨x1, x2⟩ | ⟨x1, ⟨k, x2, x3⟩, x4⟩) | ⟨x1, k, k', x2, x3, x4, x5, x6⟩ <;> rcases y with (⟨y1, y2⟩ | ⟨y1, ⟨e, y2, y3⟩, y4⟩) | ⟨y1, e, e', y2, y3, y4, y5, y6⟩
  · omega
  · exact absurd y3 (x2 e y2.1 y2.2)
  · omega
  · exact absurd x3 (y2 k x2.1 x2.2)
  · rw [← x4 k x2.1 x2.2 x3, ← y4 k x2.1 x2.2 x3]
  · exact absurd ((x4 e y2.1 y2.2 y4).trans (x4 e' y3.1 y3.2 y5).symm) y6
  · omega
  · exact absurd ((y4 k x2.1 x2.2 x4).trans (y4 k' x3.1 x3.2 x5).symm) x6
  · omega
/-- the greatest -/
def mxQ (P : Int → Prop) [DecidablePred P] (f : Int → Int) : Nat → Int
  | 0 => 0
  | k + 1 => if P (k : Int) then max (mxQ P f k) (f (k : Int)) else mxQ P f k
theorem mxQ_1 {P : Int → Prop} [DecidablePred P] {f : Int → Int} {i : Int} (h : 0 ≤ i) (p : P i) : mxQ P f (i + 1).toNat = max (mxQ P f i.toNat) (f i) := by
  rw [show (i + 1).toNat = i.toNat + 1 by omega]
  show (if P (i.toNat : Int) then max (mxQ P f i.toNat) (f (i.toNat : Int)) else mxQ P f i.toNat) = _
  rw [Int.toNat_of_nonneg h, if_pos p]
theorem mxQ_n {P : Int → Prop} [DecidablePred P] {f : Int → Int} {i : Int} (h : 0 ≤ i) (p : ¬ P i) : mxQ P f (i + 1).toNat = mxQ P f i.toNat := by
  rw [show (i + 1).toNat = i.toNat + 1 by omega]
  show (if P (i.toNat : Int) then max (mxQ P f i.toNat) (f (i.toNat : Int)) else mxQ P f i.toNat) = _
  rw [Int.toNat_of_nonneg h, if_neg p]
theorem mxQ_b {P : Int → Prop} [DecidablePred P] {f : Int → Int} {hi : Int} (h : ∀ k, f k ≤ hi) (h0 : 0 ≤ hi) (n : Nat) : 0 ≤ mxQ P f n ∧ mxQ P f n ≤ hi := by
  induction n with
  | zero => exact ⟨Int.le_refl 0, h0⟩
  | succ n ih =>
    have := h (n : Int)
    have e : mxQ P f (n + 1) = if P (n : Int) then max (mxQ P f n) (f (n : Int)) else mxQ P f n := rfl
    rw [e]
    split <;> omega
def msK (g : Int → Int) (s k : Int) : Int := ms2 g s (k / 6) (k % 6)
def akZ (g K : Int → Int) (s n : Int) : Int := sumZ (fun k => bZ (suP g K k ∧ msK g s k = n)) 36
theorem akZ_b (g K : Int → Int) (s n : Int) : 0 ≤ akZ g K s n ∧ akZ g K s n ≤ 36 := by
  have := sumZ_b (f := fun k => bZ (suP g K k ∧ msK g s k = n)) (lo := 0) (hi := 1) (n := 36) (fun i _ _ => ⟨bZ_lo _, bZ_hi _⟩)
  unfold akZ; omega
def alF (g K : Int → Int) (s k : Int) : Int := akZ g K s (msK g s k)
def alZ (g K : Int → Int) (s : Int) : Int := mxQ (suP g K) (alF g K s) 36
theorem alZ_b (g K : Int → Int) (s : Int) : 0 ≤ alZ g K s ∧ alZ g K s ≤ 36 := mxQ_b (fun k => (akZ_b g K s _).2) (by omega) 36
def nxR (g K : Int → Int) (v : Int) : Prop := (suC g K 36 = 0 ∧ v = -1) ∨ (suC g K 36 ≠ 0 ∧ fmax (fun _ => True) (fun s => - alZ g K s) 4 v)
theorem nxR_u {g K : Int → Int} {v v' : Int} (x : nxR g K v) (y : nxR g K v') : v = v' := by
  rcases x with ⟨x1, x2⟩ | ⟨x1, x2⟩ <;> rcases y with ⟨y1, y2⟩ | ⟨y1, y2⟩
  · omega
  · exact absurd x1 y1
  · exact absurd y1 x1
  · exact fmax_u x2 y2
def whR (g K : Int → Int) (w v : Int) : Prop := (w = 0 → v = suC g K 36) ∧ (w = 1 → srR (suP g K) (fun k => k / 6) 36 v) ∧ (w = 2 → srR (suP g K) (fun k => k % 6) 36 v) ∧ (w = 3 → nxR g K v) ∧ (10 ≤ w → atR g K (w - 10) v) ∧ (w < 0 ∨ (4 ≤ w ∧ w < 10) → v = -2)
theorem whR_u {g K : Int → Int} {w v v' : Int} (x : whR g K w v) (y : whR g K w v') : v = v' := by
  rcases (show w = 0 ∨ w = 1 ∨ w = 2 ∨ w = 3 ∨ 10 ≤ w ∨ (w < 0 ∨ (4 ≤ w ∧ w < 10)) by omega) with q | q | q | q | q | q
  · rw [x.1 q, y.1 q]
  · exact srR_u (x.2.1 q) (y.2.1 q)
  · exact srR_u (x.2.2.1 q) (y.2.2.1 q)
  · exact nxR_u (x.2.2.2.1 q) (y.2.2.2.1 q)
  · exact atR_u (x.2.2.2.2.1 q) (y.2.2.2.2.1 q)
  · rw [x.2.2.2.2.2 q, y.2.2.2.2.2 q]
theorem whR_0 {g K : Int → Int} {w v : Int} (q : w = 0) (h : v = suC g K 36) : whR g K w v := ⟨fun _ => h, fun z => by omega, fun z => by omega, fun z => by omega, fun z => by omega, fun z => by omega⟩
theorem whR_1 {g K : Int → Int} {w v : Int} (q : w = 1) (h : srR (suP g K) (fun k => k / 6) 36 v) : whR g K w v := ⟨fun z => by omega, fun _ => h, fun z => by omega, fun z => by omega, fun z => by omega, fun z => by omega⟩
theorem whR_2 {g K : Int → Int} {w v : Int} (q : w = 2) (h : srR (suP g K) (fun k => k % 6) 36 v) : whR g K w v := ⟨fun z => by omega, fun z => by omega, fun _ => h, fun z => by omega, fun z => by omega, fun z => by omega⟩
theorem whR_3 {g K : Int → Int} {w v : Int} (q : w = 3) (h : nxR g K v) : whR g K w v := ⟨fun z => by omega, fun z => by omega, fun z => by omega, fun _ => h, fun z => by omega, fun z => by omega⟩
theorem whR_a {g K : Int → Int} {w v : Int} (q : 10 ≤ w) (h : atR g K (w - 10) v) : whR g K w v := ⟨fun z => by omega, fun z => by omega, fun z => by omega, fun z => by omega, fun _ => h, fun z => by omega⟩
theorem whR_o {g K : Int → Int} {w v : Int} (q : w < 0 ∨ (4 ≤ w ∧ w < 10)) (h : v = -2) : whR g K w v := ⟨fun z => by omega, fun z => by omega, fun z => by omega, fun z => by omega, fun z => by omega, fun _ => h⟩
set_option maxHeartbeats 400000 in
theorem zp_X1_measure {ad : mA} {dd : Nat} {h : mH} {Q : mQ} {f : Nat} {g : Int → Int} (hk : fgk h f) (HF : isF h f g)  (d : Int) (d_r : -2147483648 ≤ d ∧ d < 2147483648) (u : Int) (u_r : -2147483648 ≤ u ∧ u < 2147483648) (s : Int) (s_r : -2147483648 ≤ s ∧ s < 2147483648) (p1 : 0 ≤ d ∧ d < nd g) (p2 : 0 ≤ u ∧ u < nu g) (p3 : 0 ≤ s ∧ s ≤ 3) (kq : Q (some (.int (zI (ms2 g s d u)))) h) : mCal TB0 ad (dd + 2) M_X1_measure [.ref f, .int (zI d), .int (zI u), .int (zI s)] h 0 0 Q := by
  refine ⟨Nat.le_of_ble_eq_true rfl, ?_⟩
  show mEv TB0 ad M_X1_measure (dd + 2) (0, 0) (mCal TB0 ad (dd + 1)) (fun v h' z => z.1 = 0 ∧ Q v h') 0 [some (.ref f), some (.int (zI d)), some (.int (zI u)), some (.int (zI s))] [] h (0, 0)
  have w1 := isF_n HF
  have w2 := isF_nd HF
  have w3 := isF_nu HF
  have w4 := isF_nc HF
  have W := isF_w HF
  refine e_aload_n dX1_measure_0 rfl ?_
  refine e_get (.ref (f + 1)) dX1_measure_1 tf_1_25 (congrArg Prod.fst (fg_s0 hk)) (congrArg va_rf (fg_r0_0 hk)) ?_
  refine e_iload_n dX1_measure_4 rfl ?_
  refine e_callV [.int _] dX1_measure_5 tm_1_45 rfl (Nat.le_of_ble_eq_true rfl) (congrArg Prod.fst (fg_s1 hk)) (Nat.le_of_ble_eq_true rfl) (Nat.le_refl _) (Nat.le_refl _) rfl (zp_X0_has (fg_bl1 hk) d ⟨by omega, by omega⟩ ?_)
  refine z_ifb_eq 22 dX1_measure_8 rfl (fun c1 => ?_) (fun c1 => ?_)
  · exfalso; omega
  · skip
    refine e_aload_n dX1_measure_11 rfl ?_
    refine e_get (.ref (f + 7)) dX1_measure_12 tf_1_34 (congrArg Prod.fst (fg_s0 hk)) (congrArg va_rf (fg_r0_1 hk)) ?_
    refine e_iload_n dX1_measure_15 rfl ?_
    refine e_callV [.int _] dX1_measure_16 tm_1_45 rfl (Nat.le_of_ble_eq_true rfl) (congrArg Prod.fst (fg_s7 hk)) (Nat.le_of_ble_eq_true rfl) (Nat.le_refl _) (Nat.le_refl _) rfl (zp_X0_has (fg_bl7 hk) u ⟨by omega, by omega⟩ ?_)
    refine z_ifb_ne 24 dX1_measure_19 rfl (fun c2 => ?_) (fun c2 => ?_)
    · skip
      refine e_iload_n dX1_measure_24 rfl ?_
      by_cases c3 : s = 0
      · skip
        refine z_tableV (0) 52 dX1_measure_25 c3 (by decide) (by decide +kernel) ?_
        refine e_aload_n dX1_measure_52 rfl ?_
        refine e_get (.ref (f + 1)) dX1_measure_53 tf_1_25 (congrArg Prod.fst (fg_s0 hk)) (congrArg va_rf (fg_r0_0 hk)) ?_
        refine e_get (.ref (f + 2)) dX1_measure_56 tf_1_49 (congrArg Prod.fst (fg_s1 hk)) (congrArg va_rf (fg_r1_0 hk)) ?_
        refine e_iload_n dX1_measure_59 rfl ?_
        refine z_ild (dl g d) dX1_measure_60 (fg_s2 hk) (by decide) (by omega) (by omega) (isF_dl HF (by omega) (by omega)) ?_
        have y4 := wB_d (isF_w HF).1 (show 0 ≤ d by omega) (by omega)
        refine e_aload_n dX1_measure_61 rfl ?_
        refine e_get (.ref (f + 7)) dX1_measure_62 tf_1_34 (congrArg Prod.fst (fg_s0 hk)) (congrArg va_rf (fg_r0_1 hk)) ?_
        refine e_get (.ref (f + 8)) dX1_measure_65 tf_1_49 (congrArg Prod.fst (fg_s7 hk)) (congrArg va_rf (fg_r7_0 hk)) ?_
        refine e_iload_n dX1_measure_68 rfl ?_
        refine z_ild (ul g u) dX1_measure_69 (fg_s8 hk) (by decide) (by omega) (by omega) (isF_ul HF (by omega) (by omega)) ?_
        have y5 := wB_u (isF_w HF).1 (show 0 ≤ u by omega) (by omega)
        refine z_iadd dX1_measure_70 ?_
        refine z_iret dX1_measure_71 rfl ⟨rfl, ?_⟩
        refine z_q kq ?_
        first | exact ms2_0 (by omega) | exact ms2_1 (by omega) | exact ms2_2 (by omega) | exact ms2_3 (by omega)
      by_cases c6 : s = 1
      · skip
        refine z_tableV (1) 72 dX1_measure_25 c6 (by decide) (by decide +kernel) ?_
        refine e_aload_n dX1_measure_72 rfl ?_
        refine e_get (.ref (f + 1)) dX1_measure_73 tf_1_25 (congrArg Prod.fst (fg_s0 hk)) (congrArg va_rf (fg_r0_0 hk)) ?_
        refine e_get (.ref (f + 2)) dX1_measure_76 tf_1_49 (congrArg Prod.fst (fg_s1 hk)) (congrArg va_rf (fg_r1_0 hk)) ?_
        refine e_iload_n dX1_measure_79 rfl ?_
        refine z_ild (dl g d) dX1_measure_80 (fg_s2 hk) (by decide) (by omega) (by omega) (isF_dl HF (by omega) (by omega)) ?_
        have y7 := wB_d (isF_w HF).1 (show 0 ≤ d by omega) (by omega)
        refine e_aload_n dX1_measure_81 rfl ?_
        refine e_get (.ref (f + 7)) dX1_measure_82 tf_1_34 (congrArg Prod.fst (fg_s0 hk)) (congrArg va_rf (fg_r0_1 hk)) ?_
        refine e_get (.ref (f + 8)) dX1_measure_85 tf_1_49 (congrArg Prod.fst (fg_s7 hk)) (congrArg va_rf (fg_r7_0 hk)) ?_
        refine e_iload_n dX1_measure_88 rfl ?_
        refine z_ild (ul g u) dX1_measure_89 (fg_s8 hk) (by decide) (by omega) (by omega) (isF_ul HF (by omega) (by omega)) ?_
        have y8 := wB_u (isF_w HF).1 (show 0 ≤ u by omega) (by omega)
        refine z_isub dX1_measure_90 ?_
        refine z_mabs dX1_measure_91 tm_1_52 (Nat.le_of_ble_eq_true rfl) ⟨by omega, by omega⟩ ?_
        have y9 := absI_s ((dl g d) - (ul g u))
        refine z_iret dX1_measure_94 rfl ⟨rfl, ?_⟩
        refine z_q kq ?_
        first | exact ms2_0 (by omega) | exact ms2_1 (by omega) | exact ms2_2 (by omega) | exact ms2_3 (by omega)
      by_cases c10 : s = 2
      · skip
        refine z_tableV (2) 95 dX1_measure_25 c10 (by decide) (by decide +kernel) ?_
        refine e_aload_n dX1_measure_95 rfl ?_
        refine e_get (.ref (f + 1)) dX1_measure_96 tf_1_25 (congrArg Prod.fst (fg_s0 hk)) (congrArg va_rf (fg_r0_0 hk)) ?_
        refine e_get (.ref (f + 4)) dX1_measure_99 tf_1_58 (congrArg Prod.fst (fg_s1 hk)) (congrArg va_rf (fg_r1_2 hk)) ?_
        refine e_iload_n dX1_measure_102 rfl ?_
        refine z_ild (de g d) dX1_measure_103 (fg_s4 hk) (by decide) (by omega) (by omega) (isF_de HF (by omega) (by omega)) ?_
        have y11 := wB_d (isF_w HF).1 (show 0 ≤ d by omega) (by omega)
        refine e_aload_n dX1_measure_104 rfl ?_
        refine e_get (.ref (f + 7)) dX1_measure_105 tf_1_34 (congrArg Prod.fst (fg_s0 hk)) (congrArg va_rf (fg_r0_1 hk)) ?_
        refine e_get (.ref (f + 10)) dX1_measure_108 tf_1_58 (congrArg Prod.fst (fg_s7 hk)) (congrArg va_rf (fg_r7_2 hk)) ?_
        refine e_iload_n dX1_measure_111 rfl ?_
        refine z_ild (ue g u) dX1_measure_112 (fg_s10 hk) (by decide) (by omega) (by omega) (isF_ue HF (by omega) (by omega)) ?_
        have y12 := wB_u (isF_w HF).1 (show 0 ≤ u by omega) (by omega)
        refine z_iadd dX1_measure_113 ?_
        refine z_iret dX1_measure_114 rfl ⟨rfl, ?_⟩
        refine z_q kq ?_
        first | exact ms2_0 (by omega) | exact ms2_1 (by omega) | exact ms2_2 (by omega) | exact ms2_3 (by omega)
      refine z_tableD 115 dX1_measure_25 ⟨by omega, by omega⟩ (by omega) rfl ?_
      refine e_aload_n dX1_measure_115 rfl ?_
      refine e_get (.ref (f + 1)) dX1_measure_116 tf_1_25 (congrArg Prod.fst (fg_s0 hk)) (congrArg va_rf (fg_r0_0 hk)) ?_
      refine e_get (.ref (f + 5)) dX1_measure_119 tf_1_61 (congrArg Prod.fst (fg_s1 hk)) (congrArg va_rf (fg_r1_3 hk)) ?_
      refine e_iload_n dX1_measure_122 rfl ?_
      refine z_ild (dh g d) dX1_measure_123 (fg_s5 hk) (by decide) (by omega) (by omega) (isF_dh HF (by omega) (by omega)) ?_
      have y13 := wB_d (isF_w HF).1 (show 0 ≤ d by omega) (by omega)
      refine e_aload_n dX1_measure_124 rfl ?_
      refine e_get (.ref (f + 7)) dX1_measure_125 tf_1_34 (congrArg Prod.fst (fg_s0 hk)) (congrArg va_rf (fg_r0_1 hk)) ?_
      refine e_get (.ref (f + 11)) dX1_measure_128 tf_1_61 (congrArg Prod.fst (fg_s7 hk)) (congrArg va_rf (fg_r7_3 hk)) ?_
      refine e_iload_n dX1_measure_131 rfl ?_
      refine z_ild (uh g u) dX1_measure_132 (fg_s11 hk) (by decide) (by omega) (by omega) (isF_uh HF (by omega) (by omega)) ?_
      have y14 := wB_u (isF_w HF).1 (show 0 ≤ u by omega) (by omega)
      refine z_iadd dX1_measure_133 ?_
      refine z_iret dX1_measure_134 rfl ⟨rfl, ?_⟩
      refine z_q kq ?_
      first | exact ms2_0 (by omega) | exact ms2_1 (by omega) | exact ms2_2 (by omega) | exact ms2_3 (by omega)
    · exfalso; omega
set_option maxHeartbeats 1000000 in
theorem zp_X1_fitsAll {ad : mA} {dd : Nat} {h : mH} {Q : mQ} {y f : Nat} {g K : Int → Int} (hk : cuk h y) (hk1 : fgk h f) (HF : isF h f g) (HK : isK h y K)  (d : Int) (d_r : -2147483648 ≤ d ∧ d < 2147483648) (u : Int) (u_r : -2147483648 ≤ u ∧ u < 2147483648) (p1 : 0 ≤ d ∧ d < nd g) (p2 : 0 ≤ u ∧ u < nu g) (kq : Q (some (.int (zI (bZ (allN (clP g K d u) (K 0).toNat = true))))) h) : mCal TB0 ad (dd + 3) M_X1_fitsAll [.ref y, .ref f, .int (zI d), .int (zI u)] h 0 0 Q := by
  refine ⟨Nat.le_of_ble_eq_true rfl, ?_⟩
  show mEv TB0 ad M_X1_fitsAll (dd + 3) (0, 0) (mCal TB0 ad (dd + 2)) (fun v h' z => z.1 = 0 ∧ Q v h') 0 [some (.ref y), some (.ref f), some (.int (zI d)), some (.int (zI u)), none, none] [] h (0, 0)
  have w1 := isF_n HF
  have w2 := isF_nd HF
  have w3 := isF_nu HF
  have w4 := isF_nc HF
  have W := isF_w HF
  have wk := (isK_w HK).1
  refine z_iconst (0) dX1_fitsAll_0 rfl ?_
  refine e_istore (L' := [_, _, _, _, _, _]) dX1_fitsAll_1 (Nat.le_of_ble_eq_true rfl) rfl ?_
  have lp1 : ∀ (n1 : Nat) (i : Int), (K 0 - i).toNat = n1 → (0 ≤ i ∧ i ≤ K 0) → (∀ e : Int, 0 ≤ e → e < i → clP g K d u e) → mEv TB0 ad M_X1_fitsAll (dd + 3) (0, 0) (mCal TB0 ad (dd + 2)) (fun v h' z => z.1 = 0 ∧ Q v h') 3 [some (.ref y), some (.ref f), some (.int (zI d)), some (.int (zI u)), some (.int (zI i)), none] [] h (0, 0) := by
    intro n1
    induction n1 using Nat.strongRecOn with
    | ind n1 ih1 =>
    intro i  hn1  I1 I3
    refine e_iload dX1_fitsAll_3 rfl ?_
    refine e_aload_n dX1_fitsAll_5 rfl ?_
    refine z_get (K 0) dX1_fitsAll_6 tf_1_21 (congrArg Prod.fst (cu_s0 hk)) (Or.inl rfl) (isK_n HK) ?_
    have y2 := (isK_w HK).1
    refine z_icmp_ge 78 dX1_fitsAll_9 rfl ⟨by omega, by omega⟩ ⟨by omega, by omega⟩ (fun c3 => ?_) (fun c3 => ?_)
    · skip
      refine z_iconst (1) dX1_fitsAll_78 rfl ?_
      refine z_bret dX1_fitsAll_79 rfl (Or.inr rfl) ⟨rfl, ?_⟩
      refine z_q1 kq ?_
      exact allN_i.mpr (fun e a c => I3 e a (by omega))
    · skip
      refine e_iload dX1_fitsAll_12 rfl ?_
      refine z_bipush (8) dX1_fitsAll_14 rfl ?_
      refine z_icmp_ge 78 dX1_fitsAll_16 rfl ⟨by omega, by omega⟩ ⟨by omega, by omega⟩ (fun c4 => ?_) (fun c4 => ?_)
      · exfalso; omega
      · skip
        refine e_aload_n dX1_fitsAll_19 rfl ?_
        refine e_iload_n dX1_fitsAll_20 rfl ?_
        refine e_iload_n dX1_fitsAll_21 rfl ?_
        refine e_aload_n dX1_fitsAll_22 rfl ?_
        refine e_get (.ref (y + 1)) dX1_fitsAll_23 tf_1_9 (congrArg Prod.fst (cu_s0 hk)) (congrArg va_rf (cu_r0_0 hk)) ?_
        refine e_iload dX1_fitsAll_26 rfl ?_
        refine z_ild (ysr K i) dX1_fitsAll_28 (cu_s1 hk) (by decide) (by omega) (by omega) (isK_ysr HK (by omega) (by omega)) ?_
        have y5 := (isK_w HK).2 i (by omega) (by omega)
        refine e_callS [.ref _, .int _, .int _, .int _] dX1_fitsAll_29 tm_1_41 rfl (Nat.le_of_ble_eq_true rfl) (Nat.le_refl _) (Nat.le_refl _) rfl (zp_X1_measure hk1 HF d ⟨by omega, by omega⟩ u ⟨by omega, by omega⟩ (ysr K i) ⟨by omega, by omega⟩ (by omega) (by omega) (by omega) ?_)
        have y6 := ms2_b (isF_w HF).1 (ysr K i) (show 0 ≤ d ∧ d < nd g by omega) (show 0 ≤ u ∧ u < nu g by omega)
        refine e_aload_n dX1_fitsAll_32 rfl ?_
        refine e_get (.ref (y + 2)) dX1_fitsAll_33 tf_1_15 (congrArg Prod.fst (cu_s0 hk)) (congrArg va_rf (cu_r0_1 hk)) ?_
        refine e_iload dX1_fitsAll_36 rfl ?_
        refine z_ild (yfi K i) dX1_fitsAll_38 (cu_s2 hk) (by decide) (by omega) (by omega) (isK_yfi HK (by omega) (by omega)) ?_
        have y7 := (isK_w HK).2 i (by omega) (by omega)
        refine z_icmp_ne 46 dX1_fitsAll_39 rfl ⟨by omega, by omega⟩ ⟨by omega, by omega⟩ (fun c8 => ?_) (fun c8 => ?_)
        · skip
          refine z_iconst (0) dX1_fitsAll_46 rfl ?_
          refine e_istore (L' := [_, _, _, _, _, _]) dX1_fitsAll_47 (Nat.le_of_ble_eq_true rfl) rfl ?_
          refine e_iload dX1_fitsAll_49 rfl ?_
          refine e_aload_n dX1_fitsAll_51 rfl ?_
          refine e_get (.ref (y + 3)) dX1_fitsAll_52 tf_1_18 (congrArg Prod.fst (cu_s0 hk)) (congrArg va_rf (cu_r0_2 hk)) ?_
          refine e_iload dX1_fitsAll_55 rfl ?_
          refine z_ild (yse K i) dX1_fitsAll_57 (cu_s3 hk) (by decide) (by omega) (by omega) (isK_yse HK (by omega) (by omega)) ?_
          have y9 := (isK_w HK).2 i (by omega) (by omega)
          refine z_iconst (1) dX1_fitsAll_58 rfl ?_
          refine z_icmp_ne 66 dX1_fitsAll_59 rfl ⟨by omega, by omega⟩ ⟨by omega, by omega⟩ (fun c10 => ?_) (fun c10 => ?_)
          · skip
            refine z_iconst (0) dX1_fitsAll_66 rfl ?_
            refine z_icmp_eq 72 dX1_fitsAll_67 rfl ⟨by omega, by omega⟩ ⟨by omega, by omega⟩ (fun c11 => ?_) (fun c11 => ?_)
            · skip
              refine z_iinc (L' := [_, _, _, _, _, _]) dX1_fitsAll_72 rfl rfl ?_
              refine e_goto 3 dX1_fitsAll_75 rfl ?_
              exact mEv_wk (by exact ⟨Or.inr rfl, Or.inr rfl, Or.inr rfl, Or.inr rfl, Or.inr rfl, Or.inl rfl, trivial⟩) (ih1 _ (by omega) (i + 1)  rfl  (by omega) (fun e a c => by
                        by_cases q : e = i
                        · rw [q]; exact ⟨fun _ => by omega, fun _ => by omega⟩
                        · exact I3 e a (by omega)))
            · exfalso; omega
          · skip
            refine z_iconst (1) dX1_fitsAll_62 rfl ?_
            refine e_goto 67 dX1_fitsAll_63 rfl ?_
            refine z_icmp_eq 72 dX1_fitsAll_67 rfl ⟨by omega, by omega⟩ ⟨by omega, by omega⟩ (fun c12 => ?_) (fun c12 => ?_)
            · exfalso; omega
            · skip
              refine z_iconst (0) dX1_fitsAll_70 rfl ?_
              refine z_bret dX1_fitsAll_71 rfl (Or.inl rfl) ⟨rfl, ?_⟩
              refine z_q0 kq ?_
              intro q; have z : ms2 g (ysr K i) d u = yfi K i ↔ yse K i = 1 := (allN_i.mp q) i (by omega) (by omega)
              omega
        · skip
          refine z_iconst (1) dX1_fitsAll_42 rfl ?_
          refine e_goto 47 dX1_fitsAll_43 rfl ?_
          refine e_istore (L' := [_, _, _, _, _, _]) dX1_fitsAll_47 (Nat.le_of_ble_eq_true rfl) rfl ?_
          refine e_iload dX1_fitsAll_49 rfl ?_
          refine e_aload_n dX1_fitsAll_51 rfl ?_
          refine e_get (.ref (y + 3)) dX1_fitsAll_52 tf_1_18 (congrArg Prod.fst (cu_s0 hk)) (congrArg va_rf (cu_r0_2 hk)) ?_
          refine e_iload dX1_fitsAll_55 rfl ?_
          refine z_ild (yse K i) dX1_fitsAll_57 (cu_s3 hk) (by decide) (by omega) (by omega) (isK_yse HK (by omega) (by omega)) ?_
          have y13 := (isK_w HK).2 i (by omega) (by omega)
          refine z_iconst (1) dX1_fitsAll_58 rfl ?_
          refine z_icmp_ne 66 dX1_fitsAll_59 rfl ⟨by omega, by omega⟩ ⟨by omega, by omega⟩ (fun c14 => ?_) (fun c14 => ?_)
          · skip
            refine z_iconst (0) dX1_fitsAll_66 rfl ?_
            refine z_icmp_eq 72 dX1_fitsAll_67 rfl ⟨by omega, by omega⟩ ⟨by omega, by omega⟩ (fun c15 => ?_) (fun c15 => ?_)
            · exfalso; omega
            · skip
              refine z_iconst (0) dX1_fitsAll_70 rfl ?_
              refine z_bret dX1_fitsAll_71 rfl (Or.inl rfl) ⟨rfl, ?_⟩
              refine z_q0 kq ?_
              intro q; have z : ms2 g (ysr K i) d u = yfi K i ↔ yse K i = 1 := (allN_i.mp q) i (by omega) (by omega)
              omega
          · skip
            refine z_iconst (1) dX1_fitsAll_62 rfl ?_
            refine e_goto 67 dX1_fitsAll_63 rfl ?_
            refine z_icmp_eq 72 dX1_fitsAll_67 rfl ⟨by omega, by omega⟩ ⟨by omega, by omega⟩ (fun c16 => ?_) (fun c16 => ?_)
            · skip
              refine z_iinc (L' := [_, _, _, _, _, _]) dX1_fitsAll_72 rfl rfl ?_
              refine e_goto 3 dX1_fitsAll_75 rfl ?_
              exact mEv_wk (by exact ⟨Or.inr rfl, Or.inr rfl, Or.inr rfl, Or.inr rfl, Or.inr rfl, Or.inl rfl, trivial⟩) (ih1 _ (by omega) (i + 1)  rfl  (by omega) (fun e a c => by
                        by_cases q : e = i
                        · rw [q]; exact ⟨fun _ => by omega, fun _ => by omega⟩
                        · exact I3 e a (by omega)))
            · exfalso; omega
  exact lp1 _ 0  rfl  (by omega) (fun e a c => by omega)
set_option maxHeartbeats 1000000 in
theorem zp_X1_suspects {ad : mA} {dd : Nat} {h : mH} {Q : mQ} {y f : Nat} {g K : Int → Int} (hk : cuk h y) (hk1 : fgk h f) (HF : isF h f g) (HK : isK h y K)    (kq : ∀ c : Int, (cS g K c) → Q (some (.long (zJ c))) h) : mCal TB0 ad (dd + 4) M_X1_suspects [.ref y, .ref f] h 0 0 Q := by
  refine ⟨Nat.le_of_ble_eq_true rfl, ?_⟩
  show mEv TB0 ad M_X1_suspects (dd + 4) (0, 0) (mCal TB0 ad (dd + 3)) (fun v h' z => z.1 = 0 ∧ Q v h') 0 [some (.ref y), some (.ref f), none, none, none, none] [] h (0, 0)
  have w1 := isF_n HF
  have w2 := isF_nd HF
  have w3 := isF_nu HF
  have w4 := isF_nc HF
  have W := isF_w HF
  refine z_lconst (0) dX1_suspects_0 rfl ?_
  refine e_lstore_n (L' := [_, _, _, _, _, _]) dX1_suspects_1 (Nat.le_of_ble_eq_true rfl) rfl ?_
  refine z_iconst (0) dX1_suspects_2 rfl ?_
  refine e_istore (L' := [_, _, _, _, _, _]) dX1_suspects_3 (Nat.le_of_ble_eq_true rfl) rfl ?_
  have lp1 : ∀ (n1 : Nat) (c i : Int), (nd g - i).toNat = n1 → (0 ≤ i ∧ i ≤ nd g) → (cN g K c (6 * i)) → mEv TB0 ad M_X1_suspects (dd + 4) (0, 0) (mCal TB0 ad (dd + 3)) (fun v h' z => z.1 = 0 ∧ Q v h') 5 [some (.ref y), some (.ref f), some (.long (zJ c)), none, some (.int (zI i)), none] [] h (0, 0) := by
    intro n1
    induction n1 using Nat.strongRecOn with
    | ind n1 ih1 =>
    intro c i  hn1  I1 IS
    refine e_iload dX1_suspects_5 rfl ?_
    have cb := cN_b IS
    refine e_aload_n dX1_suspects_7 rfl ?_
    refine e_get (.ref (f + 1)) dX1_suspects_8 tf_1_25 (congrArg Prod.fst (fg_s0 hk1)) (congrArg va_rf (fg_r0_0 hk1)) ?_
    refine z_get (nd g) dX1_suspects_11 tf_1_31 (congrArg Prod.fst (fg_s1 hk1)) (Or.inl rfl) (isF_nd HF) ?_
    have y2 := isF_n HF
    refine z_icmp_ge 69 dX1_suspects_14 rfl ⟨by omega, by omega⟩ ⟨by omega, by omega⟩ (fun c3 => ?_) (fun c3 => ?_)
    · skip
      refine e_lload_n dX1_suspects_69 rfl ?_
      refine z_lret dX1_suspects_70 rfl ⟨rfl, ?_⟩
      refine kq _ ?_
      exact cN_S (N := 36) (cN_skip IS (by omega) (fun k a b e z => by have := z.1; omega)) (by omega)
    · skip
      refine z_iconst (0) dX1_suspects_17 rfl ?_
      refine e_istore (L' := [_, _, _, _, _, _]) dX1_suspects_18 (Nat.le_of_ble_eq_true rfl) rfl ?_
      have lp4 : ∀ (n4 : Nat) (c j : Int), (nu g - j).toNat = n4 → (0 ≤ j ∧ j ≤ nu g) → (cN g K c (6 * i + j)) → mEv TB0 ad M_X1_suspects (dd + 4) (0, 0) (mCal TB0 ad (dd + 3)) (fun v h' z => z.1 = 0 ∧ Q v h') 20 [some (.ref y), some (.ref f), some (.long (zJ c)), none, some (.int (zI i)), some (.int (zI j))] [] h (0, 0) := by
        intro n4
        induction n4 using Nat.strongRecOn with
        | ind n4 ih4 =>
        intro c j  hn4  J1 JS
        refine e_iload dX1_suspects_20 rfl ?_
        have cb2 := cN_b JS
        refine e_aload_n dX1_suspects_22 rfl ?_
        refine e_get (.ref (f + 7)) dX1_suspects_23 tf_1_34 (congrArg Prod.fst (fg_s0 hk1)) (congrArg va_rf (fg_r0_1 hk1)) ?_
        refine z_get (nu g) dX1_suspects_26 tf_1_31 (congrArg Prod.fst (fg_s7 hk1)) (Or.inl rfl) (isF_nu HF) ?_
        have y5 := isF_n HF
        refine z_icmp_ge 63 dX1_suspects_29 rfl ⟨by omega, by omega⟩ ⟨by omega, by omega⟩ (fun c6 => ?_) (fun c6 => ?_)
        · skip
          refine z_iinc (L' := [_, _, _, _, _, _]) dX1_suspects_63 rfl rfl ?_
          refine e_goto 5 dX1_suspects_66 rfl ?_
          exact mEv_wk (by exact ⟨Or.inr rfl, Or.inr rfl, Or.inr rfl, Or.inl rfl, Or.inr rfl, Or.inl rfl, trivial⟩) (ih1 _ (by omega) c (i + 1)  rfl  (by omega) (cN_skip JS (by omega) (fun k a b e z => by have := z.1; omega)))
        · skip
          refine e_aload_n dX1_suspects_32 rfl ?_
          refine e_aload_n dX1_suspects_33 rfl ?_
          refine e_iload dX1_suspects_34 rfl ?_
          refine e_iload dX1_suspects_36 rfl ?_
          refine e_callV [.ref _, .int _, .int _] dX1_suspects_38 tm_1_37 rfl (Nat.le_of_ble_eq_true rfl) (congrArg Prod.fst (cu_s0 hk)) (Nat.le_of_ble_eq_true rfl) (Nat.le_refl _) (Nat.le_refl _) rfl (zp_X1_fitsAll hk hk1 HF HK i ⟨by omega, by omega⟩ j ⟨by omega, by omega⟩ (by omega) (by omega) ?_)
          refine z_ifb_eq 57 dX1_suspects_41 rfl (fun c7 => ?_) (fun c7 => ?_)
          · skip
            refine z_iinc (L' := [_, _, _, _, _, _]) dX1_suspects_57 rfl rfl ?_
            refine e_goto 20 dX1_suspects_60 rfl ?_
            exact ih4 _ (by omega) c (j + 1)  rfl  (by omega) (by rw [← Int.add_assoc]; first | exact cN_yes JS (by omega) (by omega) ((suP_i (by omega) (by omega)).mpr ⟨⟨by omega, by omega⟩, by assumption⟩) | exact cN_skip JS (by omega) (fun k a b e z => by rw [show k = 6 * i + j by omega] at z; exact absurd ((suP_i (by omega) (by omega)).mp z).2 (by assumption)))
          · skip
            refine e_lload_n dX1_suspects_44 rfl ?_
            refine z_lconst (1) dX1_suspects_45 rfl ?_
            refine z_bipush (6) dX1_suspects_46 rfl ?_
            refine e_iload dX1_suspects_48 rfl ?_
            refine z_imul dX1_suspects_50 ?_
            refine e_iload dX1_suspects_51 rfl ?_
            refine z_iadd dX1_suspects_53 ?_
            refine z_lshl dX1_suspects_54 (by omega) (by omega) ?_
            have y8 := shl_36 ((6 * i) + j)
            refine z_lor dX1_suspects_55 (by omega) (by omega) ?_
            have y9 := orZ_b c (shlZ 1 ((6 * i) + j))
            refine e_lstore_n (L' := [_, _, _, _, _, _]) dX1_suspects_56 (Nat.le_of_ble_eq_true rfl) rfl ?_
            refine z_iinc (L' := [_, _, _, _, _, _]) dX1_suspects_57 rfl rfl ?_
            refine e_goto 20 dX1_suspects_60 rfl ?_
            exact ih4 _ (by omega) (orZ c (shlZ 1 ((6 * i) + j))) (j + 1)  rfl  (by omega) (by rw [← Int.add_assoc]; first | exact cN_yes JS (by omega) (by omega) ((suP_i (by omega) (by omega)).mpr ⟨⟨by omega, by omega⟩, by assumption⟩) | exact cN_skip JS (by omega) (fun k a b e z => by rw [show k = 6 * i + j by omega] at z; exact absurd ((suP_i (by omega) (by omega)).mp z).2 (by assumption)))
      exact lp4 _ c 0  rfl  (by omega) (by rw [Int.add_zero]; exact IS)
  exact lp1 _ 0 0  rfl  (by omega) (cN_0 g K)
set_option maxHeartbeats 400000 in
theorem zp_X1_suspectAt {ad : mA} {dd : Nat} {h : mH} {Q : mQ} {g K : Int → Int}   (c : Int) (k : Int) (k_r : -2147483648 ≤ k ∧ k < 2147483648) (pc : cS g K c) (kq : ∀ v : Int, (atR g K k v) → Q (some (.int (zI v))) h) : mCal TB0 ad (dd + 1) M_X1_suspectAt [.long (zJ c), .int (zI k)] h 0 0 Q := by
  refine ⟨Nat.le_of_ble_eq_true rfl, ?_⟩
  show mEv TB0 ad M_X1_suspectAt (dd + 1) (0, 0) (mCal TB0 ad (dd + 0)) (fun v h' z => z.1 = 0 ∧ Q v h') 0 [some (.long (zJ c)), none, some (.int (zI k)), none, none] [] h (0, 0)
  have cb := cS_b pc
  refine z_iconst (0) dX1_suspectAt_0 rfl ?_
  refine e_istore_n (L' := [_, _, _, _, _]) dX1_suspectAt_1 (Nat.le_of_ble_eq_true rfl) rfl ?_
  refine z_iconst (0) dX1_suspectAt_2 rfl ?_
  refine e_istore (L' := [_, _, _, _, _]) dX1_suspectAt_3 (Nat.le_of_ble_eq_true rfl) rfl ?_
  have lp1 : ∀ (n1 : Nat) (n i : Int), (36 - i).toNat = n1 → (0 ≤ i ∧ i ≤ 36) → (n = suC g K i) → (∀ e, 0 ≤ e → e < i → suP g K e → suC g K e ≠ k) → mEv TB0 ad M_X1_suspectAt (dd + 1) (0, 0) (mCal TB0 ad (dd + 0)) (fun v h' z => z.1 = 0 ∧ Q v h') 5 [some (.long (zJ c)), none, some (.int (zI k)), some (.int (zI n)), some (.int (zI i))] [] h (0, 0) := by
    intro n1
    induction n1 using Nat.strongRecOn with
    | ind n1 ih1 =>
    intro n i  hn1  I1 I2 I3
    refine e_iload dX1_suspectAt_5 rfl ?_
    have sb0 := suC_b g K (i := i) (by omega)
    refine z_bipush (36) dX1_suspectAt_7 rfl ?_
    refine z_icmp_ge 40 dX1_suspectAt_9 rfl ⟨by omega, by omega⟩ ⟨by omega, by omega⟩ (fun c2 => ?_) (fun c2 => ?_)
    · skip
      refine z_bipush (-2) dX1_suspectAt_40 rfl ?_
      refine z_iret dX1_suspectAt_42 rfl ⟨rfl, ?_⟩
      refine kq _ ?_
      first | exact Or.inr ⟨by omega, ct.mp (by omega), by omega⟩ | exact Or.inl ⟨rfl, fun e a c z => I3 e a (by omega) z⟩
    · skip
      have ct := cS_t pc (i := i) (by omega) (by omega)
      have sb := suC_b g K (i := i) (by omega)
      refine e_lload_n dX1_suspectAt_12 rfl ?_
      refine e_iload dX1_suspectAt_13 rfl ?_
      refine z_lshr dX1_suspectAt_15 (by omega) (by omega) (by omega) (by omega) ?_
      have y3 := shrZ_b c i
      refine z_lconst (1) dX1_suspectAt_16 rfl ?_
      refine z_land dX1_suspectAt_17 (by omega) (by omega) ?_
      have y4 := andZ_b (shrZ c i) 1
      refine z_lconst (1) dX1_suspectAt_18 rfl ?_
      refine z_lcmp dX1_suspectAt_19 ⟨by omega, by omega⟩ ⟨by omega, by omega⟩ ?_
      refine z_ifl_ne 34 dX1_suspectAt_20 rfl (fun c5 => ?_) (fun c5 => ?_)
      · skip
        refine z_iinc (L' := [_, _, _, _, _]) dX1_suspectAt_34 rfl rfl ?_
        refine e_goto 5 dX1_suspectAt_37 rfl ?_
        exact ih1 _ (by omega) n (i + 1)  rfl  (by omega) (by first | (rw [suC_1 (by omega) (ct.mp (by omega))]; omega) | (rw [suC_n (by omega) (fun z => absurd (ct.mpr z) (by omega))]; omega)) (fun e a c z => by
                  by_cases q : e = i
                  · rw [q] at z ⊢; first | omega | exact absurd (ct.mpr z) (by omega)
                  · exact I3 e a (by omega) z)
      · skip
        refine e_iload_n dX1_suspectAt_23 rfl ?_
        refine e_iload_n dX1_suspectAt_24 rfl ?_
        refine z_icmp_ne 31 dX1_suspectAt_25 rfl ⟨by omega, by omega⟩ ⟨by omega, by omega⟩ (fun c6 => ?_) (fun c6 => ?_)
        · skip
          refine z_iinc (L' := [_, _, _, _, _]) dX1_suspectAt_31 rfl rfl ?_
          refine z_iinc (L' := [_, _, _, _, _]) dX1_suspectAt_34 rfl rfl ?_
          refine e_goto 5 dX1_suspectAt_37 rfl ?_
          exact ih1 _ (by omega) (n + 1) (i + 1)  rfl  (by omega) (by first | (rw [suC_1 (by omega) (ct.mp (by omega))]; omega) | (rw [suC_n (by omega) (fun z => absurd (ct.mpr z) (by omega))]; omega)) (fun e a c z => by
                    by_cases q : e = i
                    · rw [q] at z ⊢; first | omega | exact absurd (ct.mpr z) (by omega)
                    · exact I3 e a (by omega) z)
        · skip
          refine e_iload dX1_suspectAt_28 rfl ?_
          refine z_iret dX1_suspectAt_30 rfl ⟨rfl, ?_⟩
          refine kq _ ?_
          first | exact Or.inr ⟨by omega, ct.mp (by omega), by omega⟩ | exact Or.inl ⟨rfl, fun e a c z => I3 e a (by omega) z⟩
  exact lp1 _ 0 0  rfl  (by omega) rfl (fun e a c => by omega)
set_option maxHeartbeats 400000 in
theorem zp_X1_sureBlade_1 {ad : mA} {dd : Nat} {h : mH} {Q : mQ} {g K : Int → Int}   (c : Int) (pc : cS g K c) (kq : ∀ v : Int, (srR (suP g K) (fun k => k / 6) 36 v) → Q (some (.int (zI v))) h) : mCal TB0 ad (dd + 1) M_X1_sureBlade [.long (zJ c), .int (zI 1)] h 0 0 Q := by
  refine ⟨Nat.le_of_ble_eq_true rfl, ?_⟩
  show mEv TB0 ad M_X1_sureBlade (dd + 1) (0, 0) (mCal TB0 ad (dd + 0)) (fun v h' z => z.1 = 0 ∧ Q v h') 0 [some (.long (zJ c)), none, some (.int (zI 1)), none, none, none] [] h (0, 0)
  have cb := cS_b pc
  refine z_iconst (-1) dX1_sureBlade_0 rfl ?_
  refine e_istore_n (L' := [_, _, _, _, _, _]) dX1_sureBlade_1 (Nat.le_of_ble_eq_true rfl) rfl ?_
  refine z_iconst (0) dX1_sureBlade_2 rfl ?_
  refine e_istore (L' := [_, _, _, _, _, _]) dX1_sureBlade_3 (Nat.le_of_ble_eq_true rfl) rfl ?_
  have lp1 : ∀ (n1 : Nat) (s i : Int), (36 - i).toNat = n1 → (0 ≤ i ∧ i ≤ 36) → (sr0 (suP g K) (fun k => k / 6) i s) → (s ≤ 6) → mEv TB0 ad M_X1_sureBlade (dd + 1) (0, 0) (mCal TB0 ad (dd + 0)) (fun v h' z => z.1 = 0 ∧ Q v h') 5 [some (.long (zJ c)), none, some (.int (zI 1)), some (.int (zI s)), some (.int (zI i)), none] [] h (0, 0) := by
    intro n1
    induction n1 using Nat.strongRecOn with
    | ind n1 ih1 =>
    intro s i  hn1  I1 I3 I4
    refine e_iload dX1_sureBlade_5 rfl ?_
    have ib := sr0_b I3
    refine z_bipush (36) dX1_sureBlade_7 rfl ?_
    refine z_icmp_ge 64 dX1_sureBlade_9 rfl ⟨by omega, by omega⟩ ⟨by omega, by omega⟩ (fun c2 => ?_) (fun c2 => ?_)
    · skip
      refine e_iload_n dX1_sureBlade_64 rfl ?_
      refine z_iret dX1_sureBlade_65 rfl ⟨rfl, ?_⟩
      refine kq _ ?_
      first | exact sr0_c I3 (by omega) (by omega) (ct.mp (by omega)) (by omega) (by omega) | exact Or.inl (by rw [show (36 : Int) = i by omega]; exact I3)
    · skip
      have ct := cS_t pc (i := i) (by omega) (by omega)
      refine e_lload_n dX1_sureBlade_12 rfl ?_
      refine e_iload dX1_sureBlade_13 rfl ?_
      refine z_lshr dX1_sureBlade_15 (by omega) (by omega) (by omega) (by omega) ?_
      have y3 := shrZ_b c i
      refine z_lconst (1) dX1_sureBlade_16 rfl ?_
      refine z_land dX1_sureBlade_17 (by omega) (by omega) ?_
      have y4 := andZ_b (shrZ c i) 1
      refine z_lconst (1) dX1_sureBlade_18 rfl ?_
      refine z_lcmp dX1_sureBlade_19 ⟨by omega, by omega⟩ ⟨by omega, by omega⟩ ?_
      refine z_ifl_ne 58 dX1_sureBlade_20 rfl (fun c5 => ?_) (fun c5 => ?_)
      · skip
        refine z_iinc (L' := [_, _, _, _, _, _]) dX1_sureBlade_58 rfl rfl ?_
        refine e_goto 5 dX1_sureBlade_61 rfl ?_
        exact ih1 _ (by omega) s (i + 1)  rfl  (by omega) (by first | exact sr0_no I3 (fun z => absurd (ct.mpr z) (by omega)) | exact sr0_yes I3 (by omega) (ct.mp (by omega)) (by omega) (by omega)) (by omega)
      · skip
        refine e_iload_n dX1_sureBlade_23 rfl ?_
        refine z_if_eq 35 dX1_sureBlade_24 rfl ⟨by omega, by omega⟩ (fun c6 => ?_) (fun c6 => ?_)
        · exfalso; omega
        · skip
          refine e_iload dX1_sureBlade_27 rfl ?_
          refine z_bipush (6) dX1_sureBlade_29 rfl ?_
          refine z_idiv dX1_sureBlade_31 (by omega) (by omega) (by omega) (by omega) ?_
          refine e_goto 40 dX1_sureBlade_32 rfl ?_
          refine e_istore (L' := [_, _, _, _, _, _]) dX1_sureBlade_40 (Nat.le_of_ble_eq_true rfl) rfl ?_
          refine e_iload_n dX1_sureBlade_42 rfl ?_
          refine z_iconst (-1) dX1_sureBlade_43 rfl ?_
          refine z_icmp_eq 55 dX1_sureBlade_44 rfl ⟨by omega, by omega⟩ ⟨by omega, by omega⟩ (fun c7 => ?_) (fun c7 => ?_)
          · skip
            refine e_iload dX1_sureBlade_55 rfl ?_
            refine e_istore_n (L' := [_, _, _, _, _, _]) dX1_sureBlade_57 (Nat.le_of_ble_eq_true rfl) rfl ?_
            refine z_iinc (L' := [_, _, _, _, _, _]) dX1_sureBlade_58 rfl rfl ?_
            refine e_goto 5 dX1_sureBlade_61 rfl ?_
            exact mEv_wk (by exact ⟨Or.inr rfl, Or.inl rfl, Or.inr rfl, Or.inr rfl, Or.inr rfl, Or.inl rfl, trivial⟩) (ih1 _ (by omega) (i / 6) (i + 1)  rfl  (by omega) (by first | exact sr0_no I3 (fun z => absurd (ct.mpr z) (by omega)) | exact sr0_yes I3 (by omega) (ct.mp (by omega)) (by omega) (by omega)) (by omega))
          · skip
            refine e_iload_n dX1_sureBlade_47 rfl ?_
            refine e_iload dX1_sureBlade_48 rfl ?_
            refine z_icmp_eq 55 dX1_sureBlade_50 rfl ⟨by omega, by omega⟩ ⟨by omega, by omega⟩ (fun c8 => ?_) (fun c8 => ?_)
            · skip
              refine e_iload dX1_sureBlade_55 rfl ?_
              refine e_istore_n (L' := [_, _, _, _, _, _]) dX1_sureBlade_57 (Nat.le_of_ble_eq_true rfl) rfl ?_
              refine z_iinc (L' := [_, _, _, _, _, _]) dX1_sureBlade_58 rfl rfl ?_
              refine e_goto 5 dX1_sureBlade_61 rfl ?_
              exact mEv_wk (by exact ⟨Or.inr rfl, Or.inl rfl, Or.inr rfl, Or.inr rfl, Or.inr rfl, Or.inl rfl, trivial⟩) (ih1 _ (by omega) (i / 6) (i + 1)  rfl  (by omega) (by first | exact sr0_no I3 (fun z => absurd (ct.mpr z) (by omega)) | exact sr0_yes I3 (by omega) (ct.mp (by omega)) (by omega) (by omega)) (by omega))
            · skip
              refine z_iconst (-1) dX1_sureBlade_53 rfl ?_
              refine z_iret dX1_sureBlade_54 rfl ⟨rfl, ?_⟩
              refine kq _ ?_
              first | exact sr0_c I3 (by omega) (by omega) (ct.mp (by omega)) (by omega) (by omega) | exact Or.inl (by rw [show (36 : Int) = i by omega]; exact I3)
  exact lp1 _ (-1) 0  rfl  (by omega) (sr0_0 _ _) (by omega)
set_option maxHeartbeats 400000 in
theorem zp_X1_sureBlade_0 {ad : mA} {dd : Nat} {h : mH} {Q : mQ} {g K : Int → Int}   (c : Int) (pc : cS g K c) (kq : ∀ v : Int, (srR (suP g K) (fun k => k % 6) 36 v) → Q (some (.int (zI v))) h) : mCal TB0 ad (dd + 1) M_X1_sureBlade [.long (zJ c), .int (zI 0)] h 0 0 Q := by
  refine ⟨Nat.le_of_ble_eq_true rfl, ?_⟩
  show mEv TB0 ad M_X1_sureBlade (dd + 1) (0, 0) (mCal TB0 ad (dd + 0)) (fun v h' z => z.1 = 0 ∧ Q v h') 0 [some (.long (zJ c)), none, some (.int (zI 0)), none, none, none] [] h (0, 0)
  have cb := cS_b pc
  refine z_iconst (-1) dX1_sureBlade_0 rfl ?_
  refine e_istore_n (L' := [_, _, _, _, _, _]) dX1_sureBlade_1 (Nat.le_of_ble_eq_true rfl) rfl ?_
  refine z_iconst (0) dX1_sureBlade_2 rfl ?_
  refine e_istore (L' := [_, _, _, _, _, _]) dX1_sureBlade_3 (Nat.le_of_ble_eq_true rfl) rfl ?_
  have lp1 : ∀ (n1 : Nat) (s i : Int), (36 - i).toNat = n1 → (0 ≤ i ∧ i ≤ 36) → (sr0 (suP g K) (fun k => k % 6) i s) → (s ≤ 6) → mEv TB0 ad M_X1_sureBlade (dd + 1) (0, 0) (mCal TB0 ad (dd + 0)) (fun v h' z => z.1 = 0 ∧ Q v h') 5 [some (.long (zJ c)), none, some (.int (zI 0)), some (.int (zI s)), some (.int (zI i)), none] [] h (0, 0) := by
    intro n1
    induction n1 using Nat.strongRecOn with
    | ind n1 ih1 =>
    intro s i  hn1  I1 I3 I4
    refine e_iload dX1_sureBlade_5 rfl ?_
    have ib := sr0_b I3
    refine z_bipush (36) dX1_sureBlade_7 rfl ?_
    refine z_icmp_ge 64 dX1_sureBlade_9 rfl ⟨by omega, by omega⟩ ⟨by omega, by omega⟩ (fun c2 => ?_) (fun c2 => ?_)
    · skip
      refine e_iload_n dX1_sureBlade_64 rfl ?_
      refine z_iret dX1_sureBlade_65 rfl ⟨rfl, ?_⟩
      refine kq _ ?_
      first | exact sr0_c I3 (by omega) (by omega) (ct.mp (by omega)) (by omega) (by omega) | exact Or.inl (by rw [show (36 : Int) = i by omega]; exact I3)
    · skip
      have ct := cS_t pc (i := i) (by omega) (by omega)
      refine e_lload_n dX1_sureBlade_12 rfl ?_
      refine e_iload dX1_sureBlade_13 rfl ?_
      refine z_lshr dX1_sureBlade_15 (by omega) (by omega) (by omega) (by omega) ?_
      have y3 := shrZ_b c i
      refine z_lconst (1) dX1_sureBlade_16 rfl ?_
      refine z_land dX1_sureBlade_17 (by omega) (by omega) ?_
      have y4 := andZ_b (shrZ c i) 1
      refine z_lconst (1) dX1_sureBlade_18 rfl ?_
      refine z_lcmp dX1_sureBlade_19 ⟨by omega, by omega⟩ ⟨by omega, by omega⟩ ?_
      refine z_ifl_ne 58 dX1_sureBlade_20 rfl (fun c5 => ?_) (fun c5 => ?_)
      · skip
        refine z_iinc (L' := [_, _, _, _, _, _]) dX1_sureBlade_58 rfl rfl ?_
        refine e_goto 5 dX1_sureBlade_61 rfl ?_
        exact ih1 _ (by omega) s (i + 1)  rfl  (by omega) (by first | exact sr0_no I3 (fun z => absurd (ct.mpr z) (by omega)) | exact sr0_yes I3 (by omega) (ct.mp (by omega)) (by omega) (by omega)) (by omega)
      · skip
        refine e_iload_n dX1_sureBlade_23 rfl ?_
        refine z_if_eq 35 dX1_sureBlade_24 rfl ⟨by omega, by omega⟩ (fun c6 => ?_) (fun c6 => ?_)
        · skip
          refine e_iload dX1_sureBlade_35 rfl ?_
          refine z_bipush (6) dX1_sureBlade_37 rfl ?_
          refine z_irem dX1_sureBlade_39 (by omega) (by omega) (by omega) (by omega) ?_
          refine e_istore (L' := [_, _, _, _, _, _]) dX1_sureBlade_40 (Nat.le_of_ble_eq_true rfl) rfl ?_
          refine e_iload_n dX1_sureBlade_42 rfl ?_
          refine z_iconst (-1) dX1_sureBlade_43 rfl ?_
          refine z_icmp_eq 55 dX1_sureBlade_44 rfl ⟨by omega, by omega⟩ ⟨by omega, by omega⟩ (fun c7 => ?_) (fun c7 => ?_)
          · skip
            refine e_iload dX1_sureBlade_55 rfl ?_
            refine e_istore_n (L' := [_, _, _, _, _, _]) dX1_sureBlade_57 (Nat.le_of_ble_eq_true rfl) rfl ?_
            refine z_iinc (L' := [_, _, _, _, _, _]) dX1_sureBlade_58 rfl rfl ?_
            refine e_goto 5 dX1_sureBlade_61 rfl ?_
            exact mEv_wk (by exact ⟨Or.inr rfl, Or.inl rfl, Or.inr rfl, Or.inr rfl, Or.inr rfl, Or.inl rfl, trivial⟩) (ih1 _ (by omega) (i % 6) (i + 1)  rfl  (by omega) (by first | exact sr0_no I3 (fun z => absurd (ct.mpr z) (by omega)) | exact sr0_yes I3 (by omega) (ct.mp (by omega)) (by omega) (by omega)) (by omega))
          · skip
            refine e_iload_n dX1_sureBlade_47 rfl ?_
            refine e_iload dX1_sureBlade_48 rfl ?_
            refine z_icmp_eq 55 dX1_sureBlade_50 rfl ⟨by omega, by omega⟩ ⟨by omega, by omega⟩ (fun c8 => ?_) (fun c8 => ?_)
            · skip
              refine e_iload dX1_sureBlade_55 rfl ?_
              refine e_istore_n (L' := [_, _, _, _, _, _]) dX1_sureBlade_57 (Nat.le_of_ble_eq_true rfl) rfl ?_
              refine z_iinc (L' := [_, _, _, _, _, _]) dX1_sureBlade_58 rfl rfl ?_
              refine e_goto 5 dX1_sureBlade_61 rfl ?_
              exact mEv_wk (by exact ⟨Or.inr rfl, Or.inl rfl, Or.inr rfl, Or.inr rfl, Or.inr rfl, Or.inl rfl, trivial⟩) (ih1 _ (by omega) (i % 6) (i + 1)  rfl  (by omega) (by first | exact sr0_no I3 (fun z => absurd (ct.mpr z) (by omega)) | exact sr0_yes I3 (by omega) (ct.mp (by omega)) (by omega) (by omega)) (by omega))
            · skip
              refine z_iconst (-1) dX1_sureBlade_53 rfl ?_
              refine z_iret dX1_sureBlade_54 rfl ⟨rfl, ?_⟩
              refine kq _ ?_
              first | exact sr0_c I3 (by omega) (by omega) (ct.mp (by omega)) (by omega) (by omega) | exact Or.inl (by rw [show (36 : Int) = i by omega]; exact I3)
        · exfalso; omega
  exact lp1 _ (-1) 0  rfl  (by omega) (sr0_0 _ _) (by omega)
set_option maxHeartbeats 400000 in
theorem zp_X1_alike {ad : mA} {dd : Nat} {h : mH} {Q : mQ} {f : Nat} {g K : Int → Int} (hk : fgk h f) (HF : isF h f g)  (c : Int) (s : Int) (s_r : -2147483648 ≤ s ∧ s < 2147483648) (n : Int) (n_r : -2147483648 ≤ n ∧ n < 2147483648) (pc : cS g K c) (p3 : 0 ≤ s ∧ s ≤ 3) (kq : Q (some (.int (zI (akZ g K s n)))) h) : mCal TB0 ad (dd + 3) M_X1_alike [.ref f, .long (zJ c), .int (zI s), .int (zI n)] h 0 0 Q := by
  refine ⟨Nat.le_of_ble_eq_true rfl, ?_⟩
  show mEv TB0 ad M_X1_alike (dd + 3) (0, 0) (mCal TB0 ad (dd + 2)) (fun v h' z => z.1 = 0 ∧ Q v h') 0 [some (.ref f), some (.long (zJ c)), none, some (.int (zI s)), some (.int (zI n)), none, none] [] h (0, 0)
  have w1 := isF_n HF
  have w2 := isF_nd HF
  have w3 := isF_nu HF
  have w4 := isF_nc HF
  have W := isF_w HF
  have cb := cS_b pc
  refine z_iconst (0) dX1_alike_0 rfl ?_
  refine e_istore (L' := [_, _, _, _, _, _, _]) dX1_alike_1 (Nat.le_of_ble_eq_true rfl) rfl ?_
  refine z_iconst (0) dX1_alike_3 rfl ?_
  refine e_istore (L' := [_, _, _, _, _, _, _]) dX1_alike_4 (Nat.le_of_ble_eq_true rfl) rfl ?_
  have lp1 : ∀ (n1 : Nat) (t i : Int), (36 - i).toNat = n1 → (0 ≤ i ∧ i ≤ 36) → (0 ≤ t ∧ t ≤ i) → (t = sumZ (fun k => bZ (suP g K k ∧ msK g s k = n)) i.toNat) → mEv TB0 ad M_X1_alike (dd + 3) (0, 0) (mCal TB0 ad (dd + 2)) (fun v h' z => z.1 = 0 ∧ Q v h') 6 [some (.ref f), some (.long (zJ c)), none, some (.int (zI s)), some (.int (zI n)), some (.int (zI t)), some (.int (zI i))] [] h (0, 0) := by
    intro n1
    induction n1 using Nat.strongRecOn with
    | ind n1 ih1 =>
    intro t i  hn1  I1 I2 I3
    refine e_iload dX1_alike_6 rfl ?_
    refine z_bipush (36) dX1_alike_8 rfl ?_
    refine z_icmp_ge 53 dX1_alike_10 rfl ⟨by omega, by omega⟩ ⟨by omega, by omega⟩ (fun c2 => ?_) (fun c2 => ?_)
    · skip
      refine e_iload dX1_alike_53 rfl ?_
      refine z_iret dX1_alike_55 rfl ⟨rfl, ?_⟩
      refine z_q kq ?_
      rw [I3, show i = 36 by omega]; rfl
    · skip
      have ct := cS_t pc (i := i) (by omega) (by omega)
      refine e_lload_n dX1_alike_13 rfl ?_
      refine e_iload dX1_alike_14 rfl ?_
      refine z_lshr dX1_alike_16 (by omega) (by omega) (by omega) (by omega) ?_
      have y3 := shrZ_b c i
      refine z_lconst (1) dX1_alike_17 rfl ?_
      refine z_land dX1_alike_18 (by omega) (by omega) ?_
      have y4 := andZ_b (shrZ c i) 1
      refine z_lconst (1) dX1_alike_19 rfl ?_
      refine z_lcmp dX1_alike_20 ⟨by omega, by omega⟩ ⟨by omega, by omega⟩ ?_
      refine z_ifl_ne 47 dX1_alike_21 rfl (fun c5 => ?_) (fun c5 => ?_)
      · skip
        refine z_iinc (L' := [_, _, _, _, _, _, _]) dX1_alike_47 rfl rfl ?_
        refine e_goto 6 dX1_alike_50 rfl ?_
        exact ih1 _ (by omega) t (i + 1)  rfl  (by omega) (by omega) (by rw [sumZ_s (by omega)]; first | (rw [bZ_1 ⟨ct.mp (by omega), by unfold msK; omega⟩]; omega) | (rw [bZ_0 (fun z => by first | exact absurd (ct.mpr z.1) (by omega) | (have z2 := z.2; unfold msK at z2; omega))]; omega))
      · skip
        have cp := (ct.mp (by omega)).1
        refine e_aload_n dX1_alike_24 rfl ?_
        refine e_iload dX1_alike_25 rfl ?_
        refine z_bipush (6) dX1_alike_27 rfl ?_
        refine z_idiv dX1_alike_29 (by omega) (by omega) (by omega) (by omega) ?_
        refine e_iload dX1_alike_30 rfl ?_
        refine z_bipush (6) dX1_alike_32 rfl ?_
        refine z_irem dX1_alike_34 (by omega) (by omega) (by omega) (by omega) ?_
        refine e_iload_n dX1_alike_35 rfl ?_
        refine e_callS [.ref _, .int _, .int _, .int _] dX1_alike_36 tm_1_41 rfl (Nat.le_of_ble_eq_true rfl) (Nat.le_refl _) (Nat.le_refl _) rfl (zp_X1_measure hk HF (i / 6) ⟨by omega, by omega⟩ (i % 6) ⟨by omega, by omega⟩ s ⟨by omega, by omega⟩ (by omega) (by omega) (by omega) ?_)
        have y6 := ms2_b (isF_w HF).1 s (show 0 ≤ (i / 6) ∧ (i / 6) < nd g by omega) (show 0 ≤ (i % 6) ∧ (i % 6) < nu g by omega)
        refine e_iload dX1_alike_39 rfl ?_
        refine z_icmp_ne 47 dX1_alike_41 rfl ⟨by omega, by omega⟩ ⟨by omega, by omega⟩ (fun c7 => ?_) (fun c7 => ?_)
        · skip
          refine z_iinc (L' := [_, _, _, _, _, _, _]) dX1_alike_47 rfl rfl ?_
          refine e_goto 6 dX1_alike_50 rfl ?_
          exact ih1 _ (by omega) t (i + 1)  rfl  (by omega) (by omega) (by rw [sumZ_s (by omega)]; first | (rw [bZ_1 ⟨ct.mp (by omega), by unfold msK; omega⟩]; omega) | (rw [bZ_0 (fun z => by first | exact absurd (ct.mpr z.1) (by omega) | (have z2 := z.2; unfold msK at z2; omega))]; omega))
        · skip
          refine z_iinc (L' := [_, _, _, _, _, _, _]) dX1_alike_44 rfl rfl ?_
          refine z_iinc (L' := [_, _, _, _, _, _, _]) dX1_alike_47 rfl rfl ?_
          refine e_goto 6 dX1_alike_50 rfl ?_
          exact ih1 _ (by omega) (t + 1) (i + 1)  rfl  (by omega) (by omega) (by rw [sumZ_s (by omega)]; first | (rw [bZ_1 ⟨ct.mp (by omega), by unfold msK; omega⟩]; omega) | (rw [bZ_0 (fun z => by first | exact absurd (ct.mpr z.1) (by omega) | (have z2 := z.2; unfold msK at z2; omega))]; omega))
  exact lp1 _ 0 0  rfl  (by omega) (by omega) rfl
set_option maxHeartbeats 400000 in
theorem zp_X1_largestAlike {ad : mA} {dd : Nat} {h : mH} {Q : mQ} {f : Nat} {g K : Int → Int} (hk : fgk h f) (HF : isF h f g)  (c : Int) (s : Int) (s_r : -2147483648 ≤ s ∧ s < 2147483648) (pc : cS g K c) (p3 : 0 ≤ s ∧ s ≤ 3) (kq : Q (some (.int (zI (alZ g K s)))) h) : mCal TB0 ad (dd + 4) M_X1_largestAlike [.ref f, .long (zJ c), .int (zI s)] h 0 0 Q := by
  refine ⟨Nat.le_of_ble_eq_true rfl, ?_⟩
  show mEv TB0 ad M_X1_largestAlike (dd + 4) (0, 0) (mCal TB0 ad (dd + 3)) (fun v h' z => z.1 = 0 ∧ Q v h') 0 [some (.ref f), some (.long (zJ c)), none, some (.int (zI s)), none, none, none] [] h (0, 0)
  have w1 := isF_n HF
  have w2 := isF_nd HF
  have w3 := isF_nu HF
  have w4 := isF_nc HF
  have W := isF_w HF
  have cb := cS_b pc
  refine z_iconst (0) dX1_largestAlike_0 rfl ?_
  refine e_istore (L' := [_, _, _, _, _, _, _]) dX1_largestAlike_1 (Nat.le_of_ble_eq_true rfl) rfl ?_
  refine z_iconst (0) dX1_largestAlike_3 rfl ?_
  refine e_istore (L' := [_, _, _, _, _, _, _]) dX1_largestAlike_4 (Nat.le_of_ble_eq_true rfl) rfl ?_
  have lp1 : ∀ (n1 : Nat) (t i : Int), (36 - i).toNat = n1 → (0 ≤ i ∧ i ≤ 36) → (0 ≤ t ∧ t ≤ 36) → (t = mxQ (suP g K) (alF g K s) i.toNat) → mEv TB0 ad M_X1_largestAlike (dd + 4) (0, 0) (mCal TB0 ad (dd + 3)) (fun v h' z => z.1 = 0 ∧ Q v h') 6 [some (.ref f), some (.long (zJ c)), none, some (.int (zI s)), some (.int (zI t)), some (.int (zI i)), none] [] h (0, 0) := by
    intro n1
    induction n1 using Nat.strongRecOn with
    | ind n1 ih1 =>
    intro t i  hn1  I1 I2 I3
    refine e_iload dX1_largestAlike_6 rfl ?_
    refine z_bipush (36) dX1_largestAlike_8 rfl ?_
    refine z_icmp_ge 62 dX1_largestAlike_10 rfl ⟨by omega, by omega⟩ ⟨by omega, by omega⟩ (fun c2 => ?_) (fun c2 => ?_)
    · skip
      refine e_iload dX1_largestAlike_62 rfl ?_
      refine z_iret dX1_largestAlike_64 rfl ⟨rfl, ?_⟩
      refine z_q kq ?_
      rw [I3, show i = 36 by omega]; rfl
    · skip
      have ct := cS_t pc (i := i) (by omega) (by omega)
      refine e_lload_n dX1_largestAlike_13 rfl ?_
      refine e_iload dX1_largestAlike_14 rfl ?_
      refine z_lshr dX1_largestAlike_16 (by omega) (by omega) (by omega) (by omega) ?_
      have y3 := shrZ_b c i
      refine z_lconst (1) dX1_largestAlike_17 rfl ?_
      refine z_land dX1_largestAlike_18 (by omega) (by omega) ?_
      have y4 := andZ_b (shrZ c i) 1
      refine z_lconst (1) dX1_largestAlike_19 rfl ?_
      refine z_lcmp dX1_largestAlike_20 ⟨by omega, by omega⟩ ⟨by omega, by omega⟩ ?_
      refine z_ifl_ne 56 dX1_largestAlike_21 rfl (fun c5 => ?_) (fun c5 => ?_)
      · skip
        refine z_iinc (L' := [_, _, _, _, _, _, _]) dX1_largestAlike_56 rfl rfl ?_
        refine e_goto 6 dX1_largestAlike_59 rfl ?_
        exact ih1 _ (by omega) t (i + 1)  rfl  (by omega) (by omega) (by first | (rw [mxQ_1 (by omega) (ct.mp (by omega)), ← I3]; rfl) | (rw [mxQ_n (by omega) (fun z => absurd (ct.mpr z) (by omega))]; exact I3))
      · skip
        have cp := (ct.mp (by omega)).1
        refine e_aload_n dX1_largestAlike_24 rfl ?_
        refine e_iload dX1_largestAlike_25 rfl ?_
        refine z_bipush (6) dX1_largestAlike_27 rfl ?_
        refine z_idiv dX1_largestAlike_29 (by omega) (by omega) (by omega) (by omega) ?_
        refine e_iload dX1_largestAlike_30 rfl ?_
        refine z_bipush (6) dX1_largestAlike_32 rfl ?_
        refine z_irem dX1_largestAlike_34 (by omega) (by omega) (by omega) (by omega) ?_
        refine e_iload_n dX1_largestAlike_35 rfl ?_
        refine e_callS [.ref _, .int _, .int _, .int _] dX1_largestAlike_36 tm_1_41 rfl (Nat.le_of_ble_eq_true rfl) (Nat.le_refl _) (Nat.le_refl _) rfl (zp_X1_measure hk HF (i / 6) ⟨by omega, by omega⟩ (i % 6) ⟨by omega, by omega⟩ s ⟨by omega, by omega⟩ (by omega) (by omega) (by omega) ?_)
        have y6 := ms2_b (isF_w HF).1 s (show 0 ≤ (i / 6) ∧ (i / 6) < nd g by omega) (show 0 ≤ (i % 6) ∧ (i % 6) < nu g by omega)
        refine e_istore (L' := [_, _, _, _, _, _, _]) dX1_largestAlike_39 (Nat.le_of_ble_eq_true rfl) rfl ?_
        refine e_iload dX1_largestAlike_41 rfl ?_
        refine e_aload_n dX1_largestAlike_43 rfl ?_
        refine e_lload_n dX1_largestAlike_44 rfl ?_
        refine e_iload_n dX1_largestAlike_45 rfl ?_
        refine e_iload dX1_largestAlike_46 rfl ?_
        refine e_callS [.ref _, .long _, .int _, .int _] dX1_largestAlike_48 tm_1_68 rfl (Nat.le_of_ble_eq_true rfl) (Nat.le_refl _) (Nat.le_refl _) rfl (zp_X1_alike hk HF c s ⟨by omega, by omega⟩ (ms2 g s (i / 6) (i % 6)) ⟨by omega, by omega⟩ (by omega) (by omega) ?_)
        have y7 := akZ_b g K s (ms2 g s (i / 6) (i % 6))
        refine z_mmax dX1_largestAlike_51 tm_1_72 (Nat.le_of_ble_eq_true rfl) ⟨by omega, by omega⟩ ⟨by omega, by omega⟩ ?_
        refine e_istore (L' := [_, _, _, _, _, _, _]) dX1_largestAlike_54 (Nat.le_of_ble_eq_true rfl) rfl ?_
        refine z_iinc (L' := [_, _, _, _, _, _, _]) dX1_largestAlike_56 rfl rfl ?_
        refine e_goto 6 dX1_largestAlike_59 rfl ?_
        exact mEv_wk (by exact ⟨Or.inr rfl, Or.inr rfl, Or.inl rfl, Or.inr rfl, Or.inr rfl, Or.inr rfl, Or.inl rfl, trivial⟩) (ih1 _ (by omega) (max t (akZ g K s (ms2 g s (i / 6) (i % 6)))) (i + 1)  rfl  (by omega) (by omega) (by first | (rw [mxQ_1 (by omega) (ct.mp (by omega)), ← I3]; rfl) | (rw [mxQ_n (by omega) (fun z => absurd (ct.mpr z) (by omega))]; exact I3)))
  exact lp1 _ 0 0  rfl  (by omega) (by omega) rfl
set_option maxHeartbeats 400000 in
theorem zp_X1_bestNext {ad : mA} {dd : Nat} {h : mH} {Q : mQ} {f : Nat} {g K : Int → Int} (hk : fgk h f) (HF : isF h f g)  (c : Int) (pc : cS g K c) (kq : ∀ v : Int, (nxR g K v) → Q (some (.int (zI v))) h) : mCal TB0 ad (dd + 5) M_X1_bestNext [.ref f, .long (zJ c)] h 0 0 Q := by
  refine ⟨Nat.le_of_ble_eq_true rfl, ?_⟩
  show mEv TB0 ad M_X1_bestNext (dd + 5) (0, 0) (mCal TB0 ad (dd + 4)) (fun v h' z => z.1 = 0 ∧ Q v h') 0 [some (.ref f), some (.long (zJ c)), none, none, none, none, none] [] h (0, 0)
  have w1 := isF_n HF
  have w2 := isF_nd HF
  have w3 := isF_nu HF
  have w4 := isF_nc HF
  have W := isF_w HF
  have cb := cS_b pc
  have cz := cS_z pc
  refine z_iconst (-1) dX1_bestNext_0 rfl ?_
  refine e_istore_n (L' := [_, _, _, _, _, _, _]) dX1_bestNext_1 (Nat.le_of_ble_eq_true rfl) rfl ?_
  refine z_bipush (37) dX1_bestNext_2 rfl ?_
  refine e_istore (L' := [_, _, _, _, _, _, _]) dX1_bestNext_4 (Nat.le_of_ble_eq_true rfl) rfl ?_
  refine z_iconst (0) dX1_bestNext_6 rfl ?_
  refine e_istore (L' := [_, _, _, _, _, _, _]) dX1_bestNext_7 (Nat.le_of_ble_eq_true rfl) rfl ?_
  have lp1 : ∀ (n1 : Nat) (b l s : Int), (4 - s).toNat = n1 → (0 ≤ s ∧ s ≤ 4) → (fmax (fun _ => True) (fun s => - alZ g K s) s b) → ((b = -1 ∧ l = 37) ∨ (b ≠ -1 ∧ l = alZ g K b)) → (0 ≤ l ∧ l ≤ 37) → (c = 0 → b = -1) → (s = 0 ∨ c ≠ 0) → mEv TB0 ad M_X1_bestNext (dd + 5) (0, 0) (mCal TB0 ad (dd + 4)) (fun v h' z => z.1 = 0 ∧ Q v h') 9 [some (.ref f), some (.long (zJ c)), none, some (.int (zI b)), some (.int (zI l)), some (.int (zI s)), none] [] h (0, 0) := by
    intro n1
    induction n1 using Nat.strongRecOn with
    | ind n1 ih1 =>
    intro b l s  hn1  I1 I3 I4 I5 I6 I7
    refine e_iload dX1_bestNext_9 rfl ?_
    have qb := fmax_b I3
    refine z_iconst (4) dX1_bestNext_11 rfl ?_
    refine z_icmp_ge 50 dX1_bestNext_12 rfl ⟨by omega, by omega⟩ ⟨by omega, by omega⟩ (fun c2 => ?_) (fun c2 => ?_)
    · skip
      refine e_iload_n dX1_bestNext_50 rfl ?_
      refine z_iret dX1_bestNext_51 rfl ⟨rfl, ?_⟩
      refine kq _ ?_
      first | exact Or.inl ⟨by omega, by omega⟩ | exact Or.inr ⟨by omega, by rw [show (4 : Int) = s by omega]; exact I3⟩
    · skip
      refine e_lload_n dX1_bestNext_15 rfl ?_
      refine z_lconst (0) dX1_bestNext_16 rfl ?_
      refine z_lcmp dX1_bestNext_17 ⟨by omega, by omega⟩ ⟨by omega, by omega⟩ ?_
      refine z_ifl_eq 50 dX1_bestNext_18 rfl (fun c3 => ?_) (fun c3 => ?_)
      · skip
        refine e_iload_n dX1_bestNext_50 rfl ?_
        refine z_iret dX1_bestNext_51 rfl ⟨rfl, ?_⟩
        refine kq _ ?_
        first | exact Or.inl ⟨by omega, by omega⟩ | exact Or.inr ⟨by omega, by rw [show (4 : Int) = s by omega]; exact I3⟩
      · skip
        refine e_aload_n dX1_bestNext_21 rfl ?_
        refine e_lload_n dX1_bestNext_22 rfl ?_
        refine e_iload dX1_bestNext_23 rfl ?_
        refine e_callS [.ref _, .long _, .int _] dX1_bestNext_25 tm_1_64 rfl (Nat.le_of_ble_eq_true rfl) (Nat.le_refl _) (Nat.le_refl _) rfl (zp_X1_largestAlike hk HF c s ⟨by omega, by omega⟩ (by omega) (by omega) ?_)
        have y4 := alZ_b g K s
        refine e_istore (L' := [_, _, _, _, _, _, _]) dX1_bestNext_28 (Nat.le_of_ble_eq_true rfl) rfl ?_
        refine e_iload dX1_bestNext_30 rfl ?_
        refine e_iload dX1_bestNext_32 rfl ?_
        refine z_icmp_ge 44 dX1_bestNext_34 rfl ⟨by omega, by omega⟩ ⟨by omega, by omega⟩ (fun c5 => ?_) (fun c5 => ?_)
        · skip
          refine z_iinc (L' := [_, _, _, _, _, _, _]) dX1_bestNext_44 rfl rfl ?_
          refine e_goto 9 dX1_bestNext_47 rfl ?_
          exact mEv_wk (by exact ⟨Or.inr rfl, Or.inr rfl, Or.inl rfl, Or.inr rfl, Or.inr rfl, Or.inr rfl, Or.inl rfl, trivial⟩) (ih1 _ (by omega) b l (s + 1)  rfl  (by omega) (by first | exact fmax_new I3 (by omega) trivial (by show b = -1 ∨ -alZ g K b < -alZ g K s; omega) | exact fmax_keep I3 (by omega) (by show -alZ g K s ≤ -alZ g K b; omega)) (by omega) (by omega) (by omega) (by omega))
        · skip
          refine e_iload dX1_bestNext_37 rfl ?_
          refine e_istore (L' := [_, _, _, _, _, _, _]) dX1_bestNext_39 (Nat.le_of_ble_eq_true rfl) rfl ?_
          refine e_iload dX1_bestNext_41 rfl ?_
          refine e_istore_n (L' := [_, _, _, _, _, _, _]) dX1_bestNext_43 (Nat.le_of_ble_eq_true rfl) rfl ?_
          refine z_iinc (L' := [_, _, _, _, _, _, _]) dX1_bestNext_44 rfl rfl ?_
          refine e_goto 9 dX1_bestNext_47 rfl ?_
          exact mEv_wk (by exact ⟨Or.inr rfl, Or.inr rfl, Or.inl rfl, Or.inr rfl, Or.inr rfl, Or.inr rfl, Or.inl rfl, trivial⟩) (ih1 _ (by omega) s (alZ g K s) (s + 1)  rfl  (by omega) (by first | exact fmax_new I3 (by omega) trivial (by show b = -1 ∨ -alZ g K b < -alZ g K s; omega) | exact fmax_keep I3 (by omega) (by show -alZ g K s ≤ -alZ g K b; omega)) (by omega) (by omega) (by omega) (by omega))
  exact lp1 _ (-1) 37 0  rfl  (by omega) (fmax_0 _ _ (by omega)) (by omega) (by omega) (by omega) (by omega)
set_option maxHeartbeats 1000000 in
theorem zp_X11_whose_in {ad : mA} {dd : Nat} {h : mH} {Q : mQ} {x : Nat} {σ : Sg} (hk : bk h x) (HX : clsT h (x + 1) σ)  (f : Int) (f_r : -2147483648 ≤ f ∧ f < 2147483648) (y : Int) (y_r : -2147483648 ≤ y ∧ y < 2147483648) (w : Int) (w_r : -2147483648 ≤ w ∧ w < 2147483648) (p1 : 0 ≤ f ∧ f < cn σ 0) (p2 : 0 ≤ y ∧ y < cn σ 2) (kq : ∀ v : Int, (whR (sG σ f) (sC σ y) w v) → Q (some (.int (zI v))) h) : mCal TB0 ad (dd + 6) M_X11_whose [.ref x, .int (zI f), .int (zI y), .int (zI w)] h 0 0 Q := by
  refine ⟨Nat.le_of_ble_eq_true rfl, ?_⟩
  show mEv TB0 ad M_X11_whose (dd + 6) (0, 0) (mCal TB0 ad (dd + 5)) (fun v h' z => z.1 = 0 ∧ Q v h') 0 [some (.ref x), some (.int (zI f)), some (.int (zI y)), some (.int (zI w)), none, none, none, none] [] h (0, 0)
  have w1 := wS_n (clsT_w HX)
  refine e_aload_n dX11_whose_0 rfl ?_
  refine e_get (.ref (x + 1)) dX11_whose_1 tf_11_10 (congrArg Prod.fst (bk_s0 hk)) (congrArg va_rf (bk_r0_0 hk)) ?_
  refine e_iload_n dX11_whose_4 rfl ?_
  refine e_callV [.int _] dX11_whose_5 tm_11_94 rfl (Nat.le_of_ble_eq_true rfl) (congrArg Prod.fst (bk_s1 hk)) (Nat.le_of_ble_eq_true rfl) (Nat.le_refl _) (Nat.le_refl _) rfl (zp_X8_forgeAt_in (bk_td1 hk) HX f ⟨by omega, by omega⟩ (by omega) (by omega) ?_)
  have k1 := fAt_k (bk_td1 hk) f
  have H2 := clsT_F HX (show 0 ≤ f by omega) (by omega)
  have y3 := fAt_b (x + 1) f
  refine e_astore (L' := [_, _, _, _, _, _, _, _]) dX11_whose_8 (Nat.le_of_ble_eq_true rfl) rfl ?_
  refine e_aload_n dX11_whose_10 rfl ?_
  refine e_get (.ref (x + 1)) dX11_whose_11 tf_11_10 (congrArg Prod.fst (bk_s0 hk)) (congrArg va_rf (bk_r0_0 hk)) ?_
  refine e_iload_n dX11_whose_14 rfl ?_
  refine e_callV [.int _] dX11_whose_15 tm_11_223 rfl (Nat.le_of_ble_eq_true rfl) (congrArg Prod.fst (bk_s1 hk)) (Nat.le_of_ble_eq_true rfl) (Nat.le_refl _) (Nat.le_refl _) rfl (zp_X8_cluesAt_in (bk_td1 hk) HX y ⟨by omega, by omega⟩ (by omega) (by omega) ?_)
  have k4 := kAt_k (bk_td1 hk) y
  have H5 := clsT_K HX (show 0 ≤ y by omega) (by omega)
  have y6 := kAt_b (x + 1) y
  refine e_astore (L' := [_, _, _, _, _, _, _, _]) dX11_whose_18 (Nat.le_of_ble_eq_true rfl) rfl ?_
  refine e_aload dX11_whose_20 rfl ?_
  refine e_ifnull 30 dX11_whose_22 rfl ?_
  refine e_aload dX11_whose_25 rfl ?_
  refine e_ifnonnull 33 dX11_whose_27 rfl ?_
  refine e_aload dX11_whose_33 rfl ?_
  refine e_aload dX11_whose_35 rfl ?_
  refine e_callV [.ref _] dX11_whose_37 tm_11_230 rfl (Nat.le_of_ble_eq_true rfl) (congrArg Prod.fst (cu_s0 k4)) (Nat.le_of_ble_eq_true rfl) (Nat.le_refl _) (Nat.le_refl _) rfl (zp_X1_suspects k4 k1 H2 H5 (fun v7 p8 => ?_))
  have pcs : cS (sG σ f) (sC σ y) v7 := by assumption
  have pcb := cS_b pcs
  refine e_lstore (L' := [_, _, _, _, _, _, _, _]) dX11_whose_40 (Nat.le_of_ble_eq_true rfl) rfl ?_
  refine e_iload_n dX11_whose_42 rfl ?_
  by_cases c9 : w = 0
  · skip
    refine z_tableV (0) 72 dX11_whose_43 c9 (by decide) (by decide +kernel) ?_
    refine e_lload dX11_whose_72 rfl ?_
    refine e_callS [.long _] dX11_whose_74 tm_11_234 rfl (Nat.le_of_ble_eq_true rfl) (Nat.le_refl _) (Nat.le_refl _) rfl (zp_J13_bitCount_95d88 v7 (by omega) ?_)
    have y10 := pcZ_b v7
    refine z_iret dX11_whose_77 rfl ⟨rfl, ?_⟩
    refine kq _ ?_
    first | exact whR_0 (by omega) (pc_S pcs) | exact whR_1 (by omega) (by assumption) | exact whR_2 (by omega) (by assumption) | exact whR_3 (by omega) (by assumption) | exact whR_a (by omega) (by assumption) | exact whR_o (by omega) rfl
  by_cases c11 : w = 1
  · skip
    refine z_tableV (1) 78 dX11_whose_43 c11 (by decide) (by decide +kernel) ?_
    refine e_lload dX11_whose_78 rfl ?_
    refine z_iconst (1) dX11_whose_80 rfl ?_
    refine e_callS [.long _, .int _] dX11_whose_81 tm_11_240 rfl (Nat.le_of_ble_eq_true rfl) (Nat.le_refl _) (Nat.le_refl _) rfl (zp_X1_sureBlade_1 v7 pcs (fun v12 p13 => ?_))
    refine z_iret dX11_whose_84 rfl ⟨rfl, ?_⟩
    refine kq _ ?_
    first | exact whR_0 (by omega) (pc_S pcs) | exact whR_1 (by omega) (by assumption) | exact whR_2 (by omega) (by assumption) | exact whR_3 (by omega) (by assumption) | exact whR_a (by omega) (by assumption) | exact whR_o (by omega) rfl
  by_cases c14 : w = 2
  · skip
    refine z_tableV (2) 85 dX11_whose_43 c14 (by decide) (by decide +kernel) ?_
    refine e_lload dX11_whose_85 rfl ?_
    refine z_iconst (0) dX11_whose_87 rfl ?_
    refine e_callS [.long _, .int _] dX11_whose_88 tm_11_240 rfl (Nat.le_of_ble_eq_true rfl) (Nat.le_refl _) (Nat.le_refl _) rfl (zp_X1_sureBlade_0 v7 pcs (fun v15 p16 => ?_))
    refine z_iret dX11_whose_91 rfl ⟨rfl, ?_⟩
    refine kq _ ?_
    first | exact whR_0 (by omega) (pc_S pcs) | exact whR_1 (by omega) (by assumption) | exact whR_2 (by omega) (by assumption) | exact whR_3 (by omega) (by assumption) | exact whR_a (by omega) (by assumption) | exact whR_o (by omega) rfl
  by_cases c17 : w = 3
  · skip
    refine z_tableV (3) 92 dX11_whose_43 c17 (by decide) (by decide +kernel) ?_
    refine e_aload dX11_whose_92 rfl ?_
    refine e_lload dX11_whose_94 rfl ?_
    refine e_callS [.ref _, .long _] dX11_whose_96 tm_11_244 rfl (Nat.le_of_ble_eq_true rfl) (Nat.le_refl _) (Nat.le_refl _) rfl (zp_X1_bestNext k1 H2 v7 pcs (fun v18 p19 => ?_))
    refine z_iret dX11_whose_99 rfl ⟨rfl, ?_⟩
    refine kq _ ?_
    first | exact whR_0 (by omega) (pc_S pcs) | exact whR_1 (by omega) (by assumption) | exact whR_2 (by omega) (by assumption) | exact whR_3 (by omega) (by assumption) | exact whR_a (by omega) (by assumption) | exact whR_o (by omega) rfl
  refine z_tableD 100 dX11_whose_43 ⟨by omega, by omega⟩ (by omega) rfl ?_
  refine e_iload_n dX11_whose_100 rfl ?_
  refine z_bipush (10) dX11_whose_101 rfl ?_
  refine z_icmp_ge 111 dX11_whose_103 rfl ⟨by omega, by omega⟩ ⟨by omega, by omega⟩ (fun c20 => ?_) (fun c20 => ?_)
  · skip
    refine e_lload dX11_whose_111 rfl ?_
    refine e_iload_n dX11_whose_113 rfl ?_
    refine z_bipush (10) dX11_whose_114 rfl ?_
    refine z_isub dX11_whose_116 ?_
    refine e_callS [.long _, .int _] dX11_whose_117 tm_11_248 rfl (Nat.le_of_ble_eq_true rfl) (Nat.le_refl _) (Nat.le_refl _) rfl (zp_X1_suspectAt v7 (w - 10) ⟨by omega, by omega⟩ pcs (fun v21 p22 => ?_))
    refine z_iret dX11_whose_120 rfl ⟨rfl, ?_⟩
    refine kq _ ?_
    first | exact whR_0 (by omega) (pc_S pcs) | exact whR_1 (by omega) (by assumption) | exact whR_2 (by omega) (by assumption) | exact whR_3 (by omega) (by assumption) | exact whR_a (by omega) (by assumption) | exact whR_o (by omega) rfl
  · skip
    refine z_bipush (-2) dX11_whose_106 rfl ?_
    refine e_goto 120 dX11_whose_108 rfl ?_
    refine z_iret dX11_whose_120 rfl ⟨rfl, ?_⟩
    refine kq _ ?_
    first | exact whR_0 (by omega) (pc_S pcs) | exact whR_1 (by omega) (by assumption) | exact whR_2 (by omega) (by assumption) | exact whR_3 (by omega) (by assumption) | exact whR_a (by omega) (by assumption) | exact whR_o (by omega) rfl
set_option maxHeartbeats 400000 in
theorem zp_X11_whose_io {ad : mA} {dd : Nat} {h : mH} {Q : mQ} {x : Nat} {σ : Sg} (hk : bk h x) (HX : clsT h (x + 1) σ)  (f : Int) (f_r : -2147483648 ≤ f ∧ f < 2147483648) (y : Int) (y_r : -2147483648 ≤ y ∧ y < 2147483648) (w : Int) (w_r : -2147483648 ≤ w ∧ w < 2147483648) (p1 : 0 ≤ f ∧ f < cn σ 0) (p2 : ¬ (0 ≤ y ∧ y < cn σ 2)) (kq : Q (some (.int (zI (-2)))) h) : mCal TB0 ad (dd + 6) M_X11_whose [.ref x, .int (zI f), .int (zI y), .int (zI w)] h 0 0 Q := by
  refine ⟨Nat.le_of_ble_eq_true rfl, ?_⟩
  show mEv TB0 ad M_X11_whose (dd + 6) (0, 0) (mCal TB0 ad (dd + 5)) (fun v h' z => z.1 = 0 ∧ Q v h') 0 [some (.ref x), some (.int (zI f)), some (.int (zI y)), some (.int (zI w)), none, none, none, none] [] h (0, 0)
  have w1 := wS_n (clsT_w HX)
  refine e_aload_n dX11_whose_0 rfl ?_
  refine e_get (.ref (x + 1)) dX11_whose_1 tf_11_10 (congrArg Prod.fst (bk_s0 hk)) (congrArg va_rf (bk_r0_0 hk)) ?_
  refine e_iload_n dX11_whose_4 rfl ?_
  refine e_callV [.int _] dX11_whose_5 tm_11_94 rfl (Nat.le_of_ble_eq_true rfl) (congrArg Prod.fst (bk_s1 hk)) (Nat.le_of_ble_eq_true rfl) (Nat.le_refl _) (Nat.le_refl _) rfl (zp_X8_forgeAt_in (bk_td1 hk) HX f ⟨by omega, by omega⟩ (by omega) (by omega) ?_)
  have k1 := fAt_k (bk_td1 hk) f
  have H2 := clsT_F HX (show 0 ≤ f by omega) (by omega)
  have y3 := fAt_b (x + 1) f
  refine e_astore (L' := [_, _, _, _, _, _, _, _]) dX11_whose_8 (Nat.le_of_ble_eq_true rfl) rfl ?_
  refine e_aload_n dX11_whose_10 rfl ?_
  refine e_get (.ref (x + 1)) dX11_whose_11 tf_11_10 (congrArg Prod.fst (bk_s0 hk)) (congrArg va_rf (bk_r0_0 hk)) ?_
  refine e_iload_n dX11_whose_14 rfl ?_
  refine e_callV [.int _] dX11_whose_15 tm_11_223 rfl (Nat.le_of_ble_eq_true rfl) (congrArg Prod.fst (bk_s1 hk)) (Nat.le_of_ble_eq_true rfl) (Nat.le_refl _) (Nat.le_refl _) rfl (zp_X8_cluesAt_out (bk_td1 hk) HX y ⟨by omega, by omega⟩ (by omega) ?_)
  refine e_astoreN (L' := [_, _, _, _, _, _, _, _]) dX11_whose_18 (Nat.le_of_ble_eq_true rfl) rfl ?_
  refine e_aload dX11_whose_20 rfl ?_
  refine e_ifnull 30 dX11_whose_22 rfl ?_
  refine e_aloadN dX11_whose_25 rfl ?_
  refine e_ifnonnullN 33 dX11_whose_27 rfl ?_
  refine z_bipush (-2) dX11_whose_30 rfl ?_
  refine z_iret dX11_whose_32 rfl ⟨rfl, ?_⟩
  refine z_q kq ?_
  rfl
set_option maxHeartbeats 400000 in
theorem zp_X11_whose_oi {ad : mA} {dd : Nat} {h : mH} {Q : mQ} {x : Nat} {σ : Sg} (hk : bk h x) (HX : clsT h (x + 1) σ)  (f : Int) (f_r : -2147483648 ≤ f ∧ f < 2147483648) (y : Int) (y_r : -2147483648 ≤ y ∧ y < 2147483648) (w : Int) (w_r : -2147483648 ≤ w ∧ w < 2147483648) (p1 : ¬ (0 ≤ f ∧ f < cn σ 0)) (p2 : 0 ≤ y ∧ y < cn σ 2) (kq : Q (some (.int (zI (-2)))) h) : mCal TB0 ad (dd + 6) M_X11_whose [.ref x, .int (zI f), .int (zI y), .int (zI w)] h 0 0 Q := by
  refine ⟨Nat.le_of_ble_eq_true rfl, ?_⟩
  show mEv TB0 ad M_X11_whose (dd + 6) (0, 0) (mCal TB0 ad (dd + 5)) (fun v h' z => z.1 = 0 ∧ Q v h') 0 [some (.ref x), some (.int (zI f)), some (.int (zI y)), some (.int (zI w)), none, none, none, none] [] h (0, 0)
  have w1 := wS_n (clsT_w HX)
  refine e_aload_n dX11_whose_0 rfl ?_
  refine e_get (.ref (x + 1)) dX11_whose_1 tf_11_10 (congrArg Prod.fst (bk_s0 hk)) (congrArg va_rf (bk_r0_0 hk)) ?_
  refine e_iload_n dX11_whose_4 rfl ?_
  refine e_callV [.int _] dX11_whose_5 tm_11_94 rfl (Nat.le_of_ble_eq_true rfl) (congrArg Prod.fst (bk_s1 hk)) (Nat.le_of_ble_eq_true rfl) (Nat.le_refl _) (Nat.le_refl _) rfl (zp_X8_forgeAt_out (bk_td1 hk) HX f ⟨by omega, by omega⟩ (by omega) ?_)
  refine e_astoreN (L' := [_, _, _, _, _, _, _, _]) dX11_whose_8 (Nat.le_of_ble_eq_true rfl) rfl ?_
  refine e_aload_n dX11_whose_10 rfl ?_
  refine e_get (.ref (x + 1)) dX11_whose_11 tf_11_10 (congrArg Prod.fst (bk_s0 hk)) (congrArg va_rf (bk_r0_0 hk)) ?_
  refine e_iload_n dX11_whose_14 rfl ?_
  refine e_callV [.int _] dX11_whose_15 tm_11_223 rfl (Nat.le_of_ble_eq_true rfl) (congrArg Prod.fst (bk_s1 hk)) (Nat.le_of_ble_eq_true rfl) (Nat.le_refl _) (Nat.le_refl _) rfl (zp_X8_cluesAt_in (bk_td1 hk) HX y ⟨by omega, by omega⟩ (by omega) (by omega) ?_)
  have k1 := kAt_k (bk_td1 hk) y
  have H2 := clsT_K HX (show 0 ≤ y by omega) (by omega)
  have y3 := kAt_b (x + 1) y
  refine e_astore (L' := [_, _, _, _, _, _, _, _]) dX11_whose_18 (Nat.le_of_ble_eq_true rfl) rfl ?_
  refine e_aloadN dX11_whose_20 rfl ?_
  refine e_ifnullN 30 dX11_whose_22 rfl ?_
  refine z_bipush (-2) dX11_whose_30 rfl ?_
  refine z_iret dX11_whose_32 rfl ⟨rfl, ?_⟩
  refine z_q kq ?_
  rfl
set_option maxHeartbeats 400000 in
theorem zp_X11_whose_oo {ad : mA} {dd : Nat} {h : mH} {Q : mQ} {x : Nat} {σ : Sg} (hk : bk h x) (HX : clsT h (x + 1) σ)  (f : Int) (f_r : -2147483648 ≤ f ∧ f < 2147483648) (y : Int) (y_r : -2147483648 ≤ y ∧ y < 2147483648) (w : Int) (w_r : -2147483648 ≤ w ∧ w < 2147483648) (p1 : ¬ (0 ≤ f ∧ f < cn σ 0)) (p2 : ¬ (0 ≤ y ∧ y < cn σ 2)) (kq : Q (some (.int (zI (-2)))) h) : mCal TB0 ad (dd + 6) M_X11_whose [.ref x, .int (zI f), .int (zI y), .int (zI w)] h 0 0 Q := by
  refine ⟨Nat.le_of_ble_eq_true rfl, ?_⟩
  show mEv TB0 ad M_X11_whose (dd + 6) (0, 0) (mCal TB0 ad (dd + 5)) (fun v h' z => z.1 = 0 ∧ Q v h') 0 [some (.ref x), some (.int (zI f)), some (.int (zI y)), some (.int (zI w)), none, none, none, none] [] h (0, 0)
  have w1 := wS_n (clsT_w HX)
  refine e_aload_n dX11_whose_0 rfl ?_
  refine e_get (.ref (x + 1)) dX11_whose_1 tf_11_10 (congrArg Prod.fst (bk_s0 hk)) (congrArg va_rf (bk_r0_0 hk)) ?_
  refine e_iload_n dX11_whose_4 rfl ?_
  refine e_callV [.int _] dX11_whose_5 tm_11_94 rfl (Nat.le_of_ble_eq_true rfl) (congrArg Prod.fst (bk_s1 hk)) (Nat.le_of_ble_eq_true rfl) (Nat.le_refl _) (Nat.le_refl _) rfl (zp_X8_forgeAt_out (bk_td1 hk) HX f ⟨by omega, by omega⟩ (by omega) ?_)
  refine e_astoreN (L' := [_, _, _, _, _, _, _, _]) dX11_whose_8 (Nat.le_of_ble_eq_true rfl) rfl ?_
  refine e_aload_n dX11_whose_10 rfl ?_
  refine e_get (.ref (x + 1)) dX11_whose_11 tf_11_10 (congrArg Prod.fst (bk_s0 hk)) (congrArg va_rf (bk_r0_0 hk)) ?_
  refine e_iload_n dX11_whose_14 rfl ?_
  refine e_callV [.int _] dX11_whose_15 tm_11_223 rfl (Nat.le_of_ble_eq_true rfl) (congrArg Prod.fst (bk_s1 hk)) (Nat.le_of_ble_eq_true rfl) (Nat.le_refl _) (Nat.le_refl _) rfl (zp_X8_cluesAt_out (bk_td1 hk) HX y ⟨by omega, by omega⟩ (by omega) ?_)
  refine e_astoreN (L' := [_, _, _, _, _, _, _, _]) dX11_whose_18 (Nat.le_of_ble_eq_true rfl) rfl ?_
  refine e_aloadN dX11_whose_20 rfl ?_
  refine e_ifnullN 30 dX11_whose_22 rfl ?_
  refine z_bipush (-2) dX11_whose_30 rfl ?_
  refine z_iret dX11_whose_32 rfl ⟨rfl, ?_⟩
  refine z_q kq ?_
  rfl

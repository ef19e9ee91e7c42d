/-! WHOSE of the reference -/
theorem dX12_tells_0 : decode cX12_tells 0 = .ok (.iload_n 1, 1) := by decide +kernel
theorem dX12_tells_1 : decode cX12_tells 1 = .ok (.tableswitch 80 0 2 #[27, 44, 63], 27) := by decide +kernel
theorem dX12_tells_28 : decode cX12_tells 28 = .ok (.aload_n 0, 1) := by decide +kernel
theorem dX12_tells_29 : decode cX12_tells 29 = .ok (.getfield 41, 3) := by decide +kernel
theorem dX12_tells_32 : decode cX12_tells 32 = .ok (.iload_n 2, 1) := by decide +kernel
theorem dX12_tells_33 : decode cX12_tells 33 = .ok (.iaload, 1) := by decide +kernel
theorem dX12_tells_34 : decode cX12_tells 34 = .ok (.aload_n 0, 1) := by decide +kernel
theorem dX12_tells_35 : decode cX12_tells 35 = .ok (.getfield 41, 3) := by decide +kernel
theorem dX12_tells_38 : decode cX12_tells 38 = .ok (.bipush 6, 2) := by decide +kernel
theorem dX12_tells_40 : decode cX12_tells 40 = .ok (.iload_n 3, 1) := by decide +kernel
theorem dX12_tells_41 : decode cX12_tells 41 = .ok (.iadd, 1) := by decide +kernel
theorem dX12_tells_42 : decode cX12_tells 42 = .ok (.iaload, 1) := by decide +kernel
theorem dX12_tells_43 : decode cX12_tells 43 = .ok (.iadd, 1) := by decide +kernel
theorem dX12_tells_44 : decode cX12_tells 44 = .ok (.ireturn, 1) := by decide +kernel
theorem dX12_tells_45 : decode cX12_tells 45 = .ok (.aload_n 0, 1) := by decide +kernel
theorem dX12_tells_46 : decode cX12_tells 46 = .ok (.getfield 41, 3) := by decide +kernel
theorem dX12_tells_49 : decode cX12_tells 49 = .ok (.iload_n 2, 1) := by decide +kernel
theorem dX12_tells_50 : decode cX12_tells 50 = .ok (.iaload, 1) := by decide +kernel
theorem dX12_tells_51 : decode cX12_tells 51 = .ok (.aload_n 0, 1) := by decide +kernel
theorem dX12_tells_52 : decode cX12_tells 52 = .ok (.getfield 41, 3) := by decide +kernel
theorem dX12_tells_55 : decode cX12_tells 55 = .ok (.bipush 6, 2) := by decide +kernel
theorem dX12_tells_57 : decode cX12_tells 57 = .ok (.iload_n 3, 1) := by decide +kernel
theorem dX12_tells_58 : decode cX12_tells 58 = .ok (.iadd, 1) := by decide +kernel
theorem dX12_tells_59 : decode cX12_tells 59 = .ok (.iaload, 1) := by decide +kernel
theorem dX12_tells_60 : decode cX12_tells 60 = .ok (.invokestatic 280, 3) := by decide +kernel
theorem dX12_tells_63 : decode cX12_tells 63 = .ok (.ireturn, 1) := by decide +kernel
theorem dX12_tells_64 : decode cX12_tells 64 = .ok (.aload_n 0, 1) := by decide +kernel
theorem dX12_tells_65 : decode cX12_tells 65 = .ok (.getfield 47, 3) := by decide +kernel
theorem dX12_tells_68 : decode cX12_tells 68 = .ok (.iload_n 2, 1) := by decide +kernel
theorem dX12_tells_69 : decode cX12_tells 69 = .ok (.iaload, 1) := by decide +kernel
theorem dX12_tells_70 : decode cX12_tells 70 = .ok (.aload_n 0, 1) := by decide +kernel
theorem dX12_tells_71 : decode cX12_tells 71 = .ok (.getfield 47, 3) := by decide +kernel
theorem dX12_tells_74 : decode cX12_tells 74 = .ok (.bipush 6, 2) := by decide +kernel
theorem dX12_tells_76 : decode cX12_tells 76 = .ok (.iload_n 3, 1) := by decide +kernel
theorem dX12_tells_77 : decode cX12_tells 77 = .ok (.iadd, 1) := by decide +kernel
theorem dX12_tells_78 : decode cX12_tells 78 = .ok (.iaload, 1) := by decide +kernel
theorem dX12_tells_79 : decode cX12_tells 79 = .ok (.iadd, 1) := by decide +kernel
theorem dX12_tells_80 : decode cX12_tells 80 = .ok (.ireturn, 1) := by decide +kernel
theorem dX12_tells_81 : decode cX12_tells 81 = .ok (.aload_n 0, 1) := by decide +kernel
theorem dX12_tells_82 : decode cX12_tells 82 = .ok (.getfield 50, 3) := by decide +kernel
theorem dX12_tells_85 : decode cX12_tells 85 = .ok (.iload_n 2, 1) := by decide +kernel
theorem dX12_tells_86 : decode cX12_tells 86 = .ok (.iaload, 1) := by decide +kernel
theorem dX12_tells_87 : decode cX12_tells 87 = .ok (.aload_n 0, 1) := by decide +kernel
theorem dX12_tells_88 : decode cX12_tells 88 = .ok (.getfield 50, 3) := by decide +kernel
theorem dX12_tells_91 : decode cX12_tells 91 = .ok (.bipush 6, 2) := by decide +kernel
theorem dX12_tells_93 : decode cX12_tells 93 = .ok (.iload_n 3, 1) := by decide +kernel
theorem dX12_tells_94 : decode cX12_tells 94 = .ok (.iadd, 1) := by decide +kernel
theorem dX12_tells_95 : decode cX12_tells 95 = .ok (.iaload, 1) := by decide +kernel
theorem dX12_tells_96 : decode cX12_tells 96 = .ok (.iadd, 1) := by decide +kernel
theorem dX12_tells_97 : decode cX12_tells 97 = .ok (.ireturn, 1) := by decide +kernel
theorem dX12_findCouples_0 : decode cX12_findCouples 0 = .ok (.aload_n 0, 1) := by decide +kernel
theorem dX12_findCouples_1 : decode cX12_findCouples 1 = .ok (.iconst 0, 1) := by decide +kernel
theorem dX12_findCouples_2 : decode cX12_findCouples 2 = .ok (.putfield 514, 3) := by decide +kernel
theorem dX12_findCouples_5 : decode cX12_findCouples 5 = .ok (.iconst 0, 1) := by decide +kernel
theorem dX12_findCouples_6 : decode cX12_findCouples 6 = .ok (.istore_n 1, 1) := by decide +kernel
theorem dX12_findCouples_7 : decode cX12_findCouples 7 = .ok (.iload_n 1, 1) := by decide +kernel
theorem dX12_findCouples_8 : decode cX12_findCouples 8 = .ok (.bipush 36, 2) := by decide +kernel
theorem dX12_findCouples_10 : decode cX12_findCouples 10 = .ok (.if_icmp .ge 137, 3) := by decide +kernel
theorem dX12_findCouples_13 : decode cX12_findCouples 13 = .ok (.iload_n 1, 1) := by decide +kernel
theorem dX12_findCouples_14 : decode cX12_findCouples 14 = .ok (.bipush 6, 2) := by decide +kernel
theorem dX12_findCouples_16 : decode cX12_findCouples 16 = .ok (.idiv, 1) := by decide +kernel
theorem dX12_findCouples_17 : decode cX12_findCouples 17 = .ok (.aload_n 0, 1) := by decide +kernel
theorem dX12_findCouples_18 : decode cX12_findCouples 18 = .ok (.getfield 271, 3) := by decide +kernel
theorem dX12_findCouples_21 : decode cX12_findCouples 21 = .ok (.if_icmp .ge 18, 3) := by decide +kernel
theorem dX12_findCouples_24 : decode cX12_findCouples 24 = .ok (.iload_n 1, 1) := by decide +kernel
theorem dX12_findCouples_25 : decode cX12_findCouples 25 = .ok (.bipush 6, 2) := by decide +kernel
theorem dX12_findCouples_27 : decode cX12_findCouples 27 = .ok (.irem, 1) := by decide +kernel
theorem dX12_findCouples_28 : decode cX12_findCouples 28 = .ok (.aload_n 0, 1) := by decide +kernel
theorem dX12_findCouples_29 : decode cX12_findCouples 29 = .ok (.getfield 274, 3) := by decide +kernel
theorem dX12_findCouples_32 : decode cX12_findCouples 32 = .ok (.if_icmp .ge 7, 3) := by decide +kernel
theorem dX12_findCouples_35 : decode cX12_findCouples 35 = .ok (.iconst 1, 1) := by decide +kernel
theorem dX12_findCouples_36 : decode cX12_findCouples 36 = .ok (.goto 4, 3) := by decide +kernel
theorem dX12_findCouples_39 : decode cX12_findCouples 39 = .ok (.iconst 0, 1) := by decide +kernel
theorem dX12_findCouples_40 : decode cX12_findCouples 40 = .ok (.istore_n 2, 1) := by decide +kernel
theorem dX12_findCouples_41 : decode cX12_findCouples 41 = .ok (.iconst 0, 1) := by decide +kernel
theorem dX12_findCouples_42 : decode cX12_findCouples 42 = .ok (.istore_n 3, 1) := by decide +kernel
theorem dX12_findCouples_43 : decode cX12_findCouples 43 = .ok (.iload_n 3, 1) := by decide +kernel
theorem dX12_findCouples_44 : decode cX12_findCouples 44 = .ok (.aload_n 0, 1) := by decide +kernel
theorem dX12_findCouples_45 : decode cX12_findCouples 45 = .ok (.invokevirtual 508, 3) := by decide +kernel
theorem dX12_findCouples_48 : decode cX12_findCouples 48 = .ok (.if_icmp .ge 69, 3) := by decide +kernel
theorem dX12_findCouples_51 : decode cX12_findCouples 51 = .ok (.iload_n 2, 1) := by decide +kernel
theorem dX12_findCouples_52 : decode cX12_findCouples 52 = .ok (.ifCond .eq 65, 3) := by decide +kernel
theorem dX12_findCouples_55 : decode cX12_findCouples 55 = .ok (.aload_n 0, 1) := by decide +kernel
theorem dX12_findCouples_56 : decode cX12_findCouples 56 = .ok (.aload_n 0, 1) := by decide +kernel
theorem dX12_findCouples_57 : decode cX12_findCouples 57 = .ok (.iload_n 3, 1) := by decide +kernel
theorem dX12_findCouples_58 : decode cX12_findCouples 58 = .ok (.iconst 0, 1) := by decide +kernel
theorem dX12_findCouples_59 : decode cX12_findCouples 59 = .ok (.invokevirtual 511, 3) := by decide +kernel
theorem dX12_findCouples_62 : decode cX12_findCouples 62 = .ok (.iload_n 1, 1) := by decide +kernel
theorem dX12_findCouples_63 : decode cX12_findCouples 63 = .ok (.bipush 6, 2) := by decide +kernel
theorem dX12_findCouples_65 : decode cX12_findCouples 65 = .ok (.idiv, 1) := by decide +kernel
theorem dX12_findCouples_66 : decode cX12_findCouples 66 = .ok (.iload_n 1, 1) := by decide +kernel
theorem dX12_findCouples_67 : decode cX12_findCouples 67 = .ok (.bipush 6, 2) := by decide +kernel
theorem dX12_findCouples_69 : decode cX12_findCouples 69 = .ok (.irem, 1) := by decide +kernel
theorem dX12_findCouples_70 : decode cX12_findCouples 70 = .ok (.invokevirtual 517, 3) := by decide +kernel
theorem dX12_findCouples_73 : decode cX12_findCouples 73 = .ok (.aload_n 0, 1) := by decide +kernel
theorem dX12_findCouples_74 : decode cX12_findCouples 74 = .ok (.iload_n 3, 1) := by decide +kernel
theorem dX12_findCouples_75 : decode cX12_findCouples 75 = .ok (.iconst 1, 1) := by decide +kernel
theorem dX12_findCouples_76 : decode cX12_findCouples 76 = .ok (.invokevirtual 511, 3) := by decide +kernel
theorem dX12_findCouples_79 : decode cX12_findCouples 79 = .ok (.if_icmp .ne 7, 3) := by decide +kernel
theorem dX12_findCouples_82 : decode cX12_findCouples 82 = .ok (.iconst 1, 1) := by decide +kernel
theorem dX12_findCouples_83 : decode cX12_findCouples 83 = .ok (.goto 4, 3) := by decide +kernel
theorem dX12_findCouples_86 : decode cX12_findCouples 86 = .ok (.iconst 0, 1) := by decide +kernel
theorem dX12_findCouples_87 : decode cX12_findCouples 87 = .ok (.aload_n 0, 1) := by decide +kernel
theorem dX12_findCouples_88 : decode cX12_findCouples 88 = .ok (.iload_n 3, 1) := by decide +kernel
theorem dX12_findCouples_89 : decode cX12_findCouples 89 = .ok (.iconst 2, 1) := by decide +kernel
theorem dX12_findCouples_90 : decode cX12_findCouples 90 = .ok (.invokevirtual 511, 3) := by decide +kernel
theorem dX12_findCouples_93 : decode cX12_findCouples 93 = .ok (.iconst 1, 1) := by decide +kernel
theorem dX12_findCouples_94 : decode cX12_findCouples 94 = .ok (.if_icmp .ne 7, 3) := by decide +kernel
theorem dX12_findCouples_97 : decode cX12_findCouples 97 = .ok (.iconst 1, 1) := by decide +kernel
theorem dX12_findCouples_98 : decode cX12_findCouples 98 = .ok (.goto 4, 3) := by decide +kernel
theorem dX12_findCouples_101 : decode cX12_findCouples 101 = .ok (.iconst 0, 1) := by decide +kernel
theorem dX12_findCouples_102 : decode cX12_findCouples 102 = .ok (.if_icmp .ne 7, 3) := by decide +kernel
theorem dX12_findCouples_105 : decode cX12_findCouples 105 = .ok (.iconst 1, 1) := by decide +kernel
theorem dX12_findCouples_106 : decode cX12_findCouples 106 = .ok (.goto 4, 3) := by decide +kernel
theorem dX12_findCouples_109 : decode cX12_findCouples 109 = .ok (.iconst 0, 1) := by decide +kernel
theorem dX12_findCouples_110 : decode cX12_findCouples 110 = .ok (.istore_n 2, 1) := by decide +kernel
theorem dX12_findCouples_111 : decode cX12_findCouples 111 = .ok (.iinc 3 1, 3) := by decide +kernel
theorem dX12_findCouples_114 : decode cX12_findCouples 114 = .ok (.goto (-71), 3) := by decide +kernel
theorem dX12_findCouples_117 : decode cX12_findCouples 117 = .ok (.iload_n 2, 1) := by decide +kernel
theorem dX12_findCouples_118 : decode cX12_findCouples 118 = .ok (.ifCond .eq 23, 3) := by decide +kernel
theorem dX12_findCouples_121 : decode cX12_findCouples 121 = .ok (.aload_n 0, 1) := by decide +kernel
theorem dX12_findCouples_122 : decode cX12_findCouples 122 = .ok (.getfield 91, 3) := by decide +kernel
theorem dX12_findCouples_125 : decode cX12_findCouples 125 = .ok (.aload_n 0, 1) := by decide +kernel
theorem dX12_findCouples_126 : decode cX12_findCouples 126 = .ok (.getfield 514, 3) := by decide +kernel
theorem dX12_findCouples_129 : decode cX12_findCouples 129 = .ok (.iload_n 1, 1) := by decide +kernel
theorem dX12_findCouples_130 : decode cX12_findCouples 130 = .ok (.iastore, 1) := by decide +kernel
theorem dX12_findCouples_131 : decode cX12_findCouples 131 = .ok (.aload_n 0, 1) := by decide +kernel
theorem dX12_findCouples_132 : decode cX12_findCouples 132 = .ok (.dup, 1) := by decide +kernel
theorem dX12_findCouples_133 : decode cX12_findCouples 133 = .ok (.getfield 514, 3) := by decide +kernel
theorem dX12_findCouples_136 : decode cX12_findCouples 136 = .ok (.iconst 1, 1) := by decide +kernel
theorem dX12_findCouples_137 : decode cX12_findCouples 137 = .ok (.iadd, 1) := by decide +kernel
theorem dX12_findCouples_138 : decode cX12_findCouples 138 = .ok (.putfield 514, 3) := by decide +kernel
theorem dX12_findCouples_141 : decode cX12_findCouples 141 = .ok (.iinc 1 1, 3) := by decide +kernel
theorem dX12_findCouples_144 : decode cX12_findCouples 144 = .ok (.goto (-137), 3) := by decide +kernel
theorem dX12_findCouples_147 : decode cX12_findCouples 147 = .ok (.return_, 1) := by decide +kernel
theorem dX12_alike_0 : decode cX12_alike 0 = .ok (.iconst 0, 1) := by decide +kernel
theorem dX12_alike_1 : decode cX12_alike 1 = .ok (.istore_n 2, 1) := by decide +kernel
theorem dX12_alike_2 : decode cX12_alike 2 = .ok (.iconst 0, 1) := by decide +kernel
theorem dX12_alike_3 : decode cX12_alike 3 = .ok (.istore_n 3, 1) := by decide +kernel
theorem dX12_alike_4 : decode cX12_alike 4 = .ok (.iload_n 3, 1) := by decide +kernel
theorem dX12_alike_5 : decode cX12_alike 5 = .ok (.aload_n 0, 1) := by decide +kernel
theorem dX12_alike_6 : decode cX12_alike 6 = .ok (.getfield 514, 3) := by decide +kernel
theorem dX12_alike_9 : decode cX12_alike 9 = .ok (.if_icmp .ge 98, 3) := by decide +kernel
theorem dX12_alike_12 : decode cX12_alike 12 = .ok (.iconst 0, 1) := by decide +kernel
theorem dX12_alike_13 : decode cX12_alike 13 = .ok (.istore 4, 2) := by decide +kernel
theorem dX12_alike_15 : decode cX12_alike 15 = .ok (.iconst 0, 1) := by decide +kernel
theorem dX12_alike_16 : decode cX12_alike 16 = .ok (.istore 5, 2) := by decide +kernel
theorem dX12_alike_18 : decode cX12_alike 18 = .ok (.iload 5, 2) := by decide +kernel
theorem dX12_alike_20 : decode cX12_alike 20 = .ok (.aload_n 0, 1) := by decide +kernel
theorem dX12_alike_21 : decode cX12_alike 21 = .ok (.getfield 514, 3) := by decide +kernel
theorem dX12_alike_24 : decode cX12_alike 24 = .ok (.if_icmp .ge 70, 3) := by decide +kernel
theorem dX12_alike_27 : decode cX12_alike 27 = .ok (.iload 4, 2) := by decide +kernel
theorem dX12_alike_29 : decode cX12_alike 29 = .ok (.aload_n 0, 1) := by decide +kernel
theorem dX12_alike_30 : decode cX12_alike 30 = .ok (.iload_n 1, 1) := by decide +kernel
theorem dX12_alike_31 : decode cX12_alike 31 = .ok (.aload_n 0, 1) := by decide +kernel
theorem dX12_alike_32 : decode cX12_alike 32 = .ok (.getfield 91, 3) := by decide +kernel
theorem dX12_alike_35 : decode cX12_alike 35 = .ok (.iload_n 3, 1) := by decide +kernel
theorem dX12_alike_36 : decode cX12_alike 36 = .ok (.iaload, 1) := by decide +kernel
theorem dX12_alike_37 : decode cX12_alike 37 = .ok (.bipush 6, 2) := by decide +kernel
theorem dX12_alike_39 : decode cX12_alike 39 = .ok (.idiv, 1) := by decide +kernel
theorem dX12_alike_40 : decode cX12_alike 40 = .ok (.aload_n 0, 1) := by decide +kernel
theorem dX12_alike_41 : decode cX12_alike 41 = .ok (.getfield 91, 3) := by decide +kernel
theorem dX12_alike_44 : decode cX12_alike 44 = .ok (.iload_n 3, 1) := by decide +kernel
theorem dX12_alike_45 : decode cX12_alike 45 = .ok (.iaload, 1) := by decide +kernel
theorem dX12_alike_46 : decode cX12_alike 46 = .ok (.bipush 6, 2) := by decide +kernel
theorem dX12_alike_48 : decode cX12_alike 48 = .ok (.irem, 1) := by decide +kernel
theorem dX12_alike_49 : decode cX12_alike 49 = .ok (.invokevirtual 517, 3) := by decide +kernel
theorem dX12_alike_52 : decode cX12_alike 52 = .ok (.aload_n 0, 1) := by decide +kernel
theorem dX12_alike_53 : decode cX12_alike 53 = .ok (.iload_n 1, 1) := by decide +kernel
theorem dX12_alike_54 : decode cX12_alike 54 = .ok (.aload_n 0, 1) := by decide +kernel
theorem dX12_alike_55 : decode cX12_alike 55 = .ok (.getfield 91, 3) := by decide +kernel
theorem dX12_alike_58 : decode cX12_alike 58 = .ok (.iload 5, 2) := by decide +kernel
theorem dX12_alike_60 : decode cX12_alike 60 = .ok (.iaload, 1) := by decide +kernel
theorem dX12_alike_61 : decode cX12_alike 61 = .ok (.bipush 6, 2) := by decide +kernel
theorem dX12_alike_63 : decode cX12_alike 63 = .ok (.idiv, 1) := by decide +kernel
theorem dX12_alike_64 : decode cX12_alike 64 = .ok (.aload_n 0, 1) := by decide +kernel
theorem dX12_alike_65 : decode cX12_alike 65 = .ok (.getfield 91, 3) := by decide +kernel
theorem dX12_alike_68 : decode cX12_alike 68 = .ok (.iload 5, 2) := by decide +kernel
theorem dX12_alike_70 : decode cX12_alike 70 = .ok (.iaload, 1) := by decide +kernel
theorem dX12_alike_71 : decode cX12_alike 71 = .ok (.bipush 6, 2) := by decide +kernel
theorem dX12_alike_73 : decode cX12_alike 73 = .ok (.irem, 1) := by decide +kernel
theorem dX12_alike_74 : decode cX12_alike 74 = .ok (.invokevirtual 517, 3) := by decide +kernel
theorem dX12_alike_77 : decode cX12_alike 77 = .ok (.if_icmp .ne 7, 3) := by decide +kernel
theorem dX12_alike_80 : decode cX12_alike 80 = .ok (.iconst 1, 1) := by decide +kernel
theorem dX12_alike_81 : decode cX12_alike 81 = .ok (.goto 4, 3) := by decide +kernel
theorem dX12_alike_84 : decode cX12_alike 84 = .ok (.iconst 0, 1) := by decide +kernel
theorem dX12_alike_85 : decode cX12_alike 85 = .ok (.iadd, 1) := by decide +kernel
theorem dX12_alike_86 : decode cX12_alike 86 = .ok (.istore 4, 2) := by decide +kernel
theorem dX12_alike_88 : decode cX12_alike 88 = .ok (.iinc 5 1, 3) := by decide +kernel
theorem dX12_alike_91 : decode cX12_alike 91 = .ok (.goto (-73), 3) := by decide +kernel
theorem dX12_alike_94 : decode cX12_alike 94 = .ok (.iload_n 2, 1) := by decide +kernel
theorem dX12_alike_95 : decode cX12_alike 95 = .ok (.iload 4, 2) := by decide +kernel
theorem dX12_alike_97 : decode cX12_alike 97 = .ok (.invokestatic 176, 3) := by decide +kernel
theorem dX12_alike_100 : decode cX12_alike 100 = .ok (.istore_n 2, 1) := by decide +kernel
theorem dX12_alike_101 : decode cX12_alike 101 = .ok (.iinc 3 1, 3) := by decide +kernel
theorem dX12_alike_104 : decode cX12_alike 104 = .ok (.goto (-100), 3) := by decide +kernel
theorem dX12_alike_107 : decode cX12_alike 107 = .ok (.iload_n 2, 1) := by decide +kernel
theorem dX12_alike_108 : decode cX12_alike 108 = .ok (.ireturn, 1) := by decide +kernel
theorem dX12_sureOf_0 : decode cX12_sureOf 0 = .ok (.aload_n 0, 1) := by decide +kernel
theorem dX12_sureOf_1 : decode cX12_sureOf 1 = .ok (.getfield 514, 3) := by decide +kernel
theorem dX12_sureOf_4 : decode cX12_sureOf 4 = .ok (.ifCond .ne 7, 3) := by decide +kernel
theorem dX12_sureOf_7 : decode cX12_sureOf 7 = .ok (.iconst (-1), 1) := by decide +kernel
theorem dX12_sureOf_8 : decode cX12_sureOf 8 = .ok (.goto 28, 3) := by decide +kernel
theorem dX12_sureOf_11 : decode cX12_sureOf 11 = .ok (.iload_n 1, 1) := by decide +kernel
theorem dX12_sureOf_12 : decode cX12_sureOf 12 = .ok (.ifCond .eq 15, 3) := by decide +kernel
theorem dX12_sureOf_15 : decode cX12_sureOf 15 = .ok (.aload_n 0, 1) := by decide +kernel
theorem dX12_sureOf_16 : decode cX12_sureOf 16 = .ok (.getfield 91, 3) := by decide +kernel
theorem dX12_sureOf_19 : decode cX12_sureOf 19 = .ok (.iconst 0, 1) := by decide +kernel
theorem dX12_sureOf_20 : decode cX12_sureOf 20 = .ok (.iaload, 1) := by decide +kernel
theorem dX12_sureOf_21 : decode cX12_sureOf 21 = .ok (.bipush 6, 2) := by decide +kernel
theorem dX12_sureOf_23 : decode cX12_sureOf 23 = .ok (.irem, 1) := by decide +kernel
theorem dX12_sureOf_24 : decode cX12_sureOf 24 = .ok (.goto 12, 3) := by decide +kernel
theorem dX12_sureOf_27 : decode cX12_sureOf 27 = .ok (.aload_n 0, 1) := by decide +kernel
theorem dX12_sureOf_28 : decode cX12_sureOf 28 = .ok (.getfield 91, 3) := by decide +kernel
theorem dX12_sureOf_31 : decode cX12_sureOf 31 = .ok (.iconst 0, 1) := by decide +kernel
theorem dX12_sureOf_32 : decode cX12_sureOf 32 = .ok (.iaload, 1) := by decide +kernel
theorem dX12_sureOf_33 : decode cX12_sureOf 33 = .ok (.bipush 6, 2) := by decide +kernel
theorem dX12_sureOf_35 : decode cX12_sureOf 35 = .ok (.idiv, 1) := by decide +kernel
theorem dX12_sureOf_36 : decode cX12_sureOf 36 = .ok (.istore_n 2, 1) := by decide +kernel
theorem dX12_sureOf_37 : decode cX12_sureOf 37 = .ok (.iconst 1, 1) := by decide +kernel
theorem dX12_sureOf_38 : decode cX12_sureOf 38 = .ok (.istore_n 3, 1) := by decide +kernel
theorem dX12_sureOf_39 : decode cX12_sureOf 39 = .ok (.iload_n 3, 1) := by decide +kernel
theorem dX12_sureOf_40 : decode cX12_sureOf 40 = .ok (.aload_n 0, 1) := by decide +kernel
theorem dX12_sureOf_41 : decode cX12_sureOf 41 = .ok (.getfield 514, 3) := by decide +kernel
theorem dX12_sureOf_44 : decode cX12_sureOf 44 = .ok (.if_icmp .ge 44, 3) := by decide +kernel
theorem dX12_sureOf_47 : decode cX12_sureOf 47 = .ok (.iload_n 1, 1) := by decide +kernel
theorem dX12_sureOf_48 : decode cX12_sureOf 48 = .ok (.ifCond .eq 15, 3) := by decide +kernel
theorem dX12_sureOf_51 : decode cX12_sureOf 51 = .ok (.aload_n 0, 1) := by decide +kernel
theorem dX12_sureOf_52 : decode cX12_sureOf 52 = .ok (.getfield 91, 3) := by decide +kernel
theorem dX12_sureOf_55 : decode cX12_sureOf 55 = .ok (.iload_n 3, 1) := by decide +kernel
theorem dX12_sureOf_56 : decode cX12_sureOf 56 = .ok (.iaload, 1) := by decide +kernel
theorem dX12_sureOf_57 : decode cX12_sureOf 57 = .ok (.bipush 6, 2) := by decide +kernel
theorem dX12_sureOf_59 : decode cX12_sureOf 59 = .ok (.irem, 1) := by decide +kernel
theorem dX12_sureOf_60 : decode cX12_sureOf 60 = .ok (.goto 12, 3) := by decide +kernel
theorem dX12_sureOf_63 : decode cX12_sureOf 63 = .ok (.aload_n 0, 1) := by decide +kernel
theorem dX12_sureOf_64 : decode cX12_sureOf 64 = .ok (.getfield 91, 3) := by decide +kernel
theorem dX12_sureOf_67 : decode cX12_sureOf 67 = .ok (.iload_n 3, 1) := by decide +kernel
theorem dX12_sureOf_68 : decode cX12_sureOf 68 = .ok (.iaload, 1) := by decide +kernel
theorem dX12_sureOf_69 : decode cX12_sureOf 69 = .ok (.bipush 6, 2) := by decide +kernel
theorem dX12_sureOf_71 : decode cX12_sureOf 71 = .ok (.idiv, 1) := by decide +kernel
theorem dX12_sureOf_72 : decode cX12_sureOf 72 = .ok (.iload_n 2, 1) := by decide +kernel
theorem dX12_sureOf_73 : decode cX12_sureOf 73 = .ok (.if_icmp .ne 7, 3) := by decide +kernel
theorem dX12_sureOf_76 : decode cX12_sureOf 76 = .ok (.iload_n 2, 1) := by decide +kernel
theorem dX12_sureOf_77 : decode cX12_sureOf 77 = .ok (.goto 4, 3) := by decide +kernel
theorem dX12_sureOf_80 : decode cX12_sureOf 80 = .ok (.iconst (-1), 1) := by decide +kernel
theorem dX12_sureOf_81 : decode cX12_sureOf 81 = .ok (.istore_n 2, 1) := by decide +kernel
theorem dX12_sureOf_82 : decode cX12_sureOf 82 = .ok (.iinc 3 1, 3) := by decide +kernel
theorem dX12_sureOf_85 : decode cX12_sureOf 85 = .ok (.goto (-46), 3) := by decide +kernel
theorem dX12_sureOf_88 : decode cX12_sureOf 88 = .ok (.iload_n 2, 1) := by decide +kernel
theorem dX12_sureOf_89 : decode cX12_sureOf 89 = .ok (.ireturn, 1) := by decide +kernel
theorem tf_12_514 : tFld TB0 12 514 = some (12, 56) := rfl
set_option maxRecDepth 20000 in
theorem tm_12_517 : tMet TB0 12 517 = some (0, M_X12_tells) := rfl
/-- the couple at a place -/
def nthZ (g K : Int → Int) (k : Int) : Int := fsN (fun e => suP g K e ∧ suC g K e = k) 36
theorem nth_x (g K : Int → Int) (N : Nat) : ∀ k, 0 ≤ k → k < suC g K (N : Int) → ∃ e : Int, (0 ≤ e ∧ e < N) ∧ suP g K e ∧ suC g K e = k := by
  induction N with
  | zero => intro k a c; exact absurd c (by show ¬ k < 0; omega)
  | succ N ih =>
    intro k a c
    rw [show ((N + 1 : Nat) : Int) = (N : Int) + 1 by omega] at c
    by_cases p : suP g K (N : Int)
    · rw [suC_1 (by omega) p] at c
      by_cases q : k = suC g K (N : Int)
      · exact ⟨N, by omega, p, q.symm⟩
      · obtain ⟨e, h1, h2⟩ := ih k a (by omega)
        exact ⟨e, by omega, h2⟩
    · rw [suC_n (by omega) p] at c
      obtain ⟨e, h1, h2⟩ := ih k a c
      exact ⟨e, by omega, h2⟩
theorem nth_p (g K : Int → Int) {k : Int} (h0 : 0 ≤ k) (h1 : k < suC g K 36) : (0 ≤ nthZ g K k ∧ nthZ g K k < 36) ∧ suP g K (nthZ g K k) ∧ suC g K (nthZ g K k) = k := by
  have f := fsN_f (fun e => suP g K e ∧ suC g K e = k) 36
  obtain ⟨e, e1, e2⟩ := nth_x g K 36 k h0 h1
  rcases f with ⟨f1, f2⟩ | ⟨f1, f2, f3⟩
  · exact absurd e2 (f2 e e1.1 e1.2)
  · exact ⟨f1, f2⟩
theorem nth_e {g K : Int → Int} {e : Int} (h0 : 0 ≤ e) (h1 : e < 36) (p : suP g K e) : nthZ g K (suC g K e) = e := by
  have q := nth_p g K (suC_b g K h0).1 (suC_lt h0 p h1)
  exact atR_u (k := suC g K e) (Or.inr ⟨q.1, q.2⟩) (Or.inr ⟨⟨h0, h1⟩, p, rfl⟩)
theorem lst_sum {g K : Int → Int} (F : Int → Int) (N : Nat) (h : N ≤ 36) : sumZ (fun i => F (nthZ g K i)) (suC g K (N : Int)).toNat = sumZ (fun e => if suP g K e then F e else 0) N := by
  induction N with
  | zero => rfl
  | succ N ih =>
    have ih := ih (by omega)
    rw [show ((N + 1 : Nat) : Int) = (N : Int) + 1 by omega]
    have e : sumZ (fun e => if suP g K e then F e else 0) (N + 1) = sumZ (fun e => if suP g K e then F e else 0) N + (if suP g K (N : Int) then F (N : Int) else 0) := rfl
    rw [e, ← ih]
    by_cases p : suP g K (N : Int)
    · rw [suC_1 (by omega) p, sumZ_s (suC_b g K (by omega)).1, if_pos p, nth_e (by omega) (by omega) p]
    · rw [suC_n (by omega) p, if_neg p, Int.add_zero]
theorem lst_max {g K : Int → Int} (F : Int → Int) (N : Nat) (h : N ≤ 36) : mxQ (fun _ => True) (fun i => F (nthZ g K i)) (suC g K (N : Int)).toNat = mxQ (suP g K) F N := by
  induction N with
  | zero => rfl
  | succ N ih =>
    have ih := ih (by omega)
    rw [show ((N + 1 : Nat) : Int) = (N : Int) + 1 by omega]
    have e : mxQ (suP g K) F (N + 1) = if suP g K (N : Int) then max (mxQ (suP g K) F N) (F (N : Int)) else mxQ (suP g K) F N := rfl
    rw [e, ← ih]
    by_cases p : suP g K (N : Int)
    · rw [suC_1 (by omega) p, mxQ_1 (suC_b g K (by omega)).1 trivial, if_pos p, nth_e (by omega) (by omega) p]
    · rw [suC_n (by omega) p, if_neg p]
def rCo (h : mH) (m : Nat) (g K : Int → Int) : Prop := rI h m 56 = suC g K 36 ∧ ∀ k : Int, 0 ≤ k → k < 36 → suP g K k → rI h (m + 27) (suC g K k) = k
theorem rCo_c {S : Nat → Nat → Prop} {h h1 : mH} {m : Nat} {g K : Int → Int} (f : frm S h h1) (n : ∀ a k, (a = m ∧ k = 56) ∨ a = m + 27 → ¬ S a k) (H : rCo h m g K) : rCo h1 m g K := ⟨(frm_r f (n _ _ (by omega))).trans H.1, fun k a c p => (frm_r f (n _ _ (by omega))).trans (H.2 k a c p)⟩
theorem rCo_n {h : mH} {m : Nat} {g K : Int → Int} (H : rCo h m g K) {k : Int} (h0 : 0 ≤ k) (h1 : k < suC g K 36) : rI h (m + 27) k = nthZ g K k := by
  have q := nth_p g K h0 h1
  have := H.2 _ q.1.1 q.1.2 q.2.1
  rw [q.2.2] at this
  exact this
def slI (g K F : Int → Int) (k s : Int) : Prop := (suC g K 36 = 0 ∧ s = -1) ∨ (0 < suC g K 36 ∧ (1 ≤ k ∧ k ≤ suC g K 36) ∧ ((0 ≤ s ∧ ∀ j, 0 ≤ j → j < k → F (nthZ g K j) = s) ∨ (s = -1 ∧ ∃ j j', (0 ≤ j ∧ j < k) ∧ (0 ≤ j' ∧ j' < k) ∧ F (nthZ g K j) ≠ F (nthZ g K j'))))
theorem slI_1 {g K F : Int → Int} (h : 0 < suC g K 36) (f0 : 0 ≤ F (nthZ g K 0)) : slI g K F 1 (F (nthZ g K 0)) := Or.inr ⟨h, by omega, Or.inl ⟨f0, fun j a c => by rw [show j = 0 by omega]⟩⟩
theorem slI_y {g K F : Int → Int} {k s : Int} (H : slI g K F k s) (h : k < suC g K 36) (q : F (nthZ g K k) = s) : slI g K F (k + 1) s := by
  rcases H with ⟨h1, h2⟩ | ⟨h1, h2, ⟨h3, h4⟩ | ⟨h3, j, j', h4, h5, h6⟩⟩
  · exact Or.inl ⟨h1, h2⟩
  · refine Or.inr ⟨h1, by omega, Or.inl ⟨h3, fun j a c => ?_⟩⟩
    by_cases z : j = k
    · rw [z]; exact q
    · exact h4 j a (by omega)
  · exact Or.inr ⟨h1, by omega, Or.inr ⟨h3, j, j', by omega, by omega, h6⟩⟩
theorem slI_n {g K F : Int → Int} {k s : Int} (H : slI g K F k s) (h : k < suC g K 36) (q : F (nthZ g K k) ≠ s) : slI g K F (k + 1) (-1) := by
  rcases H with ⟨h1, h2⟩ | ⟨h1, h2, ⟨h3, h4⟩ | ⟨h3, j, j', h4, h5, h6⟩⟩
  · exact Or.inl ⟨h1, rfl⟩
  · refine Or.inr ⟨h1, by omega, Or.inr ⟨rfl, 0, k, by omega, by omega, ?_⟩⟩
    rw [h4 0 (by omega) (by omega)]
    exact fun z => q z.symm
  · exact Or.inr ⟨h1, by omega, Or.inr ⟨rfl, j, j', by omega, by omega, h6⟩⟩
theorem slI_b {g K F : Int → Int} {k s : Int} (H : slI g K F k s) : -1 ≤ s := by
  rcases H with ⟨h1, h2⟩ | ⟨h1, h2, ⟨h3, h4⟩ | ⟨h3, h4⟩⟩ <;> omega
theorem slI_f {g K F : Int → Int} {k s : Int} (H : slI g K F k s) (h : suC g K 36 ≤ k) : srR (suP g K) F 36 s := by
  have nx : ∀ e, 0 ≤ e → e < 36 → suP g K e → ∃ j, (0 ≤ j ∧ j < suC g K 36) ∧ nthZ g K j = e := fun e a c p => ⟨suC g K e, ⟨(suC_b g K a).1, suC_lt a p c⟩, nth_e a c p⟩
  rcases H with ⟨h1, h2⟩ | ⟨h1, h2, ⟨h3, h4⟩ | ⟨h3, j, j', h4, h5, h6⟩⟩
  · exact Or.inl (Or.inl ⟨h2, fun k a c => suC_z h1 a c⟩)
  · have q := nth_p g K (show (0 : Int) ≤ 0 by omega) h1
    refine Or.inl (Or.inr ⟨h3, ⟨_, q.1, q.2.1⟩, fun e a c p => ?_⟩)
    obtain ⟨j, j1, j2⟩ := nx e a c p
    rw [← j2]; exact h4 j j1.1 (by omega)
  · have q := nth_p g K h4.1 (by omega)
    have q' := nth_p g K h5.1 (by omega)
    exact Or.inr ⟨h3, _, _, q.1, q'.1, q.2.1, q'.2.1, h6⟩
set_option maxHeartbeats 400000 in
theorem zp_X12_tells {ad : mA} {dd : Nat} {h : mH} {Q : mQ} {m : Nat} {g : Int → Int} (hk : rk h m) (HB : rB h m g)  (s : Int) (s_r : -2147483648 ≤ s ∧ s < 2147483648) (d : Int) (d_r : -2147483648 ≤ d ∧ d < 2147483648) (u : Int) (u_r : -2147483648 ≤ u ∧ u < 2147483648) (p1 : 0 ≤ d ∧ d < nd g) (p2 : 0 ≤ u ∧ u < nu g) (p3 : 0 ≤ s ∧ s ≤ 3) (kq : Q (some (.int (zI (ms2 g s d u)))) h) : mCal TB0 ad (dd + 2) M_X12_tells [.ref m, .int (zI s), .int (zI d), .int (zI u)] h 0 0 Q := by
  refine ⟨Nat.le_of_ble_eq_true rfl, ?_⟩
  show mEv TB0 ad M_X12_tells (dd + 2) (0, 0) (mCal TB0 ad (dd + 1)) (fun v h' z => z.1 = 0 ∧ Q v h') 0 [some (.ref m), some (.int (zI s)), some (.int (zI d)), some (.int (zI u))] [] h (0, 0)
  have w1 := rB_n HB
  have w2 := rB_nd HB
  have w3 := rB_nu HB
  refine e_iload_n dX12_tells_0 rfl ?_
  by_cases c1 : s = 0
  · skip
    refine z_tableV (0) 28 dX12_tells_1 c1 (by decide) (by decide +kernel) ?_
    refine e_aload_n dX12_tells_28 rfl ?_
    refine e_get (.ref (m + 11)) dX12_tells_29 tf_12_41 (rk_s hk) (congrArg va_rf (rk_r11 hk)) ?_
    refine e_iload_n dX12_tells_32 rfl ?_
    refine z_ild (dl g d) dX12_tells_33 (rk_a11 hk) (by decide) (by omega) (by omega) (rB_dl HB (by omega) (by omega)) ?_
    have y2 := wB_d (rB_w HB) (show 0 ≤ d by omega) (by omega)
    refine e_aload_n dX12_tells_34 rfl ?_
    refine e_get (.ref (m + 11)) dX12_tells_35 tf_12_41 (rk_s hk) (congrArg va_rf (rk_r11 hk)) ?_
    refine z_bipush (6) dX12_tells_38 rfl ?_
    refine e_iload_n dX12_tells_40 rfl ?_
    refine z_iadd dX12_tells_41 ?_
    refine z_ild (ul g u) dX12_tells_42 (rk_a11 hk) (by decide) (by omega) (by omega) (rB_ul HB (by omega) (by omega)) ?_
    have y3 := wB_u (rB_w HB) (show 0 ≤ u by omega) (by omega)
    refine z_iadd dX12_tells_43 ?_
    refine z_iret dX12_tells_44 rfl ⟨rfl, ?_⟩
    refine z_q kq ?_
    first | exact ms2_0 (by omega) | exact ms2_1 (by omega) | exact ms2_2 (by omega) | exact ms2_3 (by omega)
  by_cases c4 : s = 1
  · skip
    refine z_tableV (1) 45 dX12_tells_1 c4 (by decide) (by decide +kernel) ?_
    refine e_aload_n dX12_tells_45 rfl ?_
    refine e_get (.ref (m + 11)) dX12_tells_46 tf_12_41 (rk_s hk) (congrArg va_rf (rk_r11 hk)) ?_
    refine e_iload_n dX12_tells_49 rfl ?_
    refine z_ild (dl g d) dX12_tells_50 (rk_a11 hk) (by decide) (by omega) (by omega) (rB_dl HB (by omega) (by omega)) ?_
    have y5 := wB_d (rB_w HB) (show 0 ≤ d by omega) (by omega)
    refine e_aload_n dX12_tells_51 rfl ?_
    refine e_get (.ref (m + 11)) dX12_tells_52 tf_12_41 (rk_s hk) (congrArg va_rf (rk_r11 hk)) ?_
    refine z_bipush (6) dX12_tells_55 rfl ?_
    refine e_iload_n dX12_tells_57 rfl ?_
    refine z_iadd dX12_tells_58 ?_
    refine z_ild (ul g u) dX12_tells_59 (rk_a11 hk) (by decide) (by omega) (by omega) (rB_ul HB (by omega) (by omega)) ?_
    have y6 := wB_u (rB_w HB) (show 0 ≤ u by omega) (by omega)
    refine e_callS [.int _, .int _] dX12_tells_60 tm_12_280 rfl (Nat.le_of_ble_eq_true rfl) (Nat.le_refl _) (Nat.le_refl _) rfl (zp_X12_apart (dl g d) ⟨by omega, by omega⟩ (ul g u) ⟨by omega, by omega⟩ (by omega) (by omega) ?_)
    have y7 := absI_s ((dl g d) - (ul g u))
    refine z_iret dX12_tells_63 rfl ⟨rfl, ?_⟩
    refine z_q kq ?_
    first | exact ms2_0 (by omega) | exact ms2_1 (by omega) | exact ms2_2 (by omega) | exact ms2_3 (by omega)
  by_cases c8 : s = 2
  · skip
    refine z_tableV (2) 64 dX12_tells_1 c8 (by decide) (by decide +kernel) ?_
    refine e_aload_n dX12_tells_64 rfl ?_
    refine e_get (.ref (m + 13)) dX12_tells_65 tf_12_47 (rk_s hk) (congrArg va_rf (rk_r13 hk)) ?_
    refine e_iload_n dX12_tells_68 rfl ?_
    refine z_ild (de g d) dX12_tells_69 (rk_a13 hk) (by decide) (by omega) (by omega) (rB_de HB (by omega) (by omega)) ?_
    have y9 := wB_d (rB_w HB) (show 0 ≤ d by omega) (by omega)
    refine e_aload_n dX12_tells_70 rfl ?_
    refine e_get (.ref (m + 13)) dX12_tells_71 tf_12_47 (rk_s hk) (congrArg va_rf (rk_r13 hk)) ?_
    refine z_bipush (6) dX12_tells_74 rfl ?_
    refine e_iload_n dX12_tells_76 rfl ?_
    refine z_iadd dX12_tells_77 ?_
    refine z_ild (ue g u) dX12_tells_78 (rk_a13 hk) (by decide) (by omega) (by omega) (rB_ue HB (by omega) (by omega)) ?_
    have y10 := wB_u (rB_w HB) (show 0 ≤ u by omega) (by omega)
    refine z_iadd dX12_tells_79 ?_
    refine z_iret dX12_tells_80 rfl ⟨rfl, ?_⟩
    refine z_q kq ?_
    first | exact ms2_0 (by omega) | exact ms2_1 (by omega) | exact ms2_2 (by omega) | exact ms2_3 (by omega)
  refine z_tableD 81 dX12_tells_1 ⟨by omega, by omega⟩ (by omega) rfl ?_
  refine e_aload_n dX12_tells_81 rfl ?_
  refine e_get (.ref (m + 14)) dX12_tells_82 tf_12_50 (rk_s hk) (congrArg va_rf (rk_r14 hk)) ?_
  refine e_iload_n dX12_tells_85 rfl ?_
  refine z_ild (dh g d) dX12_tells_86 (rk_a14 hk) (by decide) (by omega) (by omega) (rB_dh HB (by omega) (by omega)) ?_
  have y11 := wB_d (rB_w HB) (show 0 ≤ d by omega) (by omega)
  refine e_aload_n dX12_tells_87 rfl ?_
  refine e_get (.ref (m + 14)) dX12_tells_88 tf_12_50 (rk_s hk) (congrArg va_rf (rk_r14 hk)) ?_
  refine z_bipush (6) dX12_tells_91 rfl ?_
  refine e_iload_n dX12_tells_93 rfl ?_
  refine z_iadd dX12_tells_94 ?_
  refine z_ild (uh g u) dX12_tells_95 (rk_a14 hk) (by decide) (by omega) (by omega) (rB_uh HB (by omega) (by omega)) ?_
  have y12 := wB_u (rB_w HB) (show 0 ≤ u by omega) (by omega)
  refine z_iadd dX12_tells_96 ?_
  refine z_iret dX12_tells_97 rfl ⟨rfl, ?_⟩
  refine z_q kq ?_
  first | exact ms2_0 (by omega) | exact ms2_1 (by omega) | exact ms2_2 (by omega) | exact ms2_3 (by omega)
set_option maxHeartbeats 2000000 in
theorem zp_X12_findCouples {ad : mA} {dd : Nat} {h : mH} {Q : mQ} {m : Nat} {σ : Sg} {g : Int → Int} {y : Int} (hk : rk h m) (HR : refT h m 0 σ) (HB : rB h m g) (HY : rKt h m y)   (p2 : y < cn σ 2) (kq : ∀ h1, frm (fun a k => (a = m ∧ k = 56) ∨ a = m + 27) h h1 → (rCo h1 m g (sC σ y)) → Q none h1) : mCal TB0 ad (dd + 3) M_X12_findCouples [.ref m] h 0 0 Q := by
  refine ⟨Nat.le_of_ble_eq_true rfl, ?_⟩
  show mEv TB0 ad M_X12_findCouples (dd + 3) (0, 0) (mCal TB0 ad (dd + 2)) (fun v h' z => z.1 = 0 ∧ Q v h') 0 [some (.ref m), none, none, none] [] h (0, 0)
  have FR0 : frm (fun a k => (a = m ∧ k = 56) ∨ a = m + 27) h h := frm_0 h
  have w1 := wS_n (refT_w HR)
  have w1 := rB_n HB
  have w2 := rB_nd HB
  have w3 := rB_nu HB
  have wk : wfK (sC σ y) := (refT_w HR).2.2.2.2 y HY.2 p2
  have wk0 := wk.1
  have y0 := HY.2
  refine e_aload_n dX12_findCouples_0 rfl ?_
  refine z_iconst (0) dX12_findCouples_1 rfl ?_
  refine z_put dX12_findCouples_2 tf_12_514 (rk_s hk) rfl (Or.inl rfl) (fun h1 e2 => ?_)
  have f3 := frm_1 e2
  have k4 := rk_q (frm_s f3) hk
  have H5 := refT_c f3 (fun a k q1 q2 => by omega) HR
  have H6 := rB_c f3 (fun a k q => by omega) HB
  have H7 := rKt_c f3 (fun a k q1 q2 => by omega) HY
  have FR8 := frm_t FR0 (frm_m (S' := (fun a k => (a = m ∧ k = 56) ∨ a = m + 27)) f3 (fun a k q => by omega))
  refine z_iconst (0) dX12_findCouples_5 rfl ?_
  refine e_istore_n (L' := [_, _, _, _]) dX12_findCouples_6 (Nat.le_of_ble_eq_true rfl) rfl ?_
  have lp9 : ∀ (n9 : Nat) (k : Int) (h9 : mH), (36 - k).toNat = n9 → (rk h9 m) → (refT h9 m 0 σ) → (rB h9 m g) → (rKt h9 m y) → (frm (fun a k => (a = m ∧ k = 56) ∨ a = m + 27) h h9) → (0 ≤ k ∧ k ≤ 36) → (rI h9 m 56 = suC g (sC σ y) k) → (∀ e : Int, 0 ≤ e → e < k → suP g (sC σ y) e → rI h9 (m + 27) (suC g (sC σ y) e) = e) → mEv TB0 ad M_X12_findCouples (dd + 3) (0, 0) (mCal TB0 ad (dd + 2)) (fun v h' z => z.1 = 0 ∧ Q v h') 7 [some (.ref m), some (.int (zI k)), none, none] [] h9 (0, 0) := by
    intro n9
    induction n9 using Nat.strongRecOn with
    | ind n9 ih9 =>
    intro k h9 hn9 k10 H11 H12 H13 FR14 I1 I2 I3
    refine e_iload_n dX12_findCouples_7 rfl ?_
    have sb := suC_b g (sC σ y) (i := k) (by omega)
    refine z_bipush (36) dX12_findCouples_8 rfl ?_
    refine z_icmp_ge 147 dX12_findCouples_10 rfl ⟨by omega, by omega⟩ ⟨by omega, by omega⟩ (fun c15 => ?_) (fun c15 => ?_)
    · skip
      refine e_vret dX12_findCouples_147 rfl ⟨rfl, ?_⟩
      exact kq _ FR14 ⟨by rw [I2, show k = 36 by omega], fun e a c z => I3 e a (by omega) z⟩
    · skip
      refine e_iload_n dX12_findCouples_13 rfl ?_
      refine z_bipush (6) dX12_findCouples_14 rfl ?_
      refine z_idiv dX12_findCouples_16 (by omega) (by omega) (by omega) (by omega) ?_
      refine e_aload_n dX12_findCouples_17 rfl ?_
      refine z_get (nd g) dX12_findCouples_18 tf_12_271 (rk_s k10) (Or.inl rfl) (rB_nd H12) ?_
      have y16 := rB_n H12
      refine z_icmp_ge 39 dX12_findCouples_21 rfl ⟨by omega, by omega⟩ ⟨by omega, by omega⟩ (fun c17 => ?_) (fun c17 => ?_)
      · skip
        refine z_iconst (0) dX12_findCouples_39 rfl ?_
        refine e_istore_n (L' := [_, _, _, _]) dX12_findCouples_40 (Nat.le_of_ble_eq_true rfl) rfl ?_
        refine z_iconst (0) dX12_findCouples_41 rfl ?_
        refine e_istore_n (L' := [_, _, _, _]) dX12_findCouples_42 (Nat.le_of_ble_eq_true rfl) rfl ?_
        have lp18 : ∀ (n18 : Nat) (b i : Int), ((sC σ y) 0 - i).toNat = n18 → (0 ≤ i ∧ i ≤ (sC σ y) 0) → (b = 0 ∨ b = 1) → (b = 1 → (k / 6 < nd g ∧ k % 6 < nu g) ∧ ∀ e : Int, 0 ≤ e → e < i → clP g (sC σ y) (k / 6) (k % 6) e) → (b = 0 → ¬ suP g (sC σ y) k) → mEv TB0 ad M_X12_findCouples (dd + 3) (0, 0) (mCal TB0 ad (dd + 2)) (fun v h' z => z.1 = 0 ∧ Q v h') 43 [some (.ref m), some (.int (zI k)), some (.int (zI b)), some (.int (zI i))] [] h9 (0, 0) := by
          intro n18
          induction n18 using Nat.strongRecOn with
          | ind n18 ih18 =>
          intro b i  hn18  J1 J2 J3 J4
          refine e_iload_n dX12_findCouples_43 rfl ?_
          refine e_aload_n dX12_findCouples_44 rfl ?_
          refine e_callV [] dX12_findCouples_45 tm_12_508 rfl (Nat.le_of_ble_eq_true rfl) (rk_s k10) (Nat.le_of_ble_eq_true rfl) (Nat.le_refl _) (Nat.le_refl _) rfl (zp_X12_clueMany k10 H11 H13 (by omega) ?_)
          have y19 := ((refT_w H11).2.2.2.2 y (by omega) (by omega)).1
          refine z_icmp_ge 117 dX12_findCouples_48 rfl ⟨by omega, by omega⟩ ⟨by omega, by omega⟩ (fun c20 => ?_) (fun c20 => ?_)
          · skip
            refine e_iload_n dX12_findCouples_117 rfl ?_
            refine z_if_eq 141 dX12_findCouples_118 rfl ⟨by omega, by omega⟩ (fun c21 => ?_) (fun c21 => ?_)
            · skip
              have sn : ¬ suP g (sC σ y) k := J4 (by omega)
              refine z_iinc (L' := [_, _, _, _]) dX12_findCouples_141 rfl rfl ?_
              refine e_goto 7 dX12_findCouples_144 rfl ?_
              exact mEv_wk (by exact ⟨Or.inr rfl, Or.inr rfl, Or.inl rfl, Or.inl rfl, trivial⟩) (ih9 _ (by omega) (k + 1) h9 rfl k10 H11 H12 H13 FR14 (by omega) (I2.trans (suC_n (by omega) sn).symm) (fun e a c z => by
                          by_cases q : e = k
                          · rw [q] at z; exact absurd z sn
                          · exact I3 e a (by omega) z))
            · skip
              have sp : suP g (sC σ y) k := (by obtain ⟨z1, z2⟩ := J3 (by omega); exact ⟨z1, allN_i.mpr (fun e a c => z2 e a (by omega))⟩)
              refine e_aload_n dX12_findCouples_121 rfl ?_
              refine e_get (.ref (m + 27)) dX12_findCouples_122 tf_12_91 (rk_s k10) (congrArg va_rf (rk_r27 k10)) ?_
              refine e_aload_n dX12_findCouples_125 rfl ?_
              refine z_get (suC g (sC σ y) k) dX12_findCouples_126 tf_12_514 (rk_s k10) (Or.inl rfl) I2 ?_
              refine e_iload_n dX12_findCouples_129 rfl ?_
              refine z_ist dX12_findCouples_130 (rk_a27 k10) (by decide) (by omega) (by omega) (fun h22 e23 => ?_)
              have f24 := frm_1 e23
              have k25 := rk_q (frm_s f24) k10
              have H26 := refT_c f24 (fun a k q1 q2 => by omega) H11
              have H27 := rB_c f24 (fun a k q => by omega) H12
              have H28 := rKt_c f24 (fun a k q1 q2 => by omega) H13
              have FR29 := frm_t FR14 (frm_m (S' := (fun a k => (a = m ∧ k = 56) ∨ a = m + 27)) f24 (fun a k q => by omega))
              refine e_aload_n dX12_findCouples_131 rfl ?_
              refine e_dup dX12_findCouples_132 rfl ?_
              refine z_get (suC g (sC σ y) k) dX12_findCouples_133 tf_12_514 (rk_s k25) (Or.inl rfl) (((frm_r f24 (by omega))).trans I2) ?_
              refine z_iconst (1) dX12_findCouples_136 rfl ?_
              refine z_iadd dX12_findCouples_137 ?_
              refine z_put dX12_findCouples_138 tf_12_514 (rk_s k25) rfl (Or.inl rfl) (fun h30 e31 => ?_)
              have f32 := frm_1 e31
              have k33 := rk_q (frm_s f32) k25
              have H34 := refT_c f32 (fun a k q1 q2 => by omega) H26
              have H35 := rB_c f32 (fun a k q => by omega) H27
              have H36 := rKt_c f32 (fun a k q1 q2 => by omega) H28
              have FR37 := frm_t FR29 (frm_m (S' := (fun a k => (a = m ∧ k = 56) ∨ a = m + 27)) f32 (fun a k q => by omega))
              refine z_iinc (L' := [_, _, _, _]) dX12_findCouples_141 rfl rfl ?_
              refine e_goto 7 dX12_findCouples_144 rfl ?_
              exact mEv_wk (by exact ⟨Or.inr rfl, Or.inr rfl, Or.inl rfl, Or.inl rfl, trivial⟩) (ih9 _ (by omega) (k + 1) h30 rfl k33 H34 H35 H36 FR37 (by omega) ((show rI h30 m 56 = ((suC g (sC σ y) k) + 1) from (rI_eq e31 ⟨by omega, by omega⟩)).trans (suC_1 (by omega) sp).symm) (fun e a c z => by
                          by_cases q : e = k
                          · rw [q]; exact ((frm_r f32 (by omega)).trans (rI_eq e23 ⟨by omega, by omega⟩))
                          · have w := suC_lt a z (show e < k by omega)
                            have w2 := suC_b g (sC σ y) a
                            exact (((frm_r f32 (by omega)).trans (frm_r f24 (by omega)))).trans (I3 e a (by omega) z)))
          · skip
            refine e_iload_n dX12_findCouples_51 rfl ?_
            refine z_if_eq 117 dX12_findCouples_52 rfl ⟨by omega, by omega⟩ (fun c38 => ?_) (fun c38 => ?_)
            · skip
              refine e_iload_n dX12_findCouples_117 rfl ?_
              refine z_if_eq 141 dX12_findCouples_118 rfl ⟨by omega, by omega⟩ (fun c39 => ?_) (fun c39 => ?_)
              · skip
                have sn : ¬ suP g (sC σ y) k := J4 (by omega)
                refine z_iinc (L' := [_, _, _, _]) dX12_findCouples_141 rfl rfl ?_
                refine e_goto 7 dX12_findCouples_144 rfl ?_
                exact mEv_wk (by exact ⟨Or.inr rfl, Or.inr rfl, Or.inl rfl, Or.inl rfl, trivial⟩) (ih9 _ (by omega) (k + 1) h9 rfl k10 H11 H12 H13 FR14 (by omega) (I2.trans (suC_n (by omega) sn).symm) (fun e a c z => by
                            by_cases q : e = k
                            · rw [q] at z; exact absurd z sn
                            · exact I3 e a (by omega) z))
              · skip
                have sp : suP g (sC σ y) k := (by obtain ⟨z1, z2⟩ := J3 (by omega); exact ⟨z1, allN_i.mpr (fun e a c => z2 e a (by omega))⟩)
                refine e_aload_n dX12_findCouples_121 rfl ?_
                refine e_get (.ref (m + 27)) dX12_findCouples_122 tf_12_91 (rk_s k10) (congrArg va_rf (rk_r27 k10)) ?_
                refine e_aload_n dX12_findCouples_125 rfl ?_
                refine z_get (suC g (sC σ y) k) dX12_findCouples_126 tf_12_514 (rk_s k10) (Or.inl rfl) I2 ?_
                refine e_iload_n dX12_findCouples_129 rfl ?_
                refine z_ist dX12_findCouples_130 (rk_a27 k10) (by decide) (by omega) (by omega) (fun h40 e41 => ?_)
                have f42 := frm_1 e41
                have k43 := rk_q (frm_s f42) k10
                have H44 := refT_c f42 (fun a k q1 q2 => by omega) H11
                have H45 := rB_c f42 (fun a k q => by omega) H12
                have H46 := rKt_c f42 (fun a k q1 q2 => by omega) H13
                have FR47 := frm_t FR14 (frm_m (S' := (fun a k => (a = m ∧ k = 56) ∨ a = m + 27)) f42 (fun a k q => by omega))
                refine e_aload_n dX12_findCouples_131 rfl ?_
                refine e_dup dX12_findCouples_132 rfl ?_
                refine z_get (suC g (sC σ y) k) dX12_findCouples_133 tf_12_514 (rk_s k43) (Or.inl rfl) (((frm_r f42 (by omega))).trans I2) ?_
                refine z_iconst (1) dX12_findCouples_136 rfl ?_
                refine z_iadd dX12_findCouples_137 ?_
                refine z_put dX12_findCouples_138 tf_12_514 (rk_s k43) rfl (Or.inl rfl) (fun h48 e49 => ?_)
                have f50 := frm_1 e49
                have k51 := rk_q (frm_s f50) k43
                have H52 := refT_c f50 (fun a k q1 q2 => by omega) H44
                have H53 := rB_c f50 (fun a k q => by omega) H45
                have H54 := rKt_c f50 (fun a k q1 q2 => by omega) H46
                have FR55 := frm_t FR47 (frm_m (S' := (fun a k => (a = m ∧ k = 56) ∨ a = m + 27)) f50 (fun a k q => by omega))
                refine z_iinc (L' := [_, _, _, _]) dX12_findCouples_141 rfl rfl ?_
                refine e_goto 7 dX12_findCouples_144 rfl ?_
                exact mEv_wk (by exact ⟨Or.inr rfl, Or.inr rfl, Or.inl rfl, Or.inl rfl, trivial⟩) (ih9 _ (by omega) (k + 1) h48 rfl k51 H52 H53 H54 FR55 (by omega) ((show rI h48 m 56 = ((suC g (sC σ y) k) + 1) from (rI_eq e49 ⟨by omega, by omega⟩)).trans (suC_1 (by omega) sp).symm) (fun e a c z => by
                            by_cases q : e = k
                            · rw [q]; exact ((frm_r f50 (by omega)).trans (rI_eq e41 ⟨by omega, by omega⟩))
                            · have w := suC_lt a z (show e < k by omega)
                              have w2 := suC_b g (sC σ y) a
                              exact (((frm_r f50 (by omega)).trans (frm_r f42 (by omega)))).trans (I3 e a (by omega) z)))
            · skip
              have jb := J3 (by omega)
              have jb1 := jb.1
              refine e_aload_n dX12_findCouples_55 rfl ?_
              refine e_aload_n dX12_findCouples_56 rfl ?_
              refine e_iload_n dX12_findCouples_57 rfl ?_
              refine z_iconst (0) dX12_findCouples_58 rfl ?_
              refine e_callV [.int _, .int _] dX12_findCouples_59 tm_12_511 rfl (Nat.le_of_ble_eq_true rfl) (rk_s k10) (Nat.le_of_ble_eq_true rfl) (Nat.le_refl _) (Nat.le_refl _) rfl (zp_X12_clueOf k10 H11 H13 i ⟨by omega, by omega⟩ 0 ⟨by omega, by omega⟩ (by omega) (by omega) (by omega) (by omega) (by omega) ?_)
              have e0 : (sC σ y (1 + 3 * i + 0)) = ysr (sC σ y) i := congrArg (sC σ y) (by omega)
              have eb := wk.2 i (by omega) (by omega)
              refine e_iload_n dX12_findCouples_62 rfl ?_
              refine z_bipush (6) dX12_findCouples_63 rfl ?_
              refine z_idiv dX12_findCouples_65 (by omega) (by omega) (by omega) (by omega) ?_
              refine e_iload_n dX12_findCouples_66 rfl ?_
              refine z_bipush (6) dX12_findCouples_67 rfl ?_
              refine z_irem dX12_findCouples_69 (by omega) (by omega) (by omega) (by omega) ?_
              refine e_callV [.int _, .int _, .int _] dX12_findCouples_70 tm_12_517 rfl (Nat.le_of_ble_eq_true rfl) (rk_s k10) (Nat.le_of_ble_eq_true rfl) (Nat.le_refl _) (Nat.le_refl _) rfl (zp_X12_tells k10 H12 (sC σ y (1 + 3 * i + 0)) ⟨by omega, by omega⟩ (k / 6) ⟨by omega, by omega⟩ (k % 6) ⟨by omega, by omega⟩ (by omega) (by omega) (by omega) ?_)
              have y56 := ms2_b (rB_w H12) (sC σ y (1 + 3 * i + 0)) (show 0 ≤ (k / 6) ∧ (k / 6) < nd g by omega) (show 0 ≤ (k % 6) ∧ (k % 6) < nu g by omega)
              refine e_aload_n dX12_findCouples_73 rfl ?_
              refine e_iload_n dX12_findCouples_74 rfl ?_
              refine z_iconst (1) dX12_findCouples_75 rfl ?_
              refine e_callV [.int _, .int _] dX12_findCouples_76 tm_12_511 rfl (Nat.le_of_ble_eq_true rfl) (rk_s k10) (Nat.le_of_ble_eq_true rfl) (Nat.le_refl _) (Nat.le_refl _) rfl (zp_X12_clueOf k10 H11 H13 i ⟨by omega, by omega⟩ 1 ⟨by omega, by omega⟩ (by omega) (by omega) (by omega) (by omega) (by omega) ?_)
              have e1 : (sC σ y (1 + 3 * i + 1)) = yfi (sC σ y) i := congrArg (sC σ y) (by omega)
              refine z_icmp_ne 86 dX12_findCouples_79 rfl ⟨by omega, by omega⟩ ⟨by omega, by omega⟩ (fun c57 => ?_) (fun c57 => ?_)
              · skip
                refine z_iconst (0) dX12_findCouples_86 rfl ?_
                refine e_aload_n dX12_findCouples_87 rfl ?_
                refine e_iload_n dX12_findCouples_88 rfl ?_
                refine z_iconst (2) dX12_findCouples_89 rfl ?_
                refine e_callV [.int _, .int _] dX12_findCouples_90 tm_12_511 rfl (Nat.le_of_ble_eq_true rfl) (rk_s k10) (Nat.le_of_ble_eq_true rfl) (Nat.le_refl _) (Nat.le_refl _) rfl (zp_X12_clueOf k10 H11 H13 i ⟨by omega, by omega⟩ 2 ⟨by omega, by omega⟩ (by omega) (by omega) (by omega) (by omega) (by omega) ?_)
                have e2 : (sC σ y (1 + 3 * i + 2)) = yse (sC σ y) i := congrArg (sC σ y) (by omega)
                refine z_iconst (1) dX12_findCouples_93 rfl ?_
                refine z_icmp_ne 101 dX12_findCouples_94 rfl ⟨by omega, by omega⟩ ⟨by omega, by omega⟩ (fun c58 => ?_) (fun c58 => ?_)
                · skip
                  refine z_iconst (0) dX12_findCouples_101 rfl ?_
                  refine z_icmp_ne 109 dX12_findCouples_102 rfl ⟨by omega, by omega⟩ ⟨by omega, by omega⟩ (fun c59 => ?_) (fun c59 => ?_)
                  · exfalso; omega
                  · skip
                    refine z_iconst (1) dX12_findCouples_105 rfl ?_
                    refine e_goto 110 dX12_findCouples_106 rfl ?_
                    refine e_istore_n (L' := [_, _, _, _]) dX12_findCouples_110 (Nat.le_of_ble_eq_true rfl) rfl ?_
                    refine z_iinc (L' := [_, _, _, _]) dX12_findCouples_111 rfl rfl ?_
                    refine e_goto 43 dX12_findCouples_114 rfl ?_
                    exact ih18 _ (by omega) 1 (i + 1)  rfl  (by omega) (by omega) (by first | exact (fun z => by omega) | exact (fun _ => ⟨jb.1, fun e a c => by
                              by_cases q : e = i
                              · rw [q]; show (ms2 g (ysr (sC σ y) i) (k / 6) (k % 6) = yfi (sC σ y) i ↔ yse (sC σ y) i = 1); rw [← e0]; exact ⟨fun _ => by omega, fun _ => by omega⟩
                              · exact jb.2 e a (by omega)⟩)) (by first | exact (fun z => by omega) | exact (fun _ => (fun z => by
                              have z : ms2 g (ysr (sC σ y) i) (k / 6) (k % 6) = yfi (sC σ y) i ↔ yse (sC σ y) i = 1 := (allN_i.mp z.2) i (by omega) (by omega)
                              rw [← e0] at z; omega)))
                · skip
                  refine z_iconst (1) dX12_findCouples_97 rfl ?_
                  refine e_goto 102 dX12_findCouples_98 rfl ?_
                  refine z_icmp_ne 109 dX12_findCouples_102 rfl ⟨by omega, by omega⟩ ⟨by omega, by omega⟩ (fun c60 => ?_) (fun c60 => ?_)
                  · skip
                    refine z_iconst (0) dX12_findCouples_109 rfl ?_
                    refine e_istore_n (L' := [_, _, _, _]) dX12_findCouples_110 (Nat.le_of_ble_eq_true rfl) rfl ?_
                    refine z_iinc (L' := [_, _, _, _]) dX12_findCouples_111 rfl rfl ?_
                    refine e_goto 43 dX12_findCouples_114 rfl ?_
                    exact ih18 _ (by omega) 0 (i + 1)  rfl  (by omega) (by omega) (by first | exact (fun z => by omega) | exact (fun _ => ⟨jb.1, fun e a c => by
                              by_cases q : e = i
                              · rw [q]; show (ms2 g (ysr (sC σ y) i) (k / 6) (k % 6) = yfi (sC σ y) i ↔ yse (sC σ y) i = 1); rw [← e0]; exact ⟨fun _ => by omega, fun _ => by omega⟩
                              · exact jb.2 e a (by omega)⟩)) (by first | exact (fun z => by omega) | exact (fun _ => (fun z => by
                              have z : ms2 g (ysr (sC σ y) i) (k / 6) (k % 6) = yfi (sC σ y) i ↔ yse (sC σ y) i = 1 := (allN_i.mp z.2) i (by omega) (by omega)
                              rw [← e0] at z; omega)))
                  · exfalso; omega
              · skip
                refine z_iconst (1) dX12_findCouples_82 rfl ?_
                refine e_goto 87 dX12_findCouples_83 rfl ?_
                refine e_aload_n dX12_findCouples_87 rfl ?_
                refine e_iload_n dX12_findCouples_88 rfl ?_
                refine z_iconst (2) dX12_findCouples_89 rfl ?_
                refine e_callV [.int _, .int _] dX12_findCouples_90 tm_12_511 rfl (Nat.le_of_ble_eq_true rfl) (rk_s k10) (Nat.le_of_ble_eq_true rfl) (Nat.le_refl _) (Nat.le_refl _) rfl (zp_X12_clueOf k10 H11 H13 i ⟨by omega, by omega⟩ 2 ⟨by omega, by omega⟩ (by omega) (by omega) (by omega) (by omega) (by omega) ?_)
                have e2 : (sC σ y (1 + 3 * i + 2)) = yse (sC σ y) i := congrArg (sC σ y) (by omega)
                refine z_iconst (1) dX12_findCouples_93 rfl ?_
                refine z_icmp_ne 101 dX12_findCouples_94 rfl ⟨by omega, by omega⟩ ⟨by omega, by omega⟩ (fun c61 => ?_) (fun c61 => ?_)
                · skip
                  refine z_iconst (0) dX12_findCouples_101 rfl ?_
                  refine z_icmp_ne 109 dX12_findCouples_102 rfl ⟨by omega, by omega⟩ ⟨by omega, by omega⟩ (fun c62 => ?_) (fun c62 => ?_)
                  · skip
                    refine z_iconst (0) dX12_findCouples_109 rfl ?_
                    refine e_istore_n (L' := [_, _, _, _]) dX12_findCouples_110 (Nat.le_of_ble_eq_true rfl) rfl ?_
                    refine z_iinc (L' := [_, _, _, _]) dX12_findCouples_111 rfl rfl ?_
                    refine e_goto 43 dX12_findCouples_114 rfl ?_
                    exact ih18 _ (by omega) 0 (i + 1)  rfl  (by omega) (by omega) (by first | exact (fun z => by omega) | exact (fun _ => ⟨jb.1, fun e a c => by
                              by_cases q : e = i
                              · rw [q]; show (ms2 g (ysr (sC σ y) i) (k / 6) (k % 6) = yfi (sC σ y) i ↔ yse (sC σ y) i = 1); rw [← e0]; exact ⟨fun _ => by omega, fun _ => by omega⟩
                              · exact jb.2 e a (by omega)⟩)) (by first | exact (fun z => by omega) | exact (fun _ => (fun z => by
                              have z : ms2 g (ysr (sC σ y) i) (k / 6) (k % 6) = yfi (sC σ y) i ↔ yse (sC σ y) i = 1 := (allN_i.mp z.2) i (by omega) (by omega)
                              rw [← e0] at z; omega)))
                  · exfalso; omega
                · skip
                  refine z_iconst (1) dX12_findCouples_97 rfl ?_
                  refine e_goto 102 dX12_findCouples_98 rfl ?_
                  refine z_icmp_ne 109 dX12_findCouples_102 rfl ⟨by omega, by omega⟩ ⟨by omega, by omega⟩ (fun c63 => ?_) (fun c63 => ?_)
                  · exfalso; omega
                  · skip
                    refine z_iconst (1) dX12_findCouples_105 rfl ?_
                    refine e_goto 110 dX12_findCouples_106 rfl ?_
                    refine e_istore_n (L' := [_, _, _, _]) dX12_findCouples_110 (Nat.le_of_ble_eq_true rfl) rfl ?_
                    refine z_iinc (L' := [_, _, _, _]) dX12_findCouples_111 rfl rfl ?_
                    refine e_goto 43 dX12_findCouples_114 rfl ?_
                    exact ih18 _ (by omega) 1 (i + 1)  rfl  (by omega) (by omega) (by first | exact (fun z => by omega) | exact (fun _ => ⟨jb.1, fun e a c => by
                              by_cases q : e = i
                              · rw [q]; show (ms2 g (ysr (sC σ y) i) (k / 6) (k % 6) = yfi (sC σ y) i ↔ yse (sC σ y) i = 1); rw [← e0]; exact ⟨fun _ => by omega, fun _ => by omega⟩
                              · exact jb.2 e a (by omega)⟩)) (by first | exact (fun z => by omega) | exact (fun _ => (fun z => by
                              have z : ms2 g (ysr (sC σ y) i) (k / 6) (k % 6) = yfi (sC σ y) i ↔ yse (sC σ y) i = 1 := (allN_i.mp z.2) i (by omega) (by omega)
                              rw [← e0] at z; omega)))
        exact lp18 _ 0 0  rfl  (by omega) (by omega) (by first | exact (fun _ => ⟨⟨by omega, by omega⟩, fun e a c => by omega⟩) | exact (fun z => by omega)) (by first | exact (fun z => by omega) | exact (fun _ z => by have := z.1; omega))
      · skip
        refine e_iload_n dX12_findCouples_24 rfl ?_
        refine z_bipush (6) dX12_findCouples_25 rfl ?_
        refine z_irem dX12_findCouples_27 (by omega) (by omega) (by omega) (by omega) ?_
        refine e_aload_n dX12_findCouples_28 rfl ?_
        refine z_get (nu g) dX12_findCouples_29 tf_12_274 (rk_s k10) (Or.inl rfl) (rB_nu H12) ?_
        have y64 := rB_n H12
        refine z_icmp_ge 39 dX12_findCouples_32 rfl ⟨by omega, by omega⟩ ⟨by omega, by omega⟩ (fun c65 => ?_) (fun c65 => ?_)
        · skip
          refine z_iconst (0) dX12_findCouples_39 rfl ?_
          refine e_istore_n (L' := [_, _, _, _]) dX12_findCouples_40 (Nat.le_of_ble_eq_true rfl) rfl ?_
          refine z_iconst (0) dX12_findCouples_41 rfl ?_
          refine e_istore_n (L' := [_, _, _, _]) dX12_findCouples_42 (Nat.le_of_ble_eq_true rfl) rfl ?_
          have lp66 : ∀ (n66 : Nat) (b i : Int), ((sC σ y) 0 - i).toNat = n66 → (0 ≤ i ∧ i ≤ (sC σ y) 0) → (b = 0 ∨ b = 1) → (b = 1 → (k / 6 < nd g ∧ k % 6 < nu g) ∧ ∀ e : Int, 0 ≤ e → e < i → clP g (sC σ y) (k / 6) (k % 6) e) → (b = 0 → ¬ suP g (sC σ y) k) → mEv TB0 ad M_X12_findCouples (dd + 3) (0, 0) (mCal TB0 ad (dd + 2)) (fun v h' z => z.1 = 0 ∧ Q v h') 43 [some (.ref m), some (.int (zI k)), some (.int (zI b)), some (.int (zI i))] [] h9 (0, 0) := by
            intro n66
            induction n66 using Nat.strongRecOn with
            | ind n66 ih66 =>
            intro b i  hn66  J1 J2 J3 J4
            refine e_iload_n dX12_findCouples_43 rfl ?_
            refine e_aload_n dX12_findCouples_44 rfl ?_
            refine e_callV [] dX12_findCouples_45 tm_12_508 rfl (Nat.le_of_ble_eq_true rfl) (rk_s k10) (Nat.le_of_ble_eq_true rfl) (Nat.le_refl _) (Nat.le_refl _) rfl (zp_X12_clueMany k10 H11 H13 (by omega) ?_)
            have y67 := ((refT_w H11).2.2.2.2 y (by omega) (by omega)).1
            refine z_icmp_ge 117 dX12_findCouples_48 rfl ⟨by omega, by omega⟩ ⟨by omega, by omega⟩ (fun c68 => ?_) (fun c68 => ?_)
            · skip
              refine e_iload_n dX12_findCouples_117 rfl ?_
              refine z_if_eq 141 dX12_findCouples_118 rfl ⟨by omega, by omega⟩ (fun c69 => ?_) (fun c69 => ?_)
              · skip
                have sn : ¬ suP g (sC σ y) k := J4 (by omega)
                refine z_iinc (L' := [_, _, _, _]) dX12_findCouples_141 rfl rfl ?_
                refine e_goto 7 dX12_findCouples_144 rfl ?_
                exact mEv_wk (by exact ⟨Or.inr rfl, Or.inr rfl, Or.inl rfl, Or.inl rfl, trivial⟩) (ih9 _ (by omega) (k + 1) h9 rfl k10 H11 H12 H13 FR14 (by omega) (I2.trans (suC_n (by omega) sn).symm) (fun e a c z => by
                            by_cases q : e = k
                            · rw [q] at z; exact absurd z sn
                            · exact I3 e a (by omega) z))
              · skip
                have sp : suP g (sC σ y) k := (by obtain ⟨z1, z2⟩ := J3 (by omega); exact ⟨z1, allN_i.mpr (fun e a c => z2 e a (by omega))⟩)
                refine e_aload_n dX12_findCouples_121 rfl ?_
                refine e_get (.ref (m + 27)) dX12_findCouples_122 tf_12_91 (rk_s k10) (congrArg va_rf (rk_r27 k10)) ?_
                refine e_aload_n dX12_findCouples_125 rfl ?_
                refine z_get (suC g (sC σ y) k) dX12_findCouples_126 tf_12_514 (rk_s k10) (Or.inl rfl) I2 ?_
                refine e_iload_n dX12_findCouples_129 rfl ?_
                refine z_ist dX12_findCouples_130 (rk_a27 k10) (by decide) (by omega) (by omega) (fun h70 e71 => ?_)
                have f72 := frm_1 e71
                have k73 := rk_q (frm_s f72) k10
                have H74 := refT_c f72 (fun a k q1 q2 => by omega) H11
                have H75 := rB_c f72 (fun a k q => by omega) H12
                have H76 := rKt_c f72 (fun a k q1 q2 => by omega) H13
                have FR77 := frm_t FR14 (frm_m (S' := (fun a k => (a = m ∧ k = 56) ∨ a = m + 27)) f72 (fun a k q => by omega))
                refine e_aload_n dX12_findCouples_131 rfl ?_
                refine e_dup dX12_findCouples_132 rfl ?_
                refine z_get (suC g (sC σ y) k) dX12_findCouples_133 tf_12_514 (rk_s k73) (Or.inl rfl) (((frm_r f72 (by omega))).trans I2) ?_
                refine z_iconst (1) dX12_findCouples_136 rfl ?_
                refine z_iadd dX12_findCouples_137 ?_
                refine z_put dX12_findCouples_138 tf_12_514 (rk_s k73) rfl (Or.inl rfl) (fun h78 e79 => ?_)
                have f80 := frm_1 e79
                have k81 := rk_q (frm_s f80) k73
                have H82 := refT_c f80 (fun a k q1 q2 => by omega) H74
                have H83 := rB_c f80 (fun a k q => by omega) H75
                have H84 := rKt_c f80 (fun a k q1 q2 => by omega) H76
                have FR85 := frm_t FR77 (frm_m (S' := (fun a k => (a = m ∧ k = 56) ∨ a = m + 27)) f80 (fun a k q => by omega))
                refine z_iinc (L' := [_, _, _, _]) dX12_findCouples_141 rfl rfl ?_
                refine e_goto 7 dX12_findCouples_144 rfl ?_
                exact mEv_wk (by exact ⟨Or.inr rfl, Or.inr rfl, Or.inl rfl, Or.inl rfl, trivial⟩) (ih9 _ (by omega) (k + 1) h78 rfl k81 H82 H83 H84 FR85 (by omega) ((show rI h78 m 56 = ((suC g (sC σ y) k) + 1) from (rI_eq e79 ⟨by omega, by omega⟩)).trans (suC_1 (by omega) sp).symm) (fun e a c z => by
                            by_cases q : e = k
                            · rw [q]; exact ((frm_r f80 (by omega)).trans (rI_eq e71 ⟨by omega, by omega⟩))
                            · have w := suC_lt a z (show e < k by omega)
                              have w2 := suC_b g (sC σ y) a
                              exact (((frm_r f80 (by omega)).trans (frm_r f72 (by omega)))).trans (I3 e a (by omega) z)))
            · skip
              refine e_iload_n dX12_findCouples_51 rfl ?_
              refine z_if_eq 117 dX12_findCouples_52 rfl ⟨by omega, by omega⟩ (fun c86 => ?_) (fun c86 => ?_)
              · skip
                refine e_iload_n dX12_findCouples_117 rfl ?_
                refine z_if_eq 141 dX12_findCouples_118 rfl ⟨by omega, by omega⟩ (fun c87 => ?_) (fun c87 => ?_)
                · skip
                  have sn : ¬ suP g (sC σ y) k := J4 (by omega)
                  refine z_iinc (L' := [_, _, _, _]) dX12_findCouples_141 rfl rfl ?_
                  refine e_goto 7 dX12_findCouples_144 rfl ?_
                  exact mEv_wk (by exact ⟨Or.inr rfl, Or.inr rfl, Or.inl rfl, Or.inl rfl, trivial⟩) (ih9 _ (by omega) (k + 1) h9 rfl k10 H11 H12 H13 FR14 (by omega) (I2.trans (suC_n (by omega) sn).symm) (fun e a c z => by
                              by_cases q : e = k
                              · rw [q] at z; exact absurd z sn
                              · exact I3 e a (by omega) z))
                · skip
                  have sp : suP g (sC σ y) k := (by obtain ⟨z1, z2⟩ := J3 (by omega); exact ⟨z1, allN_i.mpr (fun e a c => z2 e a (by omega))⟩)
                  refine e_aload_n dX12_findCouples_121 rfl ?_
                  refine e_get (.ref (m + 27)) dX12_findCouples_122 tf_12_91 (rk_s k10) (congrArg va_rf (rk_r27 k10)) ?_
                  refine e_aload_n dX12_findCouples_125 rfl ?_
                  refine z_get (suC g (sC σ y) k) dX12_findCouples_126 tf_12_514 (rk_s k10) (Or.inl rfl) I2 ?_
                  refine e_iload_n dX12_findCouples_129 rfl ?_
                  refine z_ist dX12_findCouples_130 (rk_a27 k10) (by decide) (by omega) (by omega) (fun h88 e89 => ?_)
                  have f90 := frm_1 e89
                  have k91 := rk_q (frm_s f90) k10
                  have H92 := refT_c f90 (fun a k q1 q2 => by omega) H11
                  have H93 := rB_c f90 (fun a k q => by omega) H12
                  have H94 := rKt_c f90 (fun a k q1 q2 => by omega) H13
                  have FR95 := frm_t FR14 (frm_m (S' := (fun a k => (a = m ∧ k = 56) ∨ a = m + 27)) f90 (fun a k q => by omega))
                  refine e_aload_n dX12_findCouples_131 rfl ?_
                  refine e_dup dX12_findCouples_132 rfl ?_
                  refine z_get (suC g (sC σ y) k) dX12_findCouples_133 tf_12_514 (rk_s k91) (Or.inl rfl) (((frm_r f90 (by omega))).trans I2) ?_
                  refine z_iconst (1) dX12_findCouples_136 rfl ?_
                  refine z_iadd dX12_findCouples_137 ?_
                  refine z_put dX12_findCouples_138 tf_12_514 (rk_s k91) rfl (Or.inl rfl) (fun h96 e97 => ?_)
                  have f98 := frm_1 e97
                  have k99 := rk_q (frm_s f98) k91
                  have H100 := refT_c f98 (fun a k q1 q2 => by omega) H92
                  have H101 := rB_c f98 (fun a k q => by omega) H93
                  have H102 := rKt_c f98 (fun a k q1 q2 => by omega) H94
                  have FR103 := frm_t FR95 (frm_m (S' := (fun a k => (a = m ∧ k = 56) ∨ a = m + 27)) f98 (fun a k q => by omega))
                  refine z_iinc (L' := [_, _, _, _]) dX12_findCouples_141 rfl rfl ?_
                  refine e_goto 7 dX12_findCouples_144 rfl ?_
                  exact mEv_wk (by exact ⟨Or.inr rfl, Or.inr rfl, Or.inl rfl, Or.inl rfl, trivial⟩) (ih9 _ (by omega) (k + 1) h96 rfl k99 H100 H101 H102 FR103 (by omega) ((show rI h96 m 56 = ((suC g (sC σ y) k) + 1) from (rI_eq e97 ⟨by omega, by omega⟩)).trans (suC_1 (by omega) sp).symm) (fun e a c z => by
                              by_cases q : e = k
                              · rw [q]; exact ((frm_r f98 (by omega)).trans (rI_eq e89 ⟨by omega, by omega⟩))
                              · have w := suC_lt a z (show e < k by omega)
                                have w2 := suC_b g (sC σ y) a
                                exact (((frm_r f98 (by omega)).trans (frm_r f90 (by omega)))).trans (I3 e a (by omega) z)))
              · skip
                have jb := J3 (by omega)
                have jb1 := jb.1
                refine e_aload_n dX12_findCouples_55 rfl ?_
                refine e_aload_n dX12_findCouples_56 rfl ?_
                refine e_iload_n dX12_findCouples_57 rfl ?_
                refine z_iconst (0) dX12_findCouples_58 rfl ?_
                refine e_callV [.int _, .int _] dX12_findCouples_59 tm_12_511 rfl (Nat.le_of_ble_eq_true rfl) (rk_s k10) (Nat.le_of_ble_eq_true rfl) (Nat.le_refl _) (Nat.le_refl _) rfl (zp_X12_clueOf k10 H11 H13 i ⟨by omega, by omega⟩ 0 ⟨by omega, by omega⟩ (by omega) (by omega) (by omega) (by omega) (by omega) ?_)
                have e0 : (sC σ y (1 + 3 * i + 0)) = ysr (sC σ y) i := congrArg (sC σ y) (by omega)
                have eb := wk.2 i (by omega) (by omega)
                refine e_iload_n dX12_findCouples_62 rfl ?_
                refine z_bipush (6) dX12_findCouples_63 rfl ?_
                refine z_idiv dX12_findCouples_65 (by omega) (by omega) (by omega) (by omega) ?_
                refine e_iload_n dX12_findCouples_66 rfl ?_
                refine z_bipush (6) dX12_findCouples_67 rfl ?_
                refine z_irem dX12_findCouples_69 (by omega) (by omega) (by omega) (by omega) ?_
                refine e_callV [.int _, .int _, .int _] dX12_findCouples_70 tm_12_517 rfl (Nat.le_of_ble_eq_true rfl) (rk_s k10) (Nat.le_of_ble_eq_true rfl) (Nat.le_refl _) (Nat.le_refl _) rfl (zp_X12_tells k10 H12 (sC σ y (1 + 3 * i + 0)) ⟨by omega, by omega⟩ (k / 6) ⟨by omega, by omega⟩ (k % 6) ⟨by omega, by omega⟩ (by omega) (by omega) (by omega) ?_)
                have y104 := ms2_b (rB_w H12) (sC σ y (1 + 3 * i + 0)) (show 0 ≤ (k / 6) ∧ (k / 6) < nd g by omega) (show 0 ≤ (k % 6) ∧ (k % 6) < nu g by omega)
                refine e_aload_n dX12_findCouples_73 rfl ?_
                refine e_iload_n dX12_findCouples_74 rfl ?_
                refine z_iconst (1) dX12_findCouples_75 rfl ?_
                refine e_callV [.int _, .int _] dX12_findCouples_76 tm_12_511 rfl (Nat.le_of_ble_eq_true rfl) (rk_s k10) (Nat.le_of_ble_eq_true rfl) (Nat.le_refl _) (Nat.le_refl _) rfl (zp_X12_clueOf k10 H11 H13 i ⟨by omega, by omega⟩ 1 ⟨by omega, by omega⟩ (by omega) (by omega) (by omega) (by omega) (by omega) ?_)
                have e1 : (sC σ y (1 + 3 * i + 1)) = yfi (sC σ y) i := congrArg (sC σ y) (by omega)
                refine z_icmp_ne 86 dX12_findCouples_79 rfl ⟨by omega, by omega⟩ ⟨by omega, by omega⟩ (fun c105 => ?_) (fun c105 => ?_)
                · skip
                  refine z_iconst (0) dX12_findCouples_86 rfl ?_
                  refine e_aload_n dX12_findCouples_87 rfl ?_
                  refine e_iload_n dX12_findCouples_88 rfl ?_
                  refine z_iconst (2) dX12_findCouples_89 rfl ?_
                  refine e_callV [.int _, .int _] dX12_findCouples_90 tm_12_511 rfl (Nat.le_of_ble_eq_true rfl) (rk_s k10) (Nat.le_of_ble_eq_true rfl) (Nat.le_refl _) (Nat.le_refl _) rfl (zp_X12_clueOf k10 H11 H13 i ⟨by omega, by omega⟩ 2 ⟨by omega, by omega⟩ (by omega) (by omega) (by omega) (by omega) (by omega) ?_)
                  have e2 : (sC σ y (1 + 3 * i + 2)) = yse (sC σ y) i := congrArg (sC σ y) (by omega)
                  refine z_iconst (1) dX12_findCouples_93 rfl ?_
                  refine z_icmp_ne 101 dX12_findCouples_94 rfl ⟨by omega, by omega⟩ ⟨by omega, by omega⟩ (fun c106 => ?_) (fun c106 => ?_)
                  · skip
                    refine z_iconst (0) dX12_findCouples_101 rfl ?_
                    refine z_icmp_ne 109 dX12_findCouples_102 rfl ⟨by omega, by omega⟩ ⟨by omega, by omega⟩ (fun c107 => ?_) (fun c107 => ?_)
                    · exfalso; omega
                    · skip
                      refine z_iconst (1) dX12_findCouples_105 rfl ?_
                      refine e_goto 110 dX12_findCouples_106 rfl ?_
                      refine e_istore_n (L' := [_, _, _, _]) dX12_findCouples_110 (Nat.le_of_ble_eq_true rfl) rfl ?_
                      refine z_iinc (L' := [_, _, _, _]) dX12_findCouples_111 rfl rfl ?_
                      refine e_goto 43 dX12_findCouples_114 rfl ?_
                      exact ih66 _ (by omega) 1 (i + 1)  rfl  (by omega) (by omega) (by first | exact (fun z => by omega) | exact (fun _ => ⟨jb.1, fun e a c => by
                                by_cases q : e = i
                                · rw [q]; show (ms2 g (ysr (sC σ y) i) (k / 6) (k % 6) = yfi (sC σ y) i ↔ yse (sC σ y) i = 1); rw [← e0]; exact ⟨fun _ => by omega, fun _ => by omega⟩
                                · exact jb.2 e a (by omega)⟩)) (by first | exact (fun z => by omega) | exact (fun _ => (fun z => by
                                have z : ms2 g (ysr (sC σ y) i) (k / 6) (k % 6) = yfi (sC σ y) i ↔ yse (sC σ y) i = 1 := (allN_i.mp z.2) i (by omega) (by omega)
                                rw [← e0] at z; omega)))
                  · skip
                    refine z_iconst (1) dX12_findCouples_97 rfl ?_
                    refine e_goto 102 dX12_findCouples_98 rfl ?_
                    refine z_icmp_ne 109 dX12_findCouples_102 rfl ⟨by omega, by omega⟩ ⟨by omega, by omega⟩ (fun c108 => ?_) (fun c108 => ?_)
                    · skip
                      refine z_iconst (0) dX12_findCouples_109 rfl ?_
                      refine e_istore_n (L' := [_, _, _, _]) dX12_findCouples_110 (Nat.le_of_ble_eq_true rfl) rfl ?_
                      refine z_iinc (L' := [_, _, _, _]) dX12_findCouples_111 rfl rfl ?_
                      refine e_goto 43 dX12_findCouples_114 rfl ?_
                      exact ih66 _ (by omega) 0 (i + 1)  rfl  (by omega) (by omega) (by first | exact (fun z => by omega) | exact (fun _ => ⟨jb.1, fun e a c => by
                                by_cases q : e = i
                                · rw [q]; show (ms2 g (ysr (sC σ y) i) (k / 6) (k % 6) = yfi (sC σ y) i ↔ yse (sC σ y) i = 1); rw [← e0]; exact ⟨fun _ => by omega, fun _ => by omega⟩
                                · exact jb.2 e a (by omega)⟩)) (by first | exact (fun z => by omega) | exact (fun _ => (fun z => by
                                have z : ms2 g (ysr (sC σ y) i) (k / 6) (k % 6) = yfi (sC σ y) i ↔ yse (sC σ y) i = 1 := (allN_i.mp z.2) i (by omega) (by omega)
                                rw [← e0] at z; omega)))
                    · exfalso; omega
                · skip
                  refine z_iconst (1) dX12_findCouples_82 rfl ?_
                  refine e_goto 87 dX12_findCouples_83 rfl ?_
                  refine e_aload_n dX12_findCouples_87 rfl ?_
                  refine e_iload_n dX12_findCouples_88 rfl ?_
                  refine z_iconst (2) dX12_findCouples_89 rfl ?_
                  refine e_callV [.int _, .int _] dX12_findCouples_90 tm_12_511 rfl (Nat.le_of_ble_eq_true rfl) (rk_s k10) (Nat.le_of_ble_eq_true rfl) (Nat.le_refl _) (Nat.le_refl _) rfl (zp_X12_clueOf k10 H11 H13 i ⟨by omega, by omega⟩ 2 ⟨by omega, by omega⟩ (by omega) (by omega) (by omega) (by omega) (by omega) ?_)
                  have e2 : (sC σ y (1 + 3 * i + 2)) = yse (sC σ y) i := congrArg (sC σ y) (by omega)
                  refine z_iconst (1) dX12_findCouples_93 rfl ?_
                  refine z_icmp_ne 101 dX12_findCouples_94 rfl ⟨by omega, by omega⟩ ⟨by omega, by omega⟩ (fun c109 => ?_) (fun c109 => ?_)
                  · skip
                    refine z_iconst (0) dX12_findCouples_101 rfl ?_
                    refine z_icmp_ne 109 dX12_findCouples_102 rfl ⟨by omega, by omega⟩ ⟨by omega, by omega⟩ (fun c110 => ?_) (fun c110 => ?_)
                    · skip
                      refine z_iconst (0) dX12_findCouples_109 rfl ?_
                      refine e_istore_n (L' := [_, _, _, _]) dX12_findCouples_110 (Nat.le_of_ble_eq_true rfl) rfl ?_
                      refine z_iinc (L' := [_, _, _, _]) dX12_findCouples_111 rfl rfl ?_
                      refine e_goto 43 dX12_findCouples_114 rfl ?_
                      exact ih66 _ (by omega) 0 (i + 1)  rfl  (by omega) (by omega) (by first | exact (fun z => by omega) | exact (fun _ => ⟨jb.1, fun e a c => by
                                by_cases q : e = i
                                · rw [q]; show (ms2 g (ysr (sC σ y) i) (k / 6) (k % 6) = yfi (sC σ y) i ↔ yse (sC σ y) i = 1); rw [← e0]; exact ⟨fun _ => by omega, fun _ => by omega⟩
                                · exact jb.2 e a (by omega)⟩)) (by first | exact (fun z => by omega) | exact (fun _ => (fun z => by
                                have z : ms2 g (ysr (sC σ y) i) (k / 6) (k % 6) = yfi (sC σ y) i ↔ yse (sC σ y) i = 1 := (allN_i.mp z.2) i (by omega) (by omega)
                                rw [← e0] at z; omega)))
                    · exfalso; omega
                  · skip
                    refine z_iconst (1) dX12_findCouples_97 rfl ?_
                    refine e_goto 102 dX12_findCouples_98 rfl ?_
                    refine z_icmp_ne 109 dX12_findCouples_102 rfl ⟨by omega, by omega⟩ ⟨by omega, by omega⟩ (fun c111 => ?_) (fun c111 => ?_)
                    · exfalso; omega
                    · skip
                      refine z_iconst (1) dX12_findCouples_105 rfl ?_
                      refine e_goto 110 dX12_findCouples_106 rfl ?_
                      refine e_istore_n (L' := [_, _, _, _]) dX12_findCouples_110 (Nat.le_of_ble_eq_true rfl) rfl ?_
                      refine z_iinc (L' := [_, _, _, _]) dX12_findCouples_111 rfl rfl ?_
                      refine e_goto 43 dX12_findCouples_114 rfl ?_
                      exact ih66 _ (by omega) 1 (i + 1)  rfl  (by omega) (by omega) (by first | exact (fun z => by omega) | exact (fun _ => ⟨jb.1, fun e a c => by
                                by_cases q : e = i
                                · rw [q]; show (ms2 g (ysr (sC σ y) i) (k / 6) (k % 6) = yfi (sC σ y) i ↔ yse (sC σ y) i = 1); rw [← e0]; exact ⟨fun _ => by omega, fun _ => by omega⟩
                                · exact jb.2 e a (by omega)⟩)) (by first | exact (fun z => by omega) | exact (fun _ => (fun z => by
                                have z : ms2 g (ysr (sC σ y) i) (k / 6) (k % 6) = yfi (sC σ y) i ↔ yse (sC σ y) i = 1 := (allN_i.mp z.2) i (by omega) (by omega)
                                rw [← e0] at z; omega)))
          exact lp66 _ 0 0  rfl  (by omega) (by omega) (by first | exact (fun _ => ⟨⟨by omega, by omega⟩, fun e a c => by omega⟩) | exact (fun z => by omega)) (by first | exact (fun z => by omega) | exact (fun _ z => by have := z.1; omega))
        · skip
          refine z_iconst (1) dX12_findCouples_35 rfl ?_
          refine e_goto 40 dX12_findCouples_36 rfl ?_
          refine e_istore_n (L' := [_, _, _, _]) dX12_findCouples_40 (Nat.le_of_ble_eq_true rfl) rfl ?_
          refine z_iconst (0) dX12_findCouples_41 rfl ?_
          refine e_istore_n (L' := [_, _, _, _]) dX12_findCouples_42 (Nat.le_of_ble_eq_true rfl) rfl ?_
          have lp112 : ∀ (n112 : Nat) (b i : Int), ((sC σ y) 0 - i).toNat = n112 → (0 ≤ i ∧ i ≤ (sC σ y) 0) → (b = 0 ∨ b = 1) → (b = 1 → (k / 6 < nd g ∧ k % 6 < nu g) ∧ ∀ e : Int, 0 ≤ e → e < i → clP g (sC σ y) (k / 6) (k % 6) e) → (b = 0 → ¬ suP g (sC σ y) k) → mEv TB0 ad M_X12_findCouples (dd + 3) (0, 0) (mCal TB0 ad (dd + 2)) (fun v h' z => z.1 = 0 ∧ Q v h') 43 [some (.ref m), some (.int (zI k)), some (.int (zI b)), some (.int (zI i))] [] h9 (0, 0) := by
            intro n112
            induction n112 using Nat.strongRecOn with
            | ind n112 ih112 =>
            intro b i  hn112  J1 J2 J3 J4
            refine e_iload_n dX12_findCouples_43 rfl ?_
            refine e_aload_n dX12_findCouples_44 rfl ?_
            refine e_callV [] dX12_findCouples_45 tm_12_508 rfl (Nat.le_of_ble_eq_true rfl) (rk_s k10) (Nat.le_of_ble_eq_true rfl) (Nat.le_refl _) (Nat.le_refl _) rfl (zp_X12_clueMany k10 H11 H13 (by omega) ?_)
            have y113 := ((refT_w H11).2.2.2.2 y (by omega) (by omega)).1
            refine z_icmp_ge 117 dX12_findCouples_48 rfl ⟨by omega, by omega⟩ ⟨by omega, by omega⟩ (fun c114 => ?_) (fun c114 => ?_)
            · skip
              refine e_iload_n dX12_findCouples_117 rfl ?_
              refine z_if_eq 141 dX12_findCouples_118 rfl ⟨by omega, by omega⟩ (fun c115 => ?_) (fun c115 => ?_)
              · skip
                have sn : ¬ suP g (sC σ y) k := J4 (by omega)
                refine z_iinc (L' := [_, _, _, _]) dX12_findCouples_141 rfl rfl ?_
                refine e_goto 7 dX12_findCouples_144 rfl ?_
                exact mEv_wk (by exact ⟨Or.inr rfl, Or.inr rfl, Or.inl rfl, Or.inl rfl, trivial⟩) (ih9 _ (by omega) (k + 1) h9 rfl k10 H11 H12 H13 FR14 (by omega) (I2.trans (suC_n (by omega) sn).symm) (fun e a c z => by
                            by_cases q : e = k
                            · rw [q] at z; exact absurd z sn
                            · exact I3 e a (by omega) z))
              · skip
                have sp : suP g (sC σ y) k := (by obtain ⟨z1, z2⟩ := J3 (by omega); exact ⟨z1, allN_i.mpr (fun e a c => z2 e a (by omega))⟩)
                refine e_aload_n dX12_findCouples_121 rfl ?_
                refine e_get (.ref (m + 27)) dX12_findCouples_122 tf_12_91 (rk_s k10) (congrArg va_rf (rk_r27 k10)) ?_
                refine e_aload_n dX12_findCouples_125 rfl ?_
                refine z_get (suC g (sC σ y) k) dX12_findCouples_126 tf_12_514 (rk_s k10) (Or.inl rfl) I2 ?_
                refine e_iload_n dX12_findCouples_129 rfl ?_
                refine z_ist dX12_findCouples_130 (rk_a27 k10) (by decide) (by omega) (by omega) (fun h116 e117 => ?_)
                have f118 := frm_1 e117
                have k119 := rk_q (frm_s f118) k10
                have H120 := refT_c f118 (fun a k q1 q2 => by omega) H11
                have H121 := rB_c f118 (fun a k q => by omega) H12
                have H122 := rKt_c f118 (fun a k q1 q2 => by omega) H13
                have FR123 := frm_t FR14 (frm_m (S' := (fun a k => (a = m ∧ k = 56) ∨ a = m + 27)) f118 (fun a k q => by omega))
                refine e_aload_n dX12_findCouples_131 rfl ?_
                refine e_dup dX12_findCouples_132 rfl ?_
                refine z_get (suC g (sC σ y) k) dX12_findCouples_133 tf_12_514 (rk_s k119) (Or.inl rfl) (((frm_r f118 (by omega))).trans I2) ?_
                refine z_iconst (1) dX12_findCouples_136 rfl ?_
                refine z_iadd dX12_findCouples_137 ?_
                refine z_put dX12_findCouples_138 tf_12_514 (rk_s k119) rfl (Or.inl rfl) (fun h124 e125 => ?_)
                have f126 := frm_1 e125
                have k127 := rk_q (frm_s f126) k119
                have H128 := refT_c f126 (fun a k q1 q2 => by omega) H120
                have H129 := rB_c f126 (fun a k q => by omega) H121
                have H130 := rKt_c f126 (fun a k q1 q2 => by omega) H122
                have FR131 := frm_t FR123 (frm_m (S' := (fun a k => (a = m ∧ k = 56) ∨ a = m + 27)) f126 (fun a k q => by omega))
                refine z_iinc (L' := [_, _, _, _]) dX12_findCouples_141 rfl rfl ?_
                refine e_goto 7 dX12_findCouples_144 rfl ?_
                exact mEv_wk (by exact ⟨Or.inr rfl, Or.inr rfl, Or.inl rfl, Or.inl rfl, trivial⟩) (ih9 _ (by omega) (k + 1) h124 rfl k127 H128 H129 H130 FR131 (by omega) ((show rI h124 m 56 = ((suC g (sC σ y) k) + 1) from (rI_eq e125 ⟨by omega, by omega⟩)).trans (suC_1 (by omega) sp).symm) (fun e a c z => by
                            by_cases q : e = k
                            · rw [q]; exact ((frm_r f126 (by omega)).trans (rI_eq e117 ⟨by omega, by omega⟩))
                            · have w := suC_lt a z (show e < k by omega)
                              have w2 := suC_b g (sC σ y) a
                              exact (((frm_r f126 (by omega)).trans (frm_r f118 (by omega)))).trans (I3 e a (by omega) z)))
            · skip
              refine e_iload_n dX12_findCouples_51 rfl ?_
              refine z_if_eq 117 dX12_findCouples_52 rfl ⟨by omega, by omega⟩ (fun c132 => ?_) (fun c132 => ?_)
              · skip
                refine e_iload_n dX12_findCouples_117 rfl ?_
                refine z_if_eq 141 dX12_findCouples_118 rfl ⟨by omega, by omega⟩ (fun c133 => ?_) (fun c133 => ?_)
                · skip
                  have sn : ¬ suP g (sC σ y) k := J4 (by omega)
                  refine z_iinc (L' := [_, _, _, _]) dX12_findCouples_141 rfl rfl ?_
                  refine e_goto 7 dX12_findCouples_144 rfl ?_
                  exact mEv_wk (by exact ⟨Or.inr rfl, Or.inr rfl, Or.inl rfl, Or.inl rfl, trivial⟩) (ih9 _ (by omega) (k + 1) h9 rfl k10 H11 H12 H13 FR14 (by omega) (I2.trans (suC_n (by omega) sn).symm) (fun e a c z => by
                              by_cases q : e = k
                              · rw [q] at z; exact absurd z sn
                              · exact I3 e a (by omega) z))
                · skip
                  have sp : suP g (sC σ y) k := (by obtain ⟨z1, z2⟩ := J3 (by omega); exact ⟨z1, allN_i.mpr (fun e a c => z2 e a (by omega))⟩)
                  refine e_aload_n dX12_findCouples_121 rfl ?_
                  refine e_get (.ref (m + 27)) dX12_findCouples_122 tf_12_91 (rk_s k10) (congrArg va_rf (rk_r27 k10)) ?_
                  refine e_aload_n dX12_findCouples_125 rfl ?_
                  refine z_get (suC g (sC σ y) k) dX12_findCouples_126 tf_12_514 (rk_s k10) (Or.inl rfl) I2 ?_
                  refine e_iload_n dX12_findCouples_129 rfl ?_
                  refine z_ist dX12_findCouples_130 (rk_a27 k10) (by decide) (by omega) (by omega) (fun h134 e135 => ?_)
                  have f136 := frm_1 e135
                  have k137 := rk_q (frm_s f136) k10
                  have H138 := refT_c f136 (fun a k q1 q2 => by omega) H11
                  have H139 := rB_c f136 (fun a k q => by omega) H12
                  have H140 := rKt_c f136 (fun a k q1 q2 => by omega) H13
                  have FR141 := frm_t FR14 (frm_m (S' := (fun a k => (a = m ∧ k = 56) ∨ a = m + 27)) f136 (fun a k q => by omega))
                  refine e_aload_n dX12_findCouples_131 rfl ?_
                  refine e_dup dX12_findCouples_132 rfl ?_
                  refine z_get (suC g (sC σ y) k) dX12_findCouples_133 tf_12_514 (rk_s k137) (Or.inl rfl) (((frm_r f136 (by omega))).trans I2) ?_
                  refine z_iconst (1) dX12_findCouples_136 rfl ?_
                  refine z_iadd dX12_findCouples_137 ?_
                  refine z_put dX12_findCouples_138 tf_12_514 (rk_s k137) rfl (Or.inl rfl) (fun h142 e143 => ?_)
                  have f144 := frm_1 e143
                  have k145 := rk_q (frm_s f144) k137
                  have H146 := refT_c f144 (fun a k q1 q2 => by omega) H138
                  have H147 := rB_c f144 (fun a k q => by omega) H139
                  have H148 := rKt_c f144 (fun a k q1 q2 => by omega) H140
                  have FR149 := frm_t FR141 (frm_m (S' := (fun a k => (a = m ∧ k = 56) ∨ a = m + 27)) f144 (fun a k q => by omega))
                  refine z_iinc (L' := [_, _, _, _]) dX12_findCouples_141 rfl rfl ?_
                  refine e_goto 7 dX12_findCouples_144 rfl ?_
                  exact mEv_wk (by exact ⟨Or.inr rfl, Or.inr rfl, Or.inl rfl, Or.inl rfl, trivial⟩) (ih9 _ (by omega) (k + 1) h142 rfl k145 H146 H147 H148 FR149 (by omega) ((show rI h142 m 56 = ((suC g (sC σ y) k) + 1) from (rI_eq e143 ⟨by omega, by omega⟩)).trans (suC_1 (by omega) sp).symm) (fun e a c z => by
                              by_cases q : e = k
                              · rw [q]; exact ((frm_r f144 (by omega)).trans (rI_eq e135 ⟨by omega, by omega⟩))
                              · have w := suC_lt a z (show e < k by omega)
                                have w2 := suC_b g (sC σ y) a
                                exact (((frm_r f144 (by omega)).trans (frm_r f136 (by omega)))).trans (I3 e a (by omega) z)))
              · skip
                have jb := J3 (by omega)
                have jb1 := jb.1
                refine e_aload_n dX12_findCouples_55 rfl ?_
                refine e_aload_n dX12_findCouples_56 rfl ?_
                refine e_iload_n dX12_findCouples_57 rfl ?_
                refine z_iconst (0) dX12_findCouples_58 rfl ?_
                refine e_callV [.int _, .int _] dX12_findCouples_59 tm_12_511 rfl (Nat.le_of_ble_eq_true rfl) (rk_s k10) (Nat.le_of_ble_eq_true rfl) (Nat.le_refl _) (Nat.le_refl _) rfl (zp_X12_clueOf k10 H11 H13 i ⟨by omega, by omega⟩ 0 ⟨by omega, by omega⟩ (by omega) (by omega) (by omega) (by omega) (by omega) ?_)
                have e0 : (sC σ y (1 + 3 * i + 0)) = ysr (sC σ y) i := congrArg (sC σ y) (by omega)
                have eb := wk.2 i (by omega) (by omega)
                refine e_iload_n dX12_findCouples_62 rfl ?_
                refine z_bipush (6) dX12_findCouples_63 rfl ?_
                refine z_idiv dX12_findCouples_65 (by omega) (by omega) (by omega) (by omega) ?_
                refine e_iload_n dX12_findCouples_66 rfl ?_
                refine z_bipush (6) dX12_findCouples_67 rfl ?_
                refine z_irem dX12_findCouples_69 (by omega) (by omega) (by omega) (by omega) ?_
                refine e_callV [.int _, .int _, .int _] dX12_findCouples_70 tm_12_517 rfl (Nat.le_of_ble_eq_true rfl) (rk_s k10) (Nat.le_of_ble_eq_true rfl) (Nat.le_refl _) (Nat.le_refl _) rfl (zp_X12_tells k10 H12 (sC σ y (1 + 3 * i + 0)) ⟨by omega, by omega⟩ (k / 6) ⟨by omega, by omega⟩ (k % 6) ⟨by omega, by omega⟩ (by omega) (by omega) (by omega) ?_)
                have y150 := ms2_b (rB_w H12) (sC σ y (1 + 3 * i + 0)) (show 0 ≤ (k / 6) ∧ (k / 6) < nd g by omega) (show 0 ≤ (k % 6) ∧ (k % 6) < nu g by omega)
                refine e_aload_n dX12_findCouples_73 rfl ?_
                refine e_iload_n dX12_findCouples_74 rfl ?_
                refine z_iconst (1) dX12_findCouples_75 rfl ?_
                refine e_callV [.int _, .int _] dX12_findCouples_76 tm_12_511 rfl (Nat.le_of_ble_eq_true rfl) (rk_s k10) (Nat.le_of_ble_eq_true rfl) (Nat.le_refl _) (Nat.le_refl _) rfl (zp_X12_clueOf k10 H11 H13 i ⟨by omega, by omega⟩ 1 ⟨by omega, by omega⟩ (by omega) (by omega) (by omega) (by omega) (by omega) ?_)
                have e1 : (sC σ y (1 + 3 * i + 1)) = yfi (sC σ y) i := congrArg (sC σ y) (by omega)
                refine z_icmp_ne 86 dX12_findCouples_79 rfl ⟨by omega, by omega⟩ ⟨by omega, by omega⟩ (fun c151 => ?_) (fun c151 => ?_)
                · skip
                  refine z_iconst (0) dX12_findCouples_86 rfl ?_
                  refine e_aload_n dX12_findCouples_87 rfl ?_
                  refine e_iload_n dX12_findCouples_88 rfl ?_
                  refine z_iconst (2) dX12_findCouples_89 rfl ?_
                  refine e_callV [.int _, .int _] dX12_findCouples_90 tm_12_511 rfl (Nat.le_of_ble_eq_true rfl) (rk_s k10) (Nat.le_of_ble_eq_true rfl) (Nat.le_refl _) (Nat.le_refl _) rfl (zp_X12_clueOf k10 H11 H13 i ⟨by omega, by omega⟩ 2 ⟨by omega, by omega⟩ (by omega) (by omega) (by omega) (by omega) (by omega) ?_)
                  have e2 : (sC σ y (1 + 3 * i + 2)) = yse (sC σ y) i := congrArg (sC σ y) (by omega)
                  refine z_iconst (1) dX12_findCouples_93 rfl ?_
                  refine z_icmp_ne 101 dX12_findCouples_94 rfl ⟨by omega, by omega⟩ ⟨by omega, by omega⟩ (fun c152 => ?_) (fun c152 => ?_)
                  · skip
                    refine z_iconst (0) dX12_findCouples_101 rfl ?_
                    refine z_icmp_ne 109 dX12_findCouples_102 rfl ⟨by omega, by omega⟩ ⟨by omega, by omega⟩ (fun c153 => ?_) (fun c153 => ?_)
                    · exfalso; omega
                    · skip
                      refine z_iconst (1) dX12_findCouples_105 rfl ?_
                      refine e_goto 110 dX12_findCouples_106 rfl ?_
                      refine e_istore_n (L' := [_, _, _, _]) dX12_findCouples_110 (Nat.le_of_ble_eq_true rfl) rfl ?_
                      refine z_iinc (L' := [_, _, _, _]) dX12_findCouples_111 rfl rfl ?_
                      refine e_goto 43 dX12_findCouples_114 rfl ?_
                      exact ih112 _ (by omega) 1 (i + 1)  rfl  (by omega) (by omega) (by first | exact (fun z => by omega) | exact (fun _ => ⟨jb.1, fun e a c => by
                                by_cases q : e = i
                                · rw [q]; show (ms2 g (ysr (sC σ y) i) (k / 6) (k % 6) = yfi (sC σ y) i ↔ yse (sC σ y) i = 1); rw [← e0]; exact ⟨fun _ => by omega, fun _ => by omega⟩
                                · exact jb.2 e a (by omega)⟩)) (by first | exact (fun z => by omega) | exact (fun _ => (fun z => by
                                have z : ms2 g (ysr (sC σ y) i) (k / 6) (k % 6) = yfi (sC σ y) i ↔ yse (sC σ y) i = 1 := (allN_i.mp z.2) i (by omega) (by omega)
                                rw [← e0] at z; omega)))
                  · skip
                    refine z_iconst (1) dX12_findCouples_97 rfl ?_
                    refine e_goto 102 dX12_findCouples_98 rfl ?_
                    refine z_icmp_ne 109 dX12_findCouples_102 rfl ⟨by omega, by omega⟩ ⟨by omega, by omega⟩ (fun c154 => ?_) (fun c154 => ?_)
                    · skip
                      refine z_iconst (0) dX12_findCouples_109 rfl ?_
                      refine e_istore_n (L' := [_, _, _, _]) dX12_findCouples_110 (Nat.le_of_ble_eq_true rfl) rfl ?_
                      refine z_iinc (L' := [_, _, _, _]) dX12_findCouples_111 rfl rfl ?_
                      refine e_goto 43 dX12_findCouples_114 rfl ?_
                      exact ih112 _ (by omega) 0 (i + 1)  rfl  (by omega) (by omega) (by first | exact (fun z => by omega) | exact (fun _ => ⟨jb.1, fun e a c => by
                                by_cases q : e = i
                                · rw [q]; show (ms2 g (ysr (sC σ y) i) (k / 6) (k % 6) = yfi (sC σ y) i ↔ yse (sC σ y) i = 1); rw [← e0]; exact ⟨fun _ => by omega, fun _ => by omega⟩
                                · exact jb.2 e a (by omega)⟩)) (by first | exact (fun z => by omega) | exact (fun _ => (fun z => by
                                have z : ms2 g (ysr (sC σ y) i) (k / 6) (k % 6) = yfi (sC σ y) i ↔ yse (sC σ y) i = 1 := (allN_i.mp z.2) i (by omega) (by omega)
                                rw [← e0] at z; omega)))
                    · exfalso; omega
                · skip
                  refine z_iconst (1) dX12_findCouples_82 rfl ?_
                  refine e_goto 87 dX12_findCouples_83 rfl ?_
                  refine e_aload_n dX12_findCouples_87 rfl ?_
                  refine e_iload_n dX12_findCouples_88 rfl ?_
                  refine z_iconst (2) dX12_findCouples_89 rfl ?_
                  refine e_callV [.int _, .int _] dX12_findCouples_90 tm_12_511 rfl (Nat.le_of_ble_eq_true rfl) (rk_s k10) (Nat.le_of_ble_eq_true rfl) (Nat.le_refl _) (Nat.le_refl _) rfl (zp_X12_clueOf k10 H11 H13 i ⟨by omega, by omega⟩ 2 ⟨by omega, by omega⟩ (by omega) (by omega) (by omega) (by omega) (by omega) ?_)
                  have e2 : (sC σ y (1 + 3 * i + 2)) = yse (sC σ y) i := congrArg (sC σ y) (by omega)
                  refine z_iconst (1) dX12_findCouples_93 rfl ?_
                  refine z_icmp_ne 101 dX12_findCouples_94 rfl ⟨by omega, by omega⟩ ⟨by omega, by omega⟩ (fun c155 => ?_) (fun c155 => ?_)
                  · skip
                    refine z_iconst (0) dX12_findCouples_101 rfl ?_
                    refine z_icmp_ne 109 dX12_findCouples_102 rfl ⟨by omega, by omega⟩ ⟨by omega, by omega⟩ (fun c156 => ?_) (fun c156 => ?_)
                    · skip
                      refine z_iconst (0) dX12_findCouples_109 rfl ?_
                      refine e_istore_n (L' := [_, _, _, _]) dX12_findCouples_110 (Nat.le_of_ble_eq_true rfl) rfl ?_
                      refine z_iinc (L' := [_, _, _, _]) dX12_findCouples_111 rfl rfl ?_
                      refine e_goto 43 dX12_findCouples_114 rfl ?_
                      exact ih112 _ (by omega) 0 (i + 1)  rfl  (by omega) (by omega) (by first | exact (fun z => by omega) | exact (fun _ => ⟨jb.1, fun e a c => by
                                by_cases q : e = i
                                · rw [q]; show (ms2 g (ysr (sC σ y) i) (k / 6) (k % 6) = yfi (sC σ y) i ↔ yse (sC σ y) i = 1); rw [← e0]; exact ⟨fun _ => by omega, fun _ => by omega⟩
                                · exact jb.2 e a (by omega)⟩)) (by first | exact (fun z => by omega) | exact (fun _ => (fun z => by
                                have z : ms2 g (ysr (sC σ y) i) (k / 6) (k % 6) = yfi (sC σ y) i ↔ yse (sC σ y) i = 1 := (allN_i.mp z.2) i (by omega) (by omega)
                                rw [← e0] at z; omega)))
                    · exfalso; omega
                  · skip
                    refine z_iconst (1) dX12_findCouples_97 rfl ?_
                    refine e_goto 102 dX12_findCouples_98 rfl ?_
                    refine z_icmp_ne 109 dX12_findCouples_102 rfl ⟨by omega, by omega⟩ ⟨by omega, by omega⟩ (fun c157 => ?_) (fun c157 => ?_)
                    · exfalso; omega
                    · skip
                      refine z_iconst (1) dX12_findCouples_105 rfl ?_
                      refine e_goto 110 dX12_findCouples_106 rfl ?_
                      refine e_istore_n (L' := [_, _, _, _]) dX12_findCouples_110 (Nat.le_of_ble_eq_true rfl) rfl ?_
                      refine z_iinc (L' := [_, _, _, _]) dX12_findCouples_111 rfl rfl ?_
                      refine e_goto 43 dX12_findCouples_114 rfl ?_
                      exact ih112 _ (by omega) 1 (i + 1)  rfl  (by omega) (by omega) (by first | exact (fun z => by omega) | exact (fun _ => ⟨jb.1, fun e a c => by
                                by_cases q : e = i
                                · rw [q]; show (ms2 g (ysr (sC σ y) i) (k / 6) (k % 6) = yfi (sC σ y) i ↔ yse (sC σ y) i = 1); rw [← e0]; exact ⟨fun _ => by omega, fun _ => by omega⟩
                                · exact jb.2 e a (by omega)⟩)) (by first | exact (fun z => by omega) | exact (fun _ => (fun z => by
                                have z : ms2 g (ysr (sC σ y) i) (k / 6) (k % 6) = yfi (sC σ y) i ↔ yse (sC σ y) i = 1 := (allN_i.mp z.2) i (by omega) (by omega)
                                rw [← e0] at z; omega)))
          exact lp112 _ 1 0  rfl  (by omega) (by omega) (by first | exact (fun _ => ⟨⟨by omega, by omega⟩, fun e a c => by omega⟩) | exact (fun z => by omega)) (by first | exact (fun z => by omega) | exact (fun _ z => by have := z.1; omega))
  exact lp9 _ 0 h1 rfl k4 H5 H6 H7 FR8 (by omega) (show rI h1 m 56 = 0 from (rI_eq e2 ⟨by omega, by omega⟩)) (fun e a c => by omega)
theorem ak_lst {g K : Int → Int} {s n : Int} : sumZ (fun i => bZ (n = msK g s (nthZ g K i))) (suC g K 36).toNat = akZ g K s n := by
  have h := lst_sum (g := g) (K := K) (fun e => bZ (n = msK g s e)) 36 (Nat.le_refl _)
  refine h.trans (sumZ_e (fun i a c => ?_))
  by_cases p : suP g K i
  · rw [if_pos p]; exact bZ_iff ⟨fun q => ⟨p, q.symm⟩, fun q => q.2.symm⟩
  · rw [if_neg p, bZ_0 (fun q => p q.1)]
set_option maxHeartbeats 2000000 in
theorem zp_X12_alike {ad : mA} {dd : Nat} {h : mH} {Q : mQ} {m : Nat} {g K : Int → Int} (hk : rk h m) (HB : rB h m g) (HH : rCo h m g K)  (s : Int) (s_r : -2147483648 ≤ s ∧ s < 2147483648) (p3 : 0 ≤ s ∧ s ≤ 3) (kq : Q (some (.int (zI (alZ g K s)))) h) : mCal TB0 ad (dd + 3) M_X12_alike [.ref m, .int (zI s)] h 0 0 Q := by
  refine ⟨Nat.le_of_ble_eq_true rfl, ?_⟩
  show mEv TB0 ad M_X12_alike (dd + 3) (0, 0) (mCal TB0 ad (dd + 2)) (fun v h' z => z.1 = 0 ∧ Q v h') 0 [some (.ref m), some (.int (zI s)), none, none, none, none] [] h (0, 0)
  have w1 := rB_n HB
  have w2 := rB_nd HB
  have w3 := rB_nu HB
  refine z_iconst (0) dX12_alike_0 rfl ?_
  refine e_istore_n (L' := [_, _, _, _, _, _]) dX12_alike_1 (Nat.le_of_ble_eq_true rfl) rfl ?_
  refine z_iconst (0) dX12_alike_2 rfl ?_
  refine e_istore_n (L' := [_, _, _, _, _, _]) dX12_alike_3 (Nat.le_of_ble_eq_true rfl) rfl ?_
  have lp1 : ∀ (n1 : Nat) (t k : Int), (suC g K 36 - k).toNat = n1 → (0 ≤ k ∧ k ≤ suC g K 36) → (0 ≤ t ∧ t ≤ 36) → (t = mxQ (fun _ => True) (fun i => alF g K s (nthZ g K i)) k.toNat) → mEv TB0 ad M_X12_alike (dd + 3) (0, 0) (mCal TB0 ad (dd + 2)) (fun v h' z => z.1 = 0 ∧ Q v h') 4 [some (.ref m), some (.int (zI s)), some (.int (zI t)), some (.int (zI k)), none, none] [] h (0, 0) := by
    intro n1
    induction n1 using Nat.strongRecOn with
    | ind n1 ih1 =>
    intro t k  hn1  I1 I2 I3
    refine e_iload_n dX12_alike_4 rfl ?_
    have sb := suC_b g K (show (0 : Int) ≤ 36 by omega)
    refine e_aload_n dX12_alike_5 rfl ?_
    refine z_get (suC g K 36) dX12_alike_6 tf_12_514 (rk_s hk) (Or.inl rfl) HH.1 ?_
    have y2 := suC_b g K (show (0 : Int) ≤ 36 by omega)
    refine z_icmp_ge 107 dX12_alike_9 rfl ⟨by omega, by omega⟩ ⟨by omega, by omega⟩ (fun c3 => ?_) (fun c3 => ?_)
    · skip
      refine e_iload_n dX12_alike_107 rfl ?_
      refine z_iret dX12_alike_108 rfl ⟨rfl, ?_⟩
      refine z_q kq ?_
      rw [I3, show k = suC g K 36 by omega]; exact lst_max (alF g K s) 36 (Nat.le_refl _)
    · skip
      refine z_iconst (0) dX12_alike_12 rfl ?_
      refine e_istore (L' := [_, _, _, _, _, _]) dX12_alike_13 (Nat.le_of_ble_eq_true rfl) rfl ?_
      refine z_iconst (0) dX12_alike_15 rfl ?_
      refine e_istore (L' := [_, _, _, _, _, _]) dX12_alike_16 (Nat.le_of_ble_eq_true rfl) rfl ?_
      have lp4 : ∀ (n4 : Nat) (n i : Int), (suC g K 36 - i).toNat = n4 → (0 ≤ i ∧ i ≤ suC g K 36) → (0 ≤ n ∧ n ≤ i) → (n = sumZ (fun i => bZ (msK g s (nthZ g K k) = msK g s (nthZ g K i))) i.toNat) → mEv TB0 ad M_X12_alike (dd + 3) (0, 0) (mCal TB0 ad (dd + 2)) (fun v h' z => z.1 = 0 ∧ Q v h') 18 [some (.ref m), some (.int (zI s)), some (.int (zI t)), some (.int (zI k)), some (.int (zI n)), some (.int (zI i))] [] h (0, 0) := by
        intro n4
        induction n4 using Nat.strongRecOn with
        | ind n4 ih4 =>
        intro n i  hn4  J1 J2 J3
        refine e_iload dX12_alike_18 rfl ?_
        refine e_aload_n dX12_alike_20 rfl ?_
        refine z_get (suC g K 36) dX12_alike_21 tf_12_514 (rk_s hk) (Or.inl rfl) HH.1 ?_
        have y5 := suC_b g K (show (0 : Int) ≤ 36 by omega)
        refine z_icmp_ge 94 dX12_alike_24 rfl ⟨by omega, by omega⟩ ⟨by omega, by omega⟩ (fun c6 => ?_) (fun c6 => ?_)
        · skip
          refine e_iload_n dX12_alike_94 rfl ?_
          refine e_iload dX12_alike_95 rfl ?_
          refine e_callS [.int _, .int _] dX12_alike_97 tm_12_176 rfl (Nat.le_of_ble_eq_true rfl) (Nat.le_refl _) (Nat.le_refl _) rfl (zp_X12_greater t ⟨by omega, by omega⟩ n ⟨by omega, by omega⟩ ?_)
          refine e_istore_n (L' := [_, _, _, _, _, _]) dX12_alike_100 (Nat.le_of_ble_eq_true rfl) rfl ?_
          refine z_iinc (L' := [_, _, _, _, _, _]) dX12_alike_101 rfl rfl ?_
          refine e_goto 4 dX12_alike_104 rfl ?_
          have ea : n = alF g K s (nthZ g K k) := (by rw [J3, show i = suC g K 36 by omega]; exact ak_lst)
          have eb := akZ_b g K s (msK g s (nthZ g K k))
          have eb : 0 ≤ alF g K s (nthZ g K k) ∧ alF g K s (nthZ g K k) ≤ 36 := eb
          exact mEv_wk (by exact ⟨Or.inr rfl, Or.inr rfl, Or.inr rfl, Or.inr rfl, Or.inl rfl, Or.inl rfl, trivial⟩) (ih1 _ (by omega) (max t n) (k + 1)  rfl  (by omega) (by omega) (by rw [mxQ_1 (by omega) trivial, ← I3, ← ea]))
        · skip
          refine e_iload dX12_alike_27 rfl ?_
          have n1 := (nth_p g K (k := k) (by omega) (by omega))
          have n2 := (nth_p g K (k := i) (by omega) (by omega))
          have n3 := n1.2.1.1
          have n4 := n2.2.1.1
          have n5 := n1.1
          have n6 := n2.1
          refine e_aload_n dX12_alike_29 rfl ?_
          refine e_iload_n dX12_alike_30 rfl ?_
          refine e_aload_n dX12_alike_31 rfl ?_
          refine e_get (.ref (m + 27)) dX12_alike_32 tf_12_91 (rk_s hk) (congrArg va_rf (rk_r27 hk)) ?_
          refine e_iload_n dX12_alike_35 rfl ?_
          refine z_ild (nthZ g K k) dX12_alike_36 (rk_a27 hk) (by decide) (by omega) (by omega) (rCo_n HH (by omega) (by omega)) ?_
          have y7 := (nth_p g K (show 0 ≤ k by omega) (by omega)).1
          refine z_bipush (6) dX12_alike_37 rfl ?_
          refine z_idiv dX12_alike_39 (by omega) (by omega) (by omega) (by omega) ?_
          refine e_aload_n dX12_alike_40 rfl ?_
          refine e_get (.ref (m + 27)) dX12_alike_41 tf_12_91 (rk_s hk) (congrArg va_rf (rk_r27 hk)) ?_
          refine e_iload_n dX12_alike_44 rfl ?_
          refine z_ild (nthZ g K k) dX12_alike_45 (rk_a27 hk) (by decide) (by omega) (by omega) (rCo_n HH (by omega) (by omega)) ?_
          have y8 := (nth_p g K (show 0 ≤ k by omega) (by omega)).1
          refine z_bipush (6) dX12_alike_46 rfl ?_
          refine z_irem dX12_alike_48 (by omega) (by omega) (by omega) (by omega) ?_
          refine e_callV [.int _, .int _, .int _] dX12_alike_49 tm_12_517 rfl (Nat.le_of_ble_eq_true rfl) (rk_s hk) (Nat.le_of_ble_eq_true rfl) (Nat.le_refl _) (Nat.le_refl _) rfl (zp_X12_tells hk HB s ⟨by omega, by omega⟩ ((nthZ g K k) / 6) ⟨by omega, by omega⟩ ((nthZ g K k) % 6) ⟨by omega, by omega⟩ (by omega) (by omega) (by omega) ?_)
          have y9 := ms2_b (rB_w HB) s (show 0 ≤ ((nthZ g K k) / 6) ∧ ((nthZ g K k) / 6) < nd g by omega) (show 0 ≤ ((nthZ g K k) % 6) ∧ ((nthZ g K k) % 6) < nu g by omega)
          refine e_aload_n dX12_alike_52 rfl ?_
          refine e_iload_n dX12_alike_53 rfl ?_
          refine e_aload_n dX12_alike_54 rfl ?_
          refine e_get (.ref (m + 27)) dX12_alike_55 tf_12_91 (rk_s hk) (congrArg va_rf (rk_r27 hk)) ?_
          refine e_iload dX12_alike_58 rfl ?_
          refine z_ild (nthZ g K i) dX12_alike_60 (rk_a27 hk) (by decide) (by omega) (by omega) (rCo_n HH (by omega) (by omega)) ?_
          have y10 := (nth_p g K (show 0 ≤ i by omega) (by omega)).1
          refine z_bipush (6) dX12_alike_61 rfl ?_
          refine z_idiv dX12_alike_63 (by omega) (by omega) (by omega) (by omega) ?_
          refine e_aload_n dX12_alike_64 rfl ?_
          refine e_get (.ref (m + 27)) dX12_alike_65 tf_12_91 (rk_s hk) (congrArg va_rf (rk_r27 hk)) ?_
          refine e_iload dX12_alike_68 rfl ?_
          refine z_ild (nthZ g K i) dX12_alike_70 (rk_a27 hk) (by decide) (by omega) (by omega) (rCo_n HH (by omega) (by omega)) ?_
          have y11 := (nth_p g K (show 0 ≤ i by omega) (by omega)).1
          refine z_bipush (6) dX12_alike_71 rfl ?_
          refine z_irem dX12_alike_73 (by omega) (by omega) (by omega) (by omega) ?_
          refine e_callV [.int _, .int _, .int _] dX12_alike_74 tm_12_517 rfl (Nat.le_of_ble_eq_true rfl) (rk_s hk) (Nat.le_of_ble_eq_true rfl) (Nat.le_refl _) (Nat.le_refl _) rfl (zp_X12_tells hk HB s ⟨by omega, by omega⟩ ((nthZ g K i) / 6) ⟨by omega, by omega⟩ ((nthZ g K i) % 6) ⟨by omega, by omega⟩ (by omega) (by omega) (by omega) ?_)
          have y12 := ms2_b (rB_w HB) s (show 0 ≤ ((nthZ g K i) / 6) ∧ ((nthZ g K i) / 6) < nd g by omega) (show 0 ≤ ((nthZ g K i) % 6) ∧ ((nthZ g K i) % 6) < nu g by omega)
          refine z_icmp_ne 84 dX12_alike_77 rfl ⟨by omega, by omega⟩ ⟨by omega, by omega⟩ (fun c13 => ?_) (fun c13 => ?_)
          · skip
            refine z_iconst (0) dX12_alike_84 rfl ?_
            refine z_iadd dX12_alike_85 ?_
            refine e_istore (L' := [_, _, _, _, _, _]) dX12_alike_86 (Nat.le_of_ble_eq_true rfl) rfl ?_
            refine z_iinc (L' := [_, _, _, _, _, _]) dX12_alike_88 rfl rfl ?_
            refine e_goto 18 dX12_alike_91 rfl ?_
            exact ih4 _ (by omega) (n + 0) (i + 1)  rfl  (by omega) (by omega) (by rw [sumZ_s (by omega)]; first | (rw [bZ_1 (by show ms2 _ _ _ _ = ms2 _ _ _ _; assumption)]; omega) | (rw [bZ_0 (by show ¬ (ms2 _ _ _ _ = ms2 _ _ _ _); assumption)]; omega))
          · skip
            refine z_iconst (1) dX12_alike_80 rfl ?_
            refine e_goto 85 dX12_alike_81 rfl ?_
            refine z_iadd dX12_alike_85 ?_
            refine e_istore (L' := [_, _, _, _, _, _]) dX12_alike_86 (Nat.le_of_ble_eq_true rfl) rfl ?_
            refine z_iinc (L' := [_, _, _, _, _, _]) dX12_alike_88 rfl rfl ?_
            refine e_goto 18 dX12_alike_91 rfl ?_
            exact ih4 _ (by omega) (n + 1) (i + 1)  rfl  (by omega) (by omega) (by rw [sumZ_s (by omega)]; first | (rw [bZ_1 (by show ms2 _ _ _ _ = ms2 _ _ _ _; assumption)]; omega) | (rw [bZ_0 (by show ¬ (ms2 _ _ _ _ = ms2 _ _ _ _); assumption)]; omega))
      exact lp4 _ 0 0  rfl  (⟨by omega, (suC_b g K (by omega)).1⟩) (by omega) rfl
  exact lp1 _ 0 0  rfl  (⟨by omega, (suC_b g K (by omega)).1⟩) (by omega) rfl
set_option maxHeartbeats 400000 in
theorem zp_X12_sureOf {ad : mA} {dd : Nat} {h : mH} {Q : mQ} {m : Nat} {g K : Int → Int} (hk : rk h m) (HH : rCo h m g K)  (p : Prop) [Decidable p]  (kq : ∀ v : Int, (srR (suP g K) (fun k => if p then k % 6 else k / 6) 36 v) → Q (some (.int (zI v))) h) : mCal TB0 ad (dd + 1) M_X12_sureOf [.ref m, .int (zI (bZ p))] h 0 0 Q := by
  refine ⟨Nat.le_of_ble_eq_true rfl, ?_⟩
  show mEv TB0 ad M_X12_sureOf (dd + 1) (0, 0) (mCal TB0 ad (dd + 0)) (fun v h' z => z.1 = 0 ∧ Q v h') 0 [some (.ref m), some (.int (zI (bZ p))), none, none] [] h (0, 0)
  have sb := suC_b g K (show (0 : Int) ≤ 36 by omega)
  refine e_aload_n dX12_sureOf_0 rfl ?_
  refine z_get (suC g K 36) dX12_sureOf_1 tf_12_514 (rk_s hk) (Or.inl rfl) HH.1 ?_
  have y1 := suC_b g K (show (0 : Int) ≤ 36 by omega)
  refine z_if_ne 11 dX12_sureOf_4 rfl ⟨by omega, by omega⟩ (fun c2 => ?_) (fun c2 => ?_)
  · skip
    refine e_iload_n dX12_sureOf_11 rfl ?_
    refine z_ifb_eq 27 dX12_sureOf_12 rfl (fun c3 => ?_) (fun c3 => ?_)
    · skip
      refine e_aload_n dX12_sureOf_27 rfl ?_
      refine e_get (.ref (m + 27)) dX12_sureOf_28 tf_12_91 (rk_s hk) (congrArg va_rf (rk_r27 hk)) ?_
      refine z_iconst (0) dX12_sureOf_31 rfl ?_
      refine z_ild (nthZ g K 0) dX12_sureOf_32 (rk_a27 hk) (by decide) (by omega) (by omega) (rCo_n HH (by omega) (by omega)) ?_
      have y4 := (nth_p g K (show 0 ≤ 0 by omega) (by omega)).1
      refine z_bipush (6) dX12_sureOf_33 rfl ?_
      refine z_idiv dX12_sureOf_35 (by omega) (by omega) (by omega) (by omega) ?_
      refine e_istore_n (L' := [_, _, _, _]) dX12_sureOf_36 (Nat.le_of_ble_eq_true rfl) rfl ?_
      refine z_iconst (1) dX12_sureOf_37 rfl ?_
      refine e_istore_n (L' := [_, _, _, _]) dX12_sureOf_38 (Nat.le_of_ble_eq_true rfl) rfl ?_
      have lp5 : ∀ (n5 : Nat) (s k : Int), (suC g K 36 - k).toNat = n5 → (1 ≤ k ∧ (k ≤ suC g K 36 ∨ k = 1)) → (s ≤ 36) → (slI g K (fun k => if p then k % 6 else k / 6) k s) → mEv TB0 ad M_X12_sureOf (dd + 1) (0, 0) (mCal TB0 ad (dd + 0)) (fun v h' z => z.1 = 0 ∧ Q v h') 39 [some (.ref m), some (.int (zI (bZ p))), some (.int (zI s)), some (.int (zI k))] [] h (0, 0) := by
        intro n5
        induction n5 using Nat.strongRecOn with
        | ind n5 ih5 =>
        intro s k  hn5  I1 I2 I3
        refine e_iload_n dX12_sureOf_39 rfl ?_
        have ib := slI_b I3
        refine e_aload_n dX12_sureOf_40 rfl ?_
        refine z_get (suC g K 36) dX12_sureOf_41 tf_12_514 (rk_s hk) (Or.inl rfl) HH.1 ?_
        have y6 := suC_b g K (show (0 : Int) ≤ 36 by omega)
        refine z_icmp_ge 88 dX12_sureOf_44 rfl ⟨by omega, by omega⟩ ⟨by omega, by omega⟩ (fun c7 => ?_) (fun c7 => ?_)
        · skip
          refine e_iload_n dX12_sureOf_88 rfl ?_
          refine z_iret dX12_sureOf_89 rfl ⟨rfl, ?_⟩
          refine kq _ ?_
          exact slI_f I3 (by omega)
        · skip
          refine e_iload_n dX12_sureOf_47 rfl ?_
          refine z_ifb_eq 63 dX12_sureOf_48 rfl (fun c8 => ?_) (fun c8 => ?_)
          · skip
            refine e_aload_n dX12_sureOf_63 rfl ?_
            refine e_get (.ref (m + 27)) dX12_sureOf_64 tf_12_91 (rk_s hk) (congrArg va_rf (rk_r27 hk)) ?_
            refine e_iload_n dX12_sureOf_67 rfl ?_
            refine z_ild (nthZ g K k) dX12_sureOf_68 (rk_a27 hk) (by decide) (by omega) (by omega) (rCo_n HH (by omega) (by omega)) ?_
            have y9 := (nth_p g K (show 0 ≤ k by omega) (by omega)).1
            refine z_bipush (6) dX12_sureOf_69 rfl ?_
            refine z_idiv dX12_sureOf_71 (by omega) (by omega) (by omega) (by omega) ?_
            refine e_iload_n dX12_sureOf_72 rfl ?_
            refine z_icmp_ne 80 dX12_sureOf_73 rfl ⟨by omega, by omega⟩ ⟨by omega, by omega⟩ (fun c10 => ?_) (fun c10 => ?_)
            · skip
              refine z_iconst (-1) dX12_sureOf_80 rfl ?_
              refine e_istore_n (L' := [_, _, _, _]) dX12_sureOf_81 (Nat.le_of_ble_eq_true rfl) rfl ?_
              refine z_iinc (L' := [_, _, _, _]) dX12_sureOf_82 rfl rfl ?_
              refine e_goto 39 dX12_sureOf_85 rfl ?_
              exact ih5 _ (by omega) (-1) (k + 1)  rfl  (by omega) (by omega) (by first | exact slI_y I3 (by omega) (by first | (rw [if_pos (by assumption)]; omega) | (rw [if_neg (by assumption)]; omega)) | exact slI_n I3 (by omega) (by first | (rw [if_pos (by assumption)]; omega) | (rw [if_neg (by assumption)]; omega)))
            · skip
              refine e_iload_n dX12_sureOf_76 rfl ?_
              refine e_goto 81 dX12_sureOf_77 rfl ?_
              refine e_istore_n (L' := [_, _, _, _]) dX12_sureOf_81 (Nat.le_of_ble_eq_true rfl) rfl ?_
              refine z_iinc (L' := [_, _, _, _]) dX12_sureOf_82 rfl rfl ?_
              refine e_goto 39 dX12_sureOf_85 rfl ?_
              exact ih5 _ (by omega) s (k + 1)  rfl  (by omega) (by omega) (by first | exact slI_y I3 (by omega) (by first | (rw [if_pos (by assumption)]; omega) | (rw [if_neg (by assumption)]; omega)) | exact slI_n I3 (by omega) (by first | (rw [if_pos (by assumption)]; omega) | (rw [if_neg (by assumption)]; omega)))
          · skip
            refine e_aload_n dX12_sureOf_51 rfl ?_
            refine e_get (.ref (m + 27)) dX12_sureOf_52 tf_12_91 (rk_s hk) (congrArg va_rf (rk_r27 hk)) ?_
            refine e_iload_n dX12_sureOf_55 rfl ?_
            refine z_ild (nthZ g K k) dX12_sureOf_56 (rk_a27 hk) (by decide) (by omega) (by omega) (rCo_n HH (by omega) (by omega)) ?_
            have y11 := (nth_p g K (show 0 ≤ k by omega) (by omega)).1
            refine z_bipush (6) dX12_sureOf_57 rfl ?_
            refine z_irem dX12_sureOf_59 (by omega) (by omega) (by omega) (by omega) ?_
            refine e_goto 72 dX12_sureOf_60 rfl ?_
            refine e_iload_n dX12_sureOf_72 rfl ?_
            refine z_icmp_ne 80 dX12_sureOf_73 rfl ⟨by omega, by omega⟩ ⟨by omega, by omega⟩ (fun c12 => ?_) (fun c12 => ?_)
            · skip
              refine z_iconst (-1) dX12_sureOf_80 rfl ?_
              refine e_istore_n (L' := [_, _, _, _]) dX12_sureOf_81 (Nat.le_of_ble_eq_true rfl) rfl ?_
              refine z_iinc (L' := [_, _, _, _]) dX12_sureOf_82 rfl rfl ?_
              refine e_goto 39 dX12_sureOf_85 rfl ?_
              exact ih5 _ (by omega) (-1) (k + 1)  rfl  (by omega) (by omega) (by first | exact slI_y I3 (by omega) (by first | (rw [if_pos (by assumption)]; omega) | (rw [if_neg (by assumption)]; omega)) | exact slI_n I3 (by omega) (by first | (rw [if_pos (by assumption)]; omega) | (rw [if_neg (by assumption)]; omega)))
            · skip
              refine e_iload_n dX12_sureOf_76 rfl ?_
              refine e_goto 81 dX12_sureOf_77 rfl ?_
              refine e_istore_n (L' := [_, _, _, _]) dX12_sureOf_81 (Nat.le_of_ble_eq_true rfl) rfl ?_
              refine z_iinc (L' := [_, _, _, _]) dX12_sureOf_82 rfl rfl ?_
              refine e_goto 39 dX12_sureOf_85 rfl ?_
              exact ih5 _ (by omega) s (k + 1)  rfl  (by omega) (by omega) (by first | exact slI_y I3 (by omega) (by first | (rw [if_pos (by assumption)]; omega) | (rw [if_neg (by assumption)]; omega)) | exact slI_n I3 (by omega) (by first | (rw [if_pos (by assumption)]; omega) | (rw [if_neg (by assumption)]; omega)))
      exact lp5 _ ((nthZ g K 0) / 6) 1  rfl  (by omega) (by omega) (by first | exact Or.inl ⟨by omega, rfl⟩ | (have e : (fun k => if p then k % 6 else k / 6) (nthZ g K 0) = nthZ g K 0 % 6 := (if_pos (by assumption)); rw [← e]; exact slI_1 (by omega) (by first | (rw [if_pos (by assumption)]; omega) | (rw [if_neg (by assumption)]; omega))) | (have e : (fun k => if p then k % 6 else k / 6) (nthZ g K 0) = nthZ g K 0 / 6 := (if_neg (by assumption)); rw [← e]; exact slI_1 (by omega) (by first | (rw [if_pos (by assumption)]; omega) | (rw [if_neg (by assumption)]; omega))))
    · skip
      refine e_aload_n dX12_sureOf_15 rfl ?_
      refine e_get (.ref (m + 27)) dX12_sureOf_16 tf_12_91 (rk_s hk) (congrArg va_rf (rk_r27 hk)) ?_
      refine z_iconst (0) dX12_sureOf_19 rfl ?_
      refine z_ild (nthZ g K 0) dX12_sureOf_20 (rk_a27 hk) (by decide) (by omega) (by omega) (rCo_n HH (by omega) (by omega)) ?_
      have y13 := (nth_p g K (show 0 ≤ 0 by omega) (by omega)).1
      refine z_bipush (6) dX12_sureOf_21 rfl ?_
      refine z_irem dX12_sureOf_23 (by omega) (by omega) (by omega) (by omega) ?_
      refine e_goto 36 dX12_sureOf_24 rfl ?_
      refine e_istore_n (L' := [_, _, _, _]) dX12_sureOf_36 (Nat.le_of_ble_eq_true rfl) rfl ?_
      refine z_iconst (1) dX12_sureOf_37 rfl ?_
      refine e_istore_n (L' := [_, _, _, _]) dX12_sureOf_38 (Nat.le_of_ble_eq_true rfl) rfl ?_
      have lp14 : ∀ (n14 : Nat) (s k : Int), (suC g K 36 - k).toNat = n14 → (1 ≤ k ∧ (k ≤ suC g K 36 ∨ k = 1)) → (s ≤ 36) → (slI g K (fun k => if p then k % 6 else k / 6) k s) → mEv TB0 ad M_X12_sureOf (dd + 1) (0, 0) (mCal TB0 ad (dd + 0)) (fun v h' z => z.1 = 0 ∧ Q v h') 39 [some (.ref m), some (.int (zI (bZ p))), some (.int (zI s)), some (.int (zI k))] [] h (0, 0) := by
        intro n14
        induction n14 using Nat.strongRecOn with
        | ind n14 ih14 =>
        intro s k  hn14  I1 I2 I3
        refine e_iload_n dX12_sureOf_39 rfl ?_
        have ib := slI_b I3
        refine e_aload_n dX12_sureOf_40 rfl ?_
        refine z_get (suC g K 36) dX12_sureOf_41 tf_12_514 (rk_s hk) (Or.inl rfl) HH.1 ?_
        have y15 := suC_b g K (show (0 : Int) ≤ 36 by omega)
        refine z_icmp_ge 88 dX12_sureOf_44 rfl ⟨by omega, by omega⟩ ⟨by omega, by omega⟩ (fun c16 => ?_) (fun c16 => ?_)
        · skip
          refine e_iload_n dX12_sureOf_88 rfl ?_
          refine z_iret dX12_sureOf_89 rfl ⟨rfl, ?_⟩
          refine kq _ ?_
          exact slI_f I3 (by omega)
        · skip
          refine e_iload_n dX12_sureOf_47 rfl ?_
          refine z_ifb_eq 63 dX12_sureOf_48 rfl (fun c17 => ?_) (fun c17 => ?_)
          · skip
            refine e_aload_n dX12_sureOf_63 rfl ?_
            refine e_get (.ref (m + 27)) dX12_sureOf_64 tf_12_91 (rk_s hk) (congrArg va_rf (rk_r27 hk)) ?_
            refine e_iload_n dX12_sureOf_67 rfl ?_
            refine z_ild (nthZ g K k) dX12_sureOf_68 (rk_a27 hk) (by decide) (by omega) (by omega) (rCo_n HH (by omega) (by omega)) ?_
            have y18 := (nth_p g K (show 0 ≤ k by omega) (by omega)).1
            refine z_bipush (6) dX12_sureOf_69 rfl ?_
            refine z_idiv dX12_sureOf_71 (by omega) (by omega) (by omega) (by omega) ?_
            refine e_iload_n dX12_sureOf_72 rfl ?_
            refine z_icmp_ne 80 dX12_sureOf_73 rfl ⟨by omega, by omega⟩ ⟨by omega, by omega⟩ (fun c19 => ?_) (fun c19 => ?_)
            · skip
              refine z_iconst (-1) dX12_sureOf_80 rfl ?_
              refine e_istore_n (L' := [_, _, _, _]) dX12_sureOf_81 (Nat.le_of_ble_eq_true rfl) rfl ?_
              refine z_iinc (L' := [_, _, _, _]) dX12_sureOf_82 rfl rfl ?_
              refine e_goto 39 dX12_sureOf_85 rfl ?_
              exact ih14 _ (by omega) (-1) (k + 1)  rfl  (by omega) (by omega) (by first | exact slI_y I3 (by omega) (by first | (rw [if_pos (by assumption)]; omega) | (rw [if_neg (by assumption)]; omega)) | exact slI_n I3 (by omega) (by first | (rw [if_pos (by assumption)]; omega) | (rw [if_neg (by assumption)]; omega)))
            · skip
              refine e_iload_n dX12_sureOf_76 rfl ?_
              refine e_goto 81 dX12_sureOf_77 rfl ?_
              refine e_istore_n (L' := [_, _, _, _]) dX12_sureOf_81 (Nat.le_of_ble_eq_true rfl) rfl ?_
              refine z_iinc (L' := [_, _, _, _]) dX12_sureOf_82 rfl rfl ?_
              refine e_goto 39 dX12_sureOf_85 rfl ?_
              exact ih14 _ (by omega) s (k + 1)  rfl  (by omega) (by omega) (by first | exact slI_y I3 (by omega) (by first | (rw [if_pos (by assumption)]; omega) | (rw [if_neg (by assumption)]; omega)) | exact slI_n I3 (by omega) (by first | (rw [if_pos (by assumption)]; omega) | (rw [if_neg (by assumption)]; omega)))
          · skip
            refine e_aload_n dX12_sureOf_51 rfl ?_
            refine e_get (.ref (m + 27)) dX12_sureOf_52 tf_12_91 (rk_s hk) (congrArg va_rf (rk_r27 hk)) ?_
            refine e_iload_n dX12_sureOf_55 rfl ?_
            refine z_ild (nthZ g K k) dX12_sureOf_56 (rk_a27 hk) (by decide) (by omega) (by omega) (rCo_n HH (by omega) (by omega)) ?_
            have y20 := (nth_p g K (show 0 ≤ k by omega) (by omega)).1
            refine z_bipush (6) dX12_sureOf_57 rfl ?_
            refine z_irem dX12_sureOf_59 (by omega) (by omega) (by omega) (by omega) ?_
            refine e_goto 72 dX12_sureOf_60 rfl ?_
            refine e_iload_n dX12_sureOf_72 rfl ?_
            refine z_icmp_ne 80 dX12_sureOf_73 rfl ⟨by omega, by omega⟩ ⟨by omega, by omega⟩ (fun c21 => ?_) (fun c21 => ?_)
            · skip
              refine z_iconst (-1) dX12_sureOf_80 rfl ?_
              refine e_istore_n (L' := [_, _, _, _]) dX12_sureOf_81 (Nat.le_of_ble_eq_true rfl) rfl ?_
              refine z_iinc (L' := [_, _, _, _]) dX12_sureOf_82 rfl rfl ?_
              refine e_goto 39 dX12_sureOf_85 rfl ?_
              exact ih14 _ (by omega) (-1) (k + 1)  rfl  (by omega) (by omega) (by first | exact slI_y I3 (by omega) (by first | (rw [if_pos (by assumption)]; omega) | (rw [if_neg (by assumption)]; omega)) | exact slI_n I3 (by omega) (by first | (rw [if_pos (by assumption)]; omega) | (rw [if_neg (by assumption)]; omega)))
            · skip
              refine e_iload_n dX12_sureOf_76 rfl ?_
              refine e_goto 81 dX12_sureOf_77 rfl ?_
              refine e_istore_n (L' := [_, _, _, _]) dX12_sureOf_81 (Nat.le_of_ble_eq_true rfl) rfl ?_
              refine z_iinc (L' := [_, _, _, _]) dX12_sureOf_82 rfl rfl ?_
              refine e_goto 39 dX12_sureOf_85 rfl ?_
              exact ih14 _ (by omega) s (k + 1)  rfl  (by omega) (by omega) (by first | exact slI_y I3 (by omega) (by first | (rw [if_pos (by assumption)]; omega) | (rw [if_neg (by assumption)]; omega)) | exact slI_n I3 (by omega) (by first | (rw [if_pos (by assumption)]; omega) | (rw [if_neg (by assumption)]; omega)))
      exact lp14 _ ((nthZ g K 0) % 6) 1  rfl  (by omega) (by omega) (by first | exact Or.inl ⟨by omega, rfl⟩ | (have e : (fun k => if p then k % 6 else k / 6) (nthZ g K 0) = nthZ g K 0 % 6 := (if_pos (by assumption)); rw [← e]; exact slI_1 (by omega) (by first | (rw [if_pos (by assumption)]; omega) | (rw [if_neg (by assumption)]; omega))) | (have e : (fun k => if p then k % 6 else k / 6) (nthZ g K 0) = nthZ g K 0 / 6 := (if_neg (by assumption)); rw [← e]; exact slI_1 (by omega) (by first | (rw [if_pos (by assumption)]; omega) | (rw [if_neg (by assumption)]; omega))))
  · skip
    refine z_iconst (-1) dX12_sureOf_7 rfl ?_
    refine e_goto 36 dX12_sureOf_8 rfl ?_
    refine e_istore_n (L' := [_, _, _, _]) dX12_sureOf_36 (Nat.le_of_ble_eq_true rfl) rfl ?_
    refine z_iconst (1) dX12_sureOf_37 rfl ?_
    refine e_istore_n (L' := [_, _, _, _]) dX12_sureOf_38 (Nat.le_of_ble_eq_true rfl) rfl ?_
    have lp22 : ∀ (n22 : Nat) (s k : Int), (suC g K 36 - k).toNat = n22 → (1 ≤ k ∧ (k ≤ suC g K 36 ∨ k = 1)) → (s ≤ 36) → (slI g K (fun k => if p then k % 6 else k / 6) k s) → mEv TB0 ad M_X12_sureOf (dd + 1) (0, 0) (mCal TB0 ad (dd + 0)) (fun v h' z => z.1 = 0 ∧ Q v h') 39 [some (.ref m), some (.int (zI (bZ p))), some (.int (zI s)), some (.int (zI k))] [] h (0, 0) := by
      intro n22
      induction n22 using Nat.strongRecOn with
      | ind n22 ih22 =>
      intro s k  hn22  I1 I2 I3
      refine e_iload_n dX12_sureOf_39 rfl ?_
      have ib := slI_b I3
      refine e_aload_n dX12_sureOf_40 rfl ?_
      refine z_get (suC g K 36) dX12_sureOf_41 tf_12_514 (rk_s hk) (Or.inl rfl) HH.1 ?_
      have y23 := suC_b g K (show (0 : Int) ≤ 36 by omega)
      refine z_icmp_ge 88 dX12_sureOf_44 rfl ⟨by omega, by omega⟩ ⟨by omega, by omega⟩ (fun c24 => ?_) (fun c24 => ?_)
      · skip
        refine e_iload_n dX12_sureOf_88 rfl ?_
        refine z_iret dX12_sureOf_89 rfl ⟨rfl, ?_⟩
        refine kq _ ?_
        exact slI_f I3 (by omega)
      · skip
        refine e_iload_n dX12_sureOf_47 rfl ?_
        refine z_ifb_eq 63 dX12_sureOf_48 rfl (fun c25 => ?_) (fun c25 => ?_)
        · skip
          refine e_aload_n dX12_sureOf_63 rfl ?_
          refine e_get (.ref (m + 27)) dX12_sureOf_64 tf_12_91 (rk_s hk) (congrArg va_rf (rk_r27 hk)) ?_
          refine e_iload_n dX12_sureOf_67 rfl ?_
          refine z_ild (nthZ g K k) dX12_sureOf_68 (rk_a27 hk) (by decide) (by omega) (by omega) (rCo_n HH (by omega) (by omega)) ?_
          have y26 := (nth_p g K (show 0 ≤ k by omega) (by omega)).1
          refine z_bipush (6) dX12_sureOf_69 rfl ?_
          refine z_idiv dX12_sureOf_71 (by omega) (by omega) (by omega) (by omega) ?_
          refine e_iload_n dX12_sureOf_72 rfl ?_
          refine z_icmp_ne 80 dX12_sureOf_73 rfl ⟨by omega, by omega⟩ ⟨by omega, by omega⟩ (fun c27 => ?_) (fun c27 => ?_)
          · skip
            refine z_iconst (-1) dX12_sureOf_80 rfl ?_
            refine e_istore_n (L' := [_, _, _, _]) dX12_sureOf_81 (Nat.le_of_ble_eq_true rfl) rfl ?_
            refine z_iinc (L' := [_, _, _, _]) dX12_sureOf_82 rfl rfl ?_
            refine e_goto 39 dX12_sureOf_85 rfl ?_
            exact ih22 _ (by omega) (-1) (k + 1)  rfl  (by omega) (by omega) (by first | exact slI_y I3 (by omega) (by first | (rw [if_pos (by assumption)]; omega) | (rw [if_neg (by assumption)]; omega)) | exact slI_n I3 (by omega) (by first | (rw [if_pos (by assumption)]; omega) | (rw [if_neg (by assumption)]; omega)))
          · skip
            refine e_iload_n dX12_sureOf_76 rfl ?_
            refine e_goto 81 dX12_sureOf_77 rfl ?_
            refine e_istore_n (L' := [_, _, _, _]) dX12_sureOf_81 (Nat.le_of_ble_eq_true rfl) rfl ?_
            refine z_iinc (L' := [_, _, _, _]) dX12_sureOf_82 rfl rfl ?_
            refine e_goto 39 dX12_sureOf_85 rfl ?_
            exact ih22 _ (by omega) s (k + 1)  rfl  (by omega) (by omega) (by first | exact slI_y I3 (by omega) (by first | (rw [if_pos (by assumption)]; omega) | (rw [if_neg (by assumption)]; omega)) | exact slI_n I3 (by omega) (by first | (rw [if_pos (by assumption)]; omega) | (rw [if_neg (by assumption)]; omega)))
        · skip
          refine e_aload_n dX12_sureOf_51 rfl ?_
          refine e_get (.ref (m + 27)) dX12_sureOf_52 tf_12_91 (rk_s hk) (congrArg va_rf (rk_r27 hk)) ?_
          refine e_iload_n dX12_sureOf_55 rfl ?_
          refine z_ild (nthZ g K k) dX12_sureOf_56 (rk_a27 hk) (by decide) (by omega) (by omega) (rCo_n HH (by omega) (by omega)) ?_
          have y28 := (nth_p g K (show 0 ≤ k by omega) (by omega)).1
          refine z_bipush (6) dX12_sureOf_57 rfl ?_
          refine z_irem dX12_sureOf_59 (by omega) (by omega) (by omega) (by omega) ?_
          refine e_goto 72 dX12_sureOf_60 rfl ?_
          refine e_iload_n dX12_sureOf_72 rfl ?_
          refine z_icmp_ne 80 dX12_sureOf_73 rfl ⟨by omega, by omega⟩ ⟨by omega, by omega⟩ (fun c29 => ?_) (fun c29 => ?_)
          · skip
            refine z_iconst (-1) dX12_sureOf_80 rfl ?_
            refine e_istore_n (L' := [_, _, _, _]) dX12_sureOf_81 (Nat.le_of_ble_eq_true rfl) rfl ?_
            refine z_iinc (L' := [_, _, _, _]) dX12_sureOf_82 rfl rfl ?_
            refine e_goto 39 dX12_sureOf_85 rfl ?_
            exact ih22 _ (by omega) (-1) (k + 1)  rfl  (by omega) (by omega) (by first | exact slI_y I3 (by omega) (by first | (rw [if_pos (by assumption)]; omega) | (rw [if_neg (by assumption)]; omega)) | exact slI_n I3 (by omega) (by first | (rw [if_pos (by assumption)]; omega) | (rw [if_neg (by assumption)]; omega)))
          · skip
            refine e_iload_n dX12_sureOf_76 rfl ?_
            refine e_goto 81 dX12_sureOf_77 rfl ?_
            refine e_istore_n (L' := [_, _, _, _]) dX12_sureOf_81 (Nat.le_of_ble_eq_true rfl) rfl ?_
            refine z_iinc (L' := [_, _, _, _]) dX12_sureOf_82 rfl rfl ?_
            refine e_goto 39 dX12_sureOf_85 rfl ?_
            exact ih22 _ (by omega) s (k + 1)  rfl  (by omega) (by omega) (by first | exact slI_y I3 (by omega) (by first | (rw [if_pos (by assumption)]; omega) | (rw [if_neg (by assumption)]; omega)) | exact slI_n I3 (by omega) (by first | (rw [if_pos (by assumption)]; omega) | (rw [if_neg (by assumption)]; omega)))
    exact lp22 _ (-1) 1  rfl  (by omega) (by omega) (by first | exact Or.inl ⟨by omega, rfl⟩ | (have e : (fun k => if p then k % 6 else k / 6) (nthZ g K 0) = nthZ g K 0 % 6 := (if_pos (by assumption)); rw [← e]; exact slI_1 (by omega) (by first | (rw [if_pos (by assumption)]; omega) | (rw [if_neg (by assumption)]; omega))) | (have e : (fun k => if p then k % 6 else k / 6) (nthZ g K 0) = nthZ g K 0 / 6 := (if_neg (by assumption)); rw [← e]; exact slI_1 (by omega) (by first | (rw [if_pos (by assumption)]; omega) | (rw [if_neg (by assumption)]; omega))))

/-! QUESTIONS: tell -/
theorem dX0_tell_0 : decode cX0_tell 0 = .ok (.aload_n 0, 1) := by decide +kernel
theorem dX0_tell_1 : decode cX0_tell 1 = .ok (.iload_n 2, 1) := by decide +kernel
theorem dX0_tell_2 : decode cX0_tell 2 = .ok (.invokevirtual 37, 3) := by decide +kernel
theorem dX0_tell_5 : decode cX0_tell 5 = .ok (.ifCond .ne 6, 3) := by decide +kernel
theorem dX0_tell_8 : decode cX0_tell 8 = .ok (.bipush (-2), 2) := by decide +kernel
theorem dX0_tell_10 : decode cX0_tell 10 = .ok (.ireturn, 1) := by decide +kernel
theorem dX0_tell_11 : decode cX0_tell 11 = .ok (.iload_n 1, 1) := by decide +kernel
theorem dX0_tell_12 : decode cX0_tell 12 = .ok (.tableswitch 60 0 3 #[32, 39, 46, 53], 32) := by decide +kernel
theorem dX0_tell_44 : decode cX0_tell 44 = .ok (.aload_n 0, 1) := by decide +kernel
theorem dX0_tell_45 : decode cX0_tell 45 = .ok (.getfield 9, 3) := by decide +kernel
theorem dX0_tell_48 : decode cX0_tell 48 = .ok (.iload_n 2, 1) := by decide +kernel
theorem dX0_tell_49 : decode cX0_tell 49 = .ok (.iaload, 1) := by decide +kernel
theorem dX0_tell_50 : decode cX0_tell 50 = .ok (.ireturn, 1) := by decide +kernel
theorem dX0_tell_51 : decode cX0_tell 51 = .ok (.aload_n 0, 1) := by decide +kernel
theorem dX0_tell_52 : decode cX0_tell 52 = .ok (.getfield 15, 3) := by decide +kernel
theorem dX0_tell_55 : decode cX0_tell 55 = .ok (.iload_n 2, 1) := by decide +kernel
theorem dX0_tell_56 : decode cX0_tell 56 = .ok (.iaload, 1) := by decide +kernel
theorem dX0_tell_57 : decode cX0_tell 57 = .ok (.ireturn, 1) := by decide +kernel
theorem dX0_tell_58 : decode cX0_tell 58 = .ok (.aload_n 0, 1) := by decide +kernel
theorem dX0_tell_59 : decode cX0_tell 59 = .ok (.getfield 18, 3) := by decide +kernel
theorem dX0_tell_62 : decode cX0_tell 62 = .ok (.iload_n 2, 1) := by decide +kernel
theorem dX0_tell_63 : decode cX0_tell 63 = .ok (.iaload, 1) := by decide +kernel
theorem dX0_tell_64 : decode cX0_tell 64 = .ok (.ireturn, 1) := by decide +kernel
theorem dX0_tell_65 : decode cX0_tell 65 = .ok (.aload_n 0, 1) := by decide +kernel
theorem dX0_tell_66 : decode cX0_tell 66 = .ok (.getfield 21, 3) := by decide +kernel
theorem dX0_tell_69 : decode cX0_tell 69 = .ok (.iload_n 2, 1) := by decide +kernel
theorem dX0_tell_70 : decode cX0_tell 70 = .ok (.iaload, 1) := by decide +kernel
theorem dX0_tell_71 : decode cX0_tell 71 = .ok (.ireturn, 1) := by decide +kernel
theorem dX0_tell_72 : decode cX0_tell 72 = .ok (.iload_n 1, 1) := by decide +kernel
theorem dX0_tell_73 : decode cX0_tell 73 = .ok (.iconst 4, 1) := by decide +kernel
theorem dX0_tell_74 : decode cX0_tell 74 = .ok (.if_icmp .ne 12, 3) := by decide +kernel
theorem dX0_tell_77 : decode cX0_tell 77 = .ok (.aload_n 0, 1) := by decide +kernel
theorem dX0_tell_78 : decode cX0_tell 78 = .ok (.getfield 24, 3) := by decide +kernel
theorem dX0_tell_81 : decode cX0_tell 81 = .ok (.iload_n 2, 1) := by decide +kernel
theorem dX0_tell_82 : decode cX0_tell 82 = .ok (.iaload, 1) := by decide +kernel
theorem dX0_tell_83 : decode cX0_tell 83 = .ok (.goto 5, 3) := by decide +kernel
theorem dX0_tell_86 : decode cX0_tell 86 = .ok (.bipush (-2), 2) := by decide +kernel
theorem dX0_tell_88 : decode cX0_tell 88 = .ok (.ireturn, 1) := by decide +kernel
theorem dX1_tell_0 : decode cX1_tell 0 = .ok (.iload_n 1, 1) := by decide +kernel
theorem dX1_tell_1 : decode cX1_tell 1 = .ok (.iconst (-1), 1) := by decide +kernel
theorem dX1_tell_2 : decode cX1_tell 2 = .ok (.if_icmp .ne 17, 3) := by decide +kernel
theorem dX1_tell_5 : decode cX1_tell 5 = .ok (.iload_n 2, 1) := by decide +kernel
theorem dX1_tell_6 : decode cX1_tell 6 = .ok (.ifCond .ne 10, 3) := by decide +kernel
theorem dX1_tell_9 : decode cX1_tell 9 = .ok (.aload_n 0, 1) := by decide +kernel
theorem dX1_tell_10 : decode cX1_tell 10 = .ok (.getfield 21, 3) := by decide +kernel
theorem dX1_tell_13 : decode cX1_tell 13 = .ok (.goto 5, 3) := by decide +kernel
theorem dX1_tell_16 : decode cX1_tell 16 = .ok (.bipush (-2), 2) := by decide +kernel
theorem dX1_tell_18 : decode cX1_tell 18 = .ok (.ireturn, 1) := by decide +kernel
theorem dX1_tell_19 : decode cX1_tell 19 = .ok (.iload_n 1, 1) := by decide +kernel
theorem dX1_tell_20 : decode cX1_tell 20 = .ok (.ifCond .lt 17, 3) := by decide +kernel
theorem dX1_tell_23 : decode cX1_tell 23 = .ok (.iload_n 1, 1) := by decide +kernel
theorem dX1_tell_24 : decode cX1_tell 24 = .ok (.aload_n 0, 1) := by decide +kernel
theorem dX1_tell_25 : decode cX1_tell 25 = .ok (.getfield 21, 3) := by decide +kernel
theorem dX1_tell_28 : decode cX1_tell 28 = .ok (.if_icmp .ge 9, 3) := by decide +kernel
theorem dX1_tell_31 : decode cX1_tell 31 = .ok (.iload_n 1, 1) := by decide +kernel
theorem dX1_tell_32 : decode cX1_tell 32 = .ok (.bipush 8, 2) := by decide +kernel
theorem dX1_tell_34 : decode cX1_tell 34 = .ok (.if_icmp .lt 6, 3) := by decide +kernel
theorem dX1_tell_37 : decode cX1_tell 37 = .ok (.bipush (-2), 2) := by decide +kernel
theorem dX1_tell_39 : decode cX1_tell 39 = .ok (.ireturn, 1) := by decide +kernel
theorem dX1_tell_40 : decode cX1_tell 40 = .ok (.iload_n 2, 1) := by decide +kernel
theorem dX1_tell_41 : decode cX1_tell 41 = .ok (.lookupswitch 41 #[(0, 27), (1, 34)], 27) := by decide +kernel
theorem dX1_tell_68 : decode cX1_tell 68 = .ok (.aload_n 0, 1) := by decide +kernel
theorem dX1_tell_69 : decode cX1_tell 69 = .ok (.getfield 9, 3) := by decide +kernel
theorem dX1_tell_72 : decode cX1_tell 72 = .ok (.iload_n 1, 1) := by decide +kernel
theorem dX1_tell_73 : decode cX1_tell 73 = .ok (.iaload, 1) := by decide +kernel
theorem dX1_tell_74 : decode cX1_tell 74 = .ok (.ireturn, 1) := by decide +kernel
theorem dX1_tell_75 : decode cX1_tell 75 = .ok (.aload_n 0, 1) := by decide +kernel
theorem dX1_tell_76 : decode cX1_tell 76 = .ok (.getfield 15, 3) := by decide +kernel
theorem dX1_tell_79 : decode cX1_tell 79 = .ok (.iload_n 1, 1) := by decide +kernel
theorem dX1_tell_80 : decode cX1_tell 80 = .ok (.iaload, 1) := by decide +kernel
theorem dX1_tell_81 : decode cX1_tell 81 = .ok (.ireturn, 1) := by decide +kernel
theorem dX1_tell_82 : decode cX1_tell 82 = .ok (.iload_n 2, 1) := by decide +kernel
theorem dX1_tell_83 : decode cX1_tell 83 = .ok (.iconst 2, 1) := by decide +kernel
theorem dX1_tell_84 : decode cX1_tell 84 = .ok (.if_icmp .ne 12, 3) := by decide +kernel
theorem dX1_tell_87 : decode cX1_tell 87 = .ok (.aload_n 0, 1) := by decide +kernel
theorem dX1_tell_88 : decode cX1_tell 88 = .ok (.getfield 18, 3) := by decide +kernel
theorem dX1_tell_91 : decode cX1_tell 91 = .ok (.iload_n 1, 1) := by decide +kernel
theorem dX1_tell_92 : decode cX1_tell 92 = .ok (.iaload, 1) := by decide +kernel
theorem dX1_tell_93 : decode cX1_tell 93 = .ok (.goto 5, 3) := by decide +kernel
theorem dX1_tell_96 : decode cX1_tell 96 = .ok (.bipush (-2), 2) := by decide +kernel
theorem dX1_tell_98 : decode cX1_tell 98 = .ok (.ireturn, 1) := by decide +kernel
theorem dX2_tell_0 : decode cX2_tell 0 = .ok (.iload_n 1, 1) := by decide +kernel
theorem dX2_tell_1 : decode cX2_tell 1 = .ok (.ifCond .ge 6, 3) := by decide +kernel
theorem dX2_tell_4 : decode cX2_tell 4 = .ok (.bipush (-2), 2) := by decide +kernel
theorem dX2_tell_6 : decode cX2_tell 6 = .ok (.ireturn, 1) := by decide +kernel
theorem dX2_tell_7 : decode cX2_tell 7 = .ok (.iload_n 1, 1) := by decide +kernel
theorem dX2_tell_8 : decode cX2_tell 8 = .ok (.bipush 10, 2) := by decide +kernel
theorem dX2_tell_10 : decode cX2_tell 10 = .ok (.idiv, 1) := by decide +kernel
theorem dX2_tell_11 : decode cX2_tell 11 = .ok (.istore_n 2, 1) := by decide +kernel
theorem dX2_tell_12 : decode cX2_tell 12 = .ok (.iload_n 1, 1) := by decide +kernel
theorem dX2_tell_13 : decode cX2_tell 13 = .ok (.bipush 10, 2) := by decide +kernel
theorem dX2_tell_15 : decode cX2_tell 15 = .ok (.irem, 1) := by decide +kernel
theorem dX2_tell_16 : decode cX2_tell 16 = .ok (.istore_n 3, 1) := by decide +kernel
theorem dX2_tell_17 : decode cX2_tell 17 = .ok (.iload_n 2, 1) := by decide +kernel
theorem dX2_tell_18 : decode cX2_tell 18 = .ok (.ifCond .ne 9, 3) := by decide +kernel
theorem dX2_tell_21 : decode cX2_tell 21 = .ok (.aload_n 0, 1) := by decide +kernel
theorem dX2_tell_22 : decode cX2_tell 22 = .ok (.iload_n 3, 1) := by decide +kernel
theorem dX2_tell_23 : decode cX2_tell 23 = .ok (.invokevirtual 93, 3) := by decide +kernel
theorem dX2_tell_26 : decode cX2_tell 26 = .ok (.ireturn, 1) := by decide +kernel
theorem dX2_tell_27 : decode cX2_tell 27 = .ok (.iload_n 2, 1) := by decide +kernel
theorem dX2_tell_28 : decode cX2_tell 28 = .ok (.iconst 5, 1) := by decide +kernel
theorem dX2_tell_29 : decode cX2_tell 29 = .ok (.if_icmp .gt 15, 3) := by decide +kernel
theorem dX2_tell_32 : decode cX2_tell 32 = .ok (.aload_n 0, 1) := by decide +kernel
theorem dX2_tell_33 : decode cX2_tell 33 = .ok (.getfield 12, 3) := by decide +kernel
theorem dX2_tell_36 : decode cX2_tell 36 = .ok (.iload_n 2, 1) := by decide +kernel
theorem dX2_tell_37 : decode cX2_tell 37 = .ok (.iconst 1, 1) := by decide +kernel
theorem dX2_tell_38 : decode cX2_tell 38 = .ok (.isub, 1) := by decide +kernel
theorem dX2_tell_39 : decode cX2_tell 39 = .ok (.iload_n 3, 1) := by decide +kernel
theorem dX2_tell_40 : decode cX2_tell 40 = .ok (.invokevirtual 96, 3) := by decide +kernel
theorem dX2_tell_43 : decode cX2_tell 43 = .ok (.ireturn, 1) := by decide +kernel
theorem dX2_tell_44 : decode cX2_tell 44 = .ok (.iload_n 2, 1) := by decide +kernel
theorem dX2_tell_45 : decode cX2_tell 45 = .ok (.bipush 10, 2) := by decide +kernel
theorem dX2_tell_47 : decode cX2_tell 47 = .ok (.if_icmp .gt 18, 3) := by decide +kernel
theorem dX2_tell_50 : decode cX2_tell 50 = .ok (.aload_n 0, 1) := by decide +kernel
theorem dX2_tell_51 : decode cX2_tell 51 = .ok (.getfield 18, 3) := by decide +kernel
theorem dX2_tell_54 : decode cX2_tell 54 = .ok (.iload_n 2, 1) := by decide +kernel
theorem dX2_tell_55 : decode cX2_tell 55 = .ok (.bipush 6, 2) := by decide +kernel
theorem dX2_tell_57 : decode cX2_tell 57 = .ok (.isub, 1) := by decide +kernel
theorem dX2_tell_58 : decode cX2_tell 58 = .ok (.iload_n 3, 1) := by decide +kernel
theorem dX2_tell_59 : decode cX2_tell 59 = .ok (.invokevirtual 96, 3) := by decide +kernel
theorem dX2_tell_62 : decode cX2_tell 62 = .ok (.goto 9, 3) := by decide +kernel
theorem dX2_tell_65 : decode cX2_tell 65 = .ok (.aload_n 0, 1) := by decide +kernel
theorem dX2_tell_66 : decode cX2_tell 66 = .ok (.iload_n 2, 1) := by decide +kernel
theorem dX2_tell_67 : decode cX2_tell 67 = .ok (.iload_n 3, 1) := by decide +kernel
theorem dX2_tell_68 : decode cX2_tell 68 = .ok (.invokevirtual 99, 3) := by decide +kernel
theorem dX2_tell_71 : decode cX2_tell 71 = .ok (.ireturn, 1) := by decide +kernel
theorem dX2_tellSize_0 : decode cX2_tellSize 0 = .ok (.iload_n 1, 1) := by decide +kernel
theorem dX2_tellSize_1 : decode cX2_tellSize 1 = .ok (.lookupswitch 43 #[(0, 27), (1, 35)], 27) := by decide +kernel
theorem dX2_tellSize_28 : decode cX2_tellSize 28 = .ok (.aload_n 0, 1) := by decide +kernel
theorem dX2_tellSize_29 : decode cX2_tellSize 29 = .ok (.getfield 12, 3) := by decide +kernel
theorem dX2_tellSize_32 : decode cX2_tellSize 32 = .ok (.getfield 87, 3) := by decide +kernel
theorem dX2_tellSize_35 : decode cX2_tellSize 35 = .ok (.ireturn, 1) := by decide +kernel
theorem dX2_tellSize_36 : decode cX2_tellSize 36 = .ok (.aload_n 0, 1) := by decide +kernel
theorem dX2_tellSize_37 : decode cX2_tellSize 37 = .ok (.getfield 18, 3) := by decide +kernel
theorem dX2_tellSize_40 : decode cX2_tellSize 40 = .ok (.getfield 87, 3) := by decide +kernel
theorem dX2_tellSize_43 : decode cX2_tellSize 43 = .ok (.ireturn, 1) := by decide +kernel
theorem dX2_tellSize_44 : decode cX2_tellSize 44 = .ok (.iload_n 1, 1) := by decide +kernel
theorem dX2_tellSize_45 : decode cX2_tellSize 45 = .ok (.iconst 2, 1) := by decide +kernel
theorem dX2_tellSize_46 : decode cX2_tellSize 46 = .ok (.if_icmp .ne 10, 3) := by decide +kernel
theorem dX2_tellSize_49 : decode cX2_tellSize 49 = .ok (.aload_n 0, 1) := by decide +kernel
theorem dX2_tellSize_50 : decode cX2_tellSize 50 = .ok (.getfield 31, 3) := by decide +kernel
theorem dX2_tellSize_53 : decode cX2_tellSize 53 = .ok (.goto 5, 3) := by decide +kernel
theorem dX2_tellSize_56 : decode cX2_tellSize 56 = .ok (.bipush (-2), 2) := by decide +kernel
theorem dX2_tellSize_58 : decode cX2_tellSize 58 = .ok (.ireturn, 1) := by decide +kernel
theorem dX2_tellCloth_0 : decode cX2_tellCloth 0 = .ok (.aload_n 0, 1) := by decide +kernel
theorem dX2_tellCloth_1 : decode cX2_tellCloth 1 = .ok (.iload_n 2, 1) := by decide +kernel
theorem dX2_tellCloth_2 : decode cX2_tellCloth 2 = .ok (.invokevirtual 80, 3) := by decide +kernel
theorem dX2_tellCloth_5 : decode cX2_tellCloth 5 = .ok (.ifCond .ne 6, 3) := by decide +kernel
theorem dX2_tellCloth_8 : decode cX2_tellCloth 8 = .ok (.bipush (-2), 2) := by decide +kernel
theorem dX2_tellCloth_10 : decode cX2_tellCloth 10 = .ok (.ireturn, 1) := by decide +kernel
theorem dX2_tellCloth_11 : decode cX2_tellCloth 11 = .ok (.iload_n 1, 1) := by decide +kernel
theorem dX2_tellCloth_12 : decode cX2_tellCloth 12 = .ok (.lookupswitch 42 #[(11, 28), (12, 35)], 28) := by decide +kernel
theorem dX2_tellCloth_40 : decode cX2_tellCloth 40 = .ok (.aload_n 0, 1) := by decide +kernel
theorem dX2_tellCloth_41 : decode cX2_tellCloth 41 = .ok (.getfield 21, 3) := by decide +kernel
theorem dX2_tellCloth_44 : decode cX2_tellCloth 44 = .ok (.iload_n 2, 1) := by decide +kernel
theorem dX2_tellCloth_45 : decode cX2_tellCloth 45 = .ok (.iaload, 1) := by decide +kernel
theorem dX2_tellCloth_46 : decode cX2_tellCloth 46 = .ok (.ireturn, 1) := by decide +kernel
theorem dX2_tellCloth_47 : decode cX2_tellCloth 47 = .ok (.aload_n 0, 1) := by decide +kernel
theorem dX2_tellCloth_48 : decode cX2_tellCloth 48 = .ok (.getfield 25, 3) := by decide +kernel
theorem dX2_tellCloth_51 : decode cX2_tellCloth 51 = .ok (.iload_n 2, 1) := by decide +kernel
theorem dX2_tellCloth_52 : decode cX2_tellCloth 52 = .ok (.iaload, 1) := by decide +kernel
theorem dX2_tellCloth_53 : decode cX2_tellCloth 53 = .ok (.ireturn, 1) := by decide +kernel
theorem dX2_tellCloth_54 : decode cX2_tellCloth 54 = .ok (.iload_n 1, 1) := by decide +kernel
theorem dX2_tellCloth_55 : decode cX2_tellCloth 55 = .ok (.bipush 13, 2) := by decide +kernel
theorem dX2_tellCloth_57 : decode cX2_tellCloth 57 = .ok (.if_icmp .ne 12, 3) := by decide +kernel
theorem dX2_tellCloth_60 : decode cX2_tellCloth 60 = .ok (.aload_n 0, 1) := by decide +kernel
theorem dX2_tellCloth_61 : decode cX2_tellCloth 61 = .ok (.getfield 28, 3) := by decide +kernel
theorem dX2_tellCloth_64 : decode cX2_tellCloth 64 = .ok (.iload_n 2, 1) := by decide +kernel
theorem dX2_tellCloth_65 : decode cX2_tellCloth 65 = .ok (.iaload, 1) := by decide +kernel
theorem dX2_tellCloth_66 : decode cX2_tellCloth 66 = .ok (.goto 5, 3) := by decide +kernel
theorem dX2_tellCloth_69 : decode cX2_tellCloth 69 = .ok (.bipush (-2), 2) := by decide +kernel
theorem dX2_tellCloth_71 : decode cX2_tellCloth 71 = .ok (.ireturn, 1) := by decide +kernel
theorem dX10_tell_0 : decode cX10_tell 0 = .ok (.iload_n 1, 1) := by decide +kernel
theorem dX10_tell_1 : decode cX10_tell 1 = .ok (.iconst (-1), 1) := by decide +kernel
theorem dX10_tell_2 : decode cX10_tell 2 = .ok (.if_icmp .ne 17, 3) := by decide +kernel
theorem dX10_tell_5 : decode cX10_tell 5 = .ok (.iload_n 2, 1) := by decide +kernel
theorem dX10_tell_6 : decode cX10_tell 6 = .ok (.ifCond .ne 10, 3) := by decide +kernel
theorem dX10_tell_9 : decode cX10_tell 9 = .ok (.aload_n 0, 1) := by decide +kernel
theorem dX10_tell_10 : decode cX10_tell 10 = .ok (.getfield 21, 3) := by decide +kernel
theorem dX10_tell_13 : decode cX10_tell 13 = .ok (.goto 5, 3) := by decide +kernel
theorem dX10_tell_16 : decode cX10_tell 16 = .ok (.bipush (-2), 2) := by decide +kernel
theorem dX10_tell_18 : decode cX10_tell 18 = .ok (.ireturn, 1) := by decide +kernel
theorem dX10_tell_19 : decode cX10_tell 19 = .ok (.iload_n 1, 1) := by decide +kernel
theorem dX10_tell_20 : decode cX10_tell 20 = .ok (.ifCond .lt 17, 3) := by decide +kernel
theorem dX10_tell_23 : decode cX10_tell 23 = .ok (.iload_n 1, 1) := by decide +kernel
theorem dX10_tell_24 : decode cX10_tell 24 = .ok (.aload_n 0, 1) := by decide +kernel
theorem dX10_tell_25 : decode cX10_tell 25 = .ok (.getfield 21, 3) := by decide +kernel
theorem dX10_tell_28 : decode cX10_tell 28 = .ok (.if_icmp .ge 9, 3) := by decide +kernel
theorem dX10_tell_31 : decode cX10_tell 31 = .ok (.iload_n 1, 1) := by decide +kernel
theorem dX10_tell_32 : decode cX10_tell 32 = .ok (.bipush 40, 2) := by decide +kernel
theorem dX10_tell_34 : decode cX10_tell 34 = .ok (.if_icmp .lt 6, 3) := by decide +kernel
theorem dX10_tell_37 : decode cX10_tell 37 = .ok (.bipush (-2), 2) := by decide +kernel
theorem dX10_tell_39 : decode cX10_tell 39 = .ok (.ireturn, 1) := by decide +kernel
theorem dX10_tell_40 : decode cX10_tell 40 = .ok (.iload_n 2, 1) := by decide +kernel
theorem dX10_tell_41 : decode cX10_tell 41 = .ok (.lookupswitch 41 #[(0, 27), (1, 34)], 27) := by decide +kernel
theorem dX10_tell_68 : decode cX10_tell 68 = .ok (.aload_n 0, 1) := by decide +kernel
theorem dX10_tell_69 : decode cX10_tell 69 = .ok (.getfield 9, 3) := by decide +kernel
theorem dX10_tell_72 : decode cX10_tell 72 = .ok (.iload_n 1, 1) := by decide +kernel
theorem dX10_tell_73 : decode cX10_tell 73 = .ok (.iaload, 1) := by decide +kernel
theorem dX10_tell_74 : decode cX10_tell 74 = .ok (.ireturn, 1) := by decide +kernel
theorem dX10_tell_75 : decode cX10_tell 75 = .ok (.aload_n 0, 1) := by decide +kernel
theorem dX10_tell_76 : decode cX10_tell 76 = .ok (.getfield 15, 3) := by decide +kernel
theorem dX10_tell_79 : decode cX10_tell 79 = .ok (.iload_n 1, 1) := by decide +kernel
theorem dX10_tell_80 : decode cX10_tell 80 = .ok (.iaload, 1) := by decide +kernel
theorem dX10_tell_81 : decode cX10_tell 81 = .ok (.ireturn, 1) := by decide +kernel
theorem dX10_tell_82 : decode cX10_tell 82 = .ok (.iload_n 2, 1) := by decide +kernel
theorem dX10_tell_83 : decode cX10_tell 83 = .ok (.iconst 2, 1) := by decide +kernel
theorem dX10_tell_84 : decode cX10_tell 84 = .ok (.if_icmp .ne 12, 3) := by decide +kernel
theorem dX10_tell_87 : decode cX10_tell 87 = .ok (.aload_n 0, 1) := by decide +kernel
theorem dX10_tell_88 : decode cX10_tell 88 = .ok (.getfield 18, 3) := by decide +kernel
theorem dX10_tell_91 : decode cX10_tell 91 = .ok (.iload_n 1, 1) := by decide +kernel
theorem dX10_tell_92 : decode cX10_tell 92 = .ok (.iaload, 1) := by decide +kernel
theorem dX10_tell_93 : decode cX10_tell 93 = .ok (.goto 5, 3) := by decide +kernel
theorem dX10_tell_96 : decode cX10_tell 96 = .ok (.bipush (-2), 2) := by decide +kernel
theorem dX10_tell_98 : decode cX10_tell 98 = .ok (.ireturn, 1) := by decide +kernel
theorem dX12_deeds_0 : decode cX12_deeds 0 = .ok (.aload_n 0, 1) := by decide +kernel
theorem dX12_deeds_1 : decode cX12_deeds 1 = .ok (.getfield 29, 3) := by decide +kernel
theorem dX12_deeds_4 : decode cX12_deeds 4 = .ok (.bipush 121, 2) := by decide +kernel
theorem dX12_deeds_6 : decode cX12_deeds 6 = .ok (.aload_n 0, 1) := by decide +kernel
theorem dX12_deeds_7 : decode cX12_deeds 7 = .ok (.getfield 301, 3) := by decide +kernel
theorem dX12_deeds_10 : decode cX12_deeds 10 = .ok (.imul, 1) := by decide +kernel
theorem dX12_deeds_11 : decode cX12_deeds 11 = .ok (.iaload, 1) := by decide +kernel
theorem dX12_deeds_12 : decode cX12_deeds 12 = .ok (.ireturn, 1) := by decide +kernel
theorem dX12_deedOf_0 : decode cX12_deedOf 0 = .ok (.aload_n 0, 1) := by decide +kernel
theorem dX12_deedOf_1 : decode cX12_deedOf 1 = .ok (.getfield 29, 3) := by decide +kernel
theorem dX12_deedOf_4 : decode cX12_deedOf 4 = .ok (.bipush 121, 2) := by decide +kernel
theorem dX12_deedOf_6 : decode cX12_deedOf 6 = .ok (.aload_n 0, 1) := by decide +kernel
theorem dX12_deedOf_7 : decode cX12_deedOf 7 = .ok (.getfield 301, 3) := by decide +kernel
theorem dX12_deedOf_10 : decode cX12_deedOf 10 = .ok (.imul, 1) := by decide +kernel
theorem dX12_deedOf_11 : decode cX12_deedOf 11 = .ok (.iconst 1, 1) := by decide +kernel
theorem dX12_deedOf_12 : decode cX12_deedOf 12 = .ok (.iadd, 1) := by decide +kernel
theorem dX12_deedOf_13 : decode cX12_deedOf 13 = .ok (.iconst 3, 1) := by decide +kernel
theorem dX12_deedOf_14 : decode cX12_deedOf 14 = .ok (.iload_n 1, 1) := by decide +kernel
theorem dX12_deedOf_15 : decode cX12_deedOf 15 = .ok (.imul, 1) := by decide +kernel
theorem dX12_deedOf_16 : decode cX12_deedOf 16 = .ok (.iadd, 1) := by decide +kernel
theorem dX12_deedOf_17 : decode cX12_deedOf 17 = .ok (.iload_n 2, 1) := by decide +kernel
theorem dX12_deedOf_18 : decode cX12_deedOf 18 = .ok (.iadd, 1) := by decide +kernel
theorem dX12_deedOf_19 : decode cX12_deedOf 19 = .ok (.iaload, 1) := by decide +kernel
theorem dX12_deedOf_20 : decode cX12_deedOf 20 = .ok (.ireturn, 1) := by decide +kernel
theorem dX12_clueMany_0 : decode cX12_clueMany 0 = .ok (.aload_n 0, 1) := by decide +kernel
theorem dX12_clueMany_1 : decode cX12_clueMany 1 = .ok (.getfield 32, 3) := by decide +kernel
theorem dX12_clueMany_4 : decode cX12_clueMany 4 = .ok (.bipush 25, 2) := by decide +kernel
theorem dX12_clueMany_6 : decode cX12_clueMany 6 = .ok (.aload_n 0, 1) := by decide +kernel
theorem dX12_clueMany_7 : decode cX12_clueMany 7 = .ok (.getfield 502, 3) := by decide +kernel
theorem dX12_clueMany_10 : decode cX12_clueMany 10 = .ok (.imul, 1) := by decide +kernel
theorem dX12_clueMany_11 : decode cX12_clueMany 11 = .ok (.iaload, 1) := by decide +kernel
theorem dX12_clueMany_12 : decode cX12_clueMany 12 = .ok (.ireturn, 1) := by decide +kernel
theorem dX12_clueOf_0 : decode cX12_clueOf 0 = .ok (.aload_n 0, 1) := by decide +kernel
theorem dX12_clueOf_1 : decode cX12_clueOf 1 = .ok (.getfield 32, 3) := by decide +kernel
theorem dX12_clueOf_4 : decode cX12_clueOf 4 = .ok (.bipush 25, 2) := by decide +kernel
theorem dX12_clueOf_6 : decode cX12_clueOf 6 = .ok (.aload_n 0, 1) := by decide +kernel
theorem dX12_clueOf_7 : decode cX12_clueOf 7 = .ok (.getfield 502, 3) := by decide +kernel
theorem dX12_clueOf_10 : decode cX12_clueOf 10 = .ok (.imul, 1) := by decide +kernel
theorem dX12_clueOf_11 : decode cX12_clueOf 11 = .ok (.iconst 1, 1) := by decide +kernel
theorem dX12_clueOf_12 : decode cX12_clueOf 12 = .ok (.iadd, 1) := by decide +kernel
theorem dX12_clueOf_13 : decode cX12_clueOf 13 = .ok (.iconst 3, 1) := by decide +kernel
theorem dX12_clueOf_14 : decode cX12_clueOf 14 = .ok (.iload_n 1, 1) := by decide +kernel
theorem dX12_clueOf_15 : decode cX12_clueOf 15 = .ok (.imul, 1) := by decide +kernel
theorem dX12_clueOf_16 : decode cX12_clueOf 16 = .ok (.iadd, 1) := by decide +kernel
theorem dX12_clueOf_17 : decode cX12_clueOf 17 = .ok (.iload_n 2, 1) := by decide +kernel
theorem dX12_clueOf_18 : decode cX12_clueOf 18 = .ok (.iadd, 1) := by decide +kernel
theorem dX12_clueOf_19 : decode cX12_clueOf 19 = .ok (.iaload, 1) := by decide +kernel
theorem dX12_clueOf_20 : decode cX12_clueOf 20 = .ok (.ireturn, 1) := by decide +kernel
set_option maxRecDepth 20000 in
theorem tm_0_37 : tMet TB0 0 37 = some (0, M_X0_has) := rfl
set_option maxRecDepth 20000 in
theorem tm_2_93 : tMet TB0 2 93 = some (0, M_X2_tellSize) := rfl
set_option maxRecDepth 20000 in
theorem tm_2_96 : tMet TB0 2 96 = some (0, M_X0_tell) := rfl
set_option maxRecDepth 20000 in
theorem tm_2_99 : tMet TB0 2 99 = some (0, M_X2_tellCloth) := rfl
theorem isY_w {h : mH} {a : Nat} {y : Int → Int} (H : isY h a y) : wfY y := H.1
theorem isY_n {h : mH} {a : Nat} {y : Int → Int} (H : isY h a y) : rI h a 3 = y 0 := H.2.1
theorem isY_ysr {h : mH} {a : Nat} {y : Int → Int} (H : isY h a y) {k : Int} (h0 : 0 ≤ k) (h1 : k < y 0) : rI h (a + 1) k = ysr y k := (H.2.2 k h0 h1).1
theorem isY_yfi {h : mH} {a : Nat} {y : Int → Int} (H : isY h a y) {k : Int} (h0 : 0 ≤ k) (h1 : k < y 0) : rI h (a + 2) k = yfi y k := (H.2.2 k h0 h1).2.1
theorem isY_yse {h : mH} {a : Nat} {y : Int → Int} (H : isY h a y) {k : Int} (h0 : 0 ≤ k) (h1 : k < y 0) : rI h (a + 3) k = yse y k := (H.2.2 k h0 h1).2.2
theorem isK_w {h : mH} {a : Nat} {y : Int → Int} (H : isK h a y) : wfK y := H.1
theorem isK_n {h : mH} {a : Nat} {y : Int → Int} (H : isK h a y) : rI h a 3 = y 0 := H.2.1
theorem isK_ysr {h : mH} {a : Nat} {y : Int → Int} (H : isK h a y) {k : Int} (h0 : 0 ≤ k) (h1 : k < y 0) : rI h (a + 1) k = ysr y k := (H.2.2 k h0 h1).1
theorem isK_yfi {h : mH} {a : Nat} {y : Int → Int} (H : isK h a y) {k : Int} (h0 : 0 ≤ k) (h1 : k < y 0) : rI h (a + 2) k = yfi y k := (H.2.2 k h0 h1).2.1
theorem isK_yse {h : mH} {a : Nat} {y : Int → Int} (H : isK h a y) {k : Int} (h0 : 0 ≤ k) (h1 : k < y 0) : rI h (a + 3) k = yse y k := (H.2.2 k h0 h1).2.2
def rYr (h : mH) (m : Nat) (k : Int) : Prop := rI h m 32 = k ∧ 0 ≤ k
theorem rYr_c {S : Nat → Nat → Prop} {h h1 : mH} {m : Nat} {k : Int} (s : frm S h h1) (n : ∀ a i, a = m → i = 32 → ¬ S a i) (H : rYr h m k) : rYr h1 m k := ⟨(frm_r s (n m 32 rfl rfl)).trans H.1, H.2⟩
def rKt (h : mH) (m : Nat) (k : Int) : Prop := rI h m 54 = k ∧ 0 ≤ k
theorem rKt_c {S : Nat → Nat → Prop} {h h1 : mH} {m : Nat} {k : Int} (s : frm S h h1) (n : ∀ a i, a = m → i = 54 → ¬ S a i) (H : rKt h m k) : rKt h1 m k := ⟨(frm_r s (n m 54 rfl rfl)).trans H.1, H.2⟩
/-- what tell() of a year or of clues answers -/
def ydZ (y : Int → Int) (k w : Int) : Int := if k = -1 then (if w = 0 then y 0 else -2) else if (0 ≤ k ∧ k < y 0) ∧ (0 ≤ w ∧ w ≤ 2) then y (1 + 3 * k + w) else -2
def tlZ (g : Int → Int) (w : Int) : Int := if 10 ≤ w ∧ w ≤ 139 then (if w % 10 < (if w / 10 < 6 then nd g else if w / 10 < 11 then nu g else nc g) then g (3 + 6 * (w / 10 - 1) + w % 10) else -2) else if 0 ≤ w ∧ w ≤ 2 then g w else -2
def tellB (h : mH) (b : Nat) (w i : Int) : Int := if 0 ≤ i ∧ i < rI h b 5 ∧ i < 6 then (if w = 0 then rI h (b + 1) i else if w = 1 then rI h (b + 2) i else if w = 2 then rI h (b + 3) i else if w = 3 then rI h (b + 4) i else if w = 4 then rI h (b + 5) i else -2) else -2
theorem tellB_b (h : mH) (b : Nat) (w i : Int) : -2147483648 ≤ tellB h b w i ∧ tellB h b w i < 2147483648 := by
  unfold tellB
  repeat' split
  all_goals first | exact rI_i _ _ _ | omega
theorem tellB_d {h : mH} {f : Nat} {g : Int → Int} (H : isF h f g) {w i : Int} (h0 : 0 ≤ w) (h1 : w ≤ 4) (hi : 0 ≤ i) : tellB h (f + 1) w i = if i < nd g then g (3 + 6 * w + i) else -2 := by
  have n := isF_n H
  have e := isF_nd H
  unfold tellB
  by_cases c : i < nd g
  · rw [if_pos (by omega), if_pos c]
    rcases (show w = 0 ∨ w = 1 ∨ w = 2 ∨ w = 3 ∨ w = 4 by omega) with q | q | q | q | q <;> subst q
    · exact isF_dl H hi c
    · exact isF_ds H hi c
    · exact isF_de H hi c
    · exact isF_dh H hi c
    · exact isF_dm H hi (by omega)
  · rw [if_neg (by omega), if_neg c]
theorem tellB_u {h : mH} {f : Nat} {g : Int → Int} (H : isF h f g) {w i : Int} (h0 : 0 ≤ w) (h1 : w ≤ 4) (hi : 0 ≤ i) : tellB h (f + 7) w i = if i < nu g then g (33 + 6 * w + i) else -2 := by
  have n := isF_n H
  have e := isF_nu H
  unfold tellB
  by_cases c : i < nu g
  · rw [if_pos (by omega), if_pos c]
    rcases (show w = 0 ∨ w = 1 ∨ w = 2 ∨ w = 3 ∨ w = 4 by omega) with q | q | q | q | q <;> subst q
    · exact isF_ul H hi c
    · exact isF_us H hi c
    · exact isF_ue H hi c
    · exact isF_uh H hi c
    · exact isF_um H hi (by omega)
  · rw [if_neg (by omega), if_neg c]
def ansY (f : Int) (s : Int) (none_ : Int) (R : Sg → Int → Prop) (σ : Sg) (r : Int) : Prop := ((0 ≤ f ∧ f < cn σ s) ∧ R σ r) ∨ (¬ (0 ≤ f ∧ f < cn σ s) ∧ r = none_)
theorem ansY_u {f n s : Int} {R : Sg → Int → Prop} (hR : ∀ σ r r', R σ r → R σ r' → r = r') (σ : Sg) (r r' : Int) (a : ansY f s n R σ r) (b : ansY f s n R σ r') : r = r' := by
  rcases a with ⟨a1, a3⟩ | ⟨a1, a2⟩
  · rcases b with ⟨b1, b3⟩ | ⟨b1, b2⟩
    · exact hR _ _ _ a3 b3
    · exact absurd a1 b1
  · rcases b with ⟨b1, b3⟩ | ⟨b1, b2⟩
    · exact absurd b1 a1
    · rw [a2, b2]
theorem bb_z {bb : Int32} (h : bb = 0 ∨ bb = 1) : bb = zI (bZ (bb = 1)) := by rcases h with q | q <;> subst q <;> decide
theorem eq_u {α : Type} {v : α → Int} (g : α) (r r' : Int) (a : r = v g) (b : r' = v g) : r = r' := by rw [a, b]
set_option maxHeartbeats 400000 in
theorem zp_X0_tell {ad : mA} {dd : Nat} {h : mH} {Q : mQ} {b : Nat}  (hk : blk h b)  (w : Int) (w_r : -2147483648 ≤ w ∧ w < 2147483648) (i : Int) (i_r : -2147483648 ≤ i ∧ i < 2147483648)  (kq : Q (some (.int (zI (tellB h b w i)))) h) : mCal TB0 ad (dd + 2) M_X0_tell [.ref b, .int (zI w), .int (zI i)] h 0 0 Q := by
  refine ⟨Nat.le_of_ble_eq_true rfl, ?_⟩
  show mEv TB0 ad M_X0_tell (dd + 2) (0, 0) (mCal TB0 ad (dd + 1)) (fun v h' z => z.1 = 0 ∧ Q v h') 0 [some (.ref b), some (.int (zI w)), some (.int (zI i))] [] h (0, 0)
  refine e_aload_n dX0_tell_0 rfl ?_
  refine e_iload_n dX0_tell_1 rfl ?_
  refine e_callV [.int _] dX0_tell_2 tm_0_37 rfl (Nat.le_of_ble_eq_true rfl) (congrArg Prod.fst (bl_s0 hk)) (Nat.le_of_ble_eq_true rfl) (Nat.le_refl _) (Nat.le_refl _) rfl (zp_X0_has hk i ⟨by omega, by omega⟩ ?_)
  refine z_ifb_ne 11 dX0_tell_5 rfl (fun c1 => ?_) (fun c1 => ?_)
  · skip
    refine e_iload_n dX0_tell_11 rfl ?_
    by_cases c2 : w = 0
    · skip
      refine z_tableV (0) 44 dX0_tell_12 c2 (by decide) (by decide +kernel) ?_
      refine e_aload_n dX0_tell_44 rfl ?_
      refine e_get (.ref (b + 1)) dX0_tell_45 tf_0_9 (congrArg Prod.fst (bl_s0 hk)) (congrArg va_rf (bl_r0_0 hk)) ?_
      refine e_iload_n dX0_tell_48 rfl ?_
      refine z_ild (rI h (b + 1) i) dX0_tell_49 (bl_s1 hk) (by decide) (by omega) (by omega) rfl ?_
      have y3 := rI_i h (b + 1) i
      refine z_iret dX0_tell_50 rfl ⟨rfl, ?_⟩
      refine z_q kq ?_
      unfold tellB; first | (rw [if_pos (by omega)]; repeat' split; all_goals omega) | (rw [if_neg (by omega)])
    by_cases c4 : w = 1
    · skip
      refine z_tableV (1) 51 dX0_tell_12 c4 (by decide) (by decide +kernel) ?_
      refine e_aload_n dX0_tell_51 rfl ?_
      refine e_get (.ref (b + 2)) dX0_tell_52 tf_0_15 (congrArg Prod.fst (bl_s0 hk)) (congrArg va_rf (bl_r0_1 hk)) ?_
      refine e_iload_n dX0_tell_55 rfl ?_
      refine z_ild (rI h (b + 2) i) dX0_tell_56 (bl_s2 hk) (by decide) (by omega) (by omega) rfl ?_
      have y5 := rI_i h (b + 2) i
      refine z_iret dX0_tell_57 rfl ⟨rfl, ?_⟩
      refine z_q kq ?_
      unfold tellB; first | (rw [if_pos (by omega)]; repeat' split; all_goals omega) | (rw [if_neg (by omega)])
    by_cases c6 : w = 2
    · skip
      refine z_tableV (2) 58 dX0_tell_12 c6 (by decide) (by decide +kernel) ?_
      refine e_aload_n dX0_tell_58 rfl ?_
      refine e_get (.ref (b + 3)) dX0_tell_59 tf_0_18 (congrArg Prod.fst (bl_s0 hk)) (congrArg va_rf (bl_r0_2 hk)) ?_
      refine e_iload_n dX0_tell_62 rfl ?_
      refine z_ild (rI h (b + 3) i) dX0_tell_63 (bl_s3 hk) (by decide) (by omega) (by omega) rfl ?_
      have y7 := rI_i h (b + 3) i
      refine z_iret dX0_tell_64 rfl ⟨rfl, ?_⟩
      refine z_q kq ?_
      unfold tellB; first | (rw [if_pos (by omega)]; repeat' split; all_goals omega) | (rw [if_neg (by omega)])
    by_cases c8 : w = 3
    · skip
      refine z_tableV (3) 65 dX0_tell_12 c8 (by decide) (by decide +kernel) ?_
      refine e_aload_n dX0_tell_65 rfl ?_
      refine e_get (.ref (b + 4)) dX0_tell_66 tf_0_21 (congrArg Prod.fst (bl_s0 hk)) (congrArg va_rf (bl_r0_3 hk)) ?_
      refine e_iload_n dX0_tell_69 rfl ?_
      refine z_ild (rI h (b + 4) i) dX0_tell_70 (bl_s4 hk) (by decide) (by omega) (by omega) rfl ?_
      have y9 := rI_i h (b + 4) i
      refine z_iret dX0_tell_71 rfl ⟨rfl, ?_⟩
      refine z_q kq ?_
      unfold tellB; first | (rw [if_pos (by omega)]; repeat' split; all_goals omega) | (rw [if_neg (by omega)])
    refine z_tableD 72 dX0_tell_12 ⟨by omega, by omega⟩ (by omega) rfl ?_
    refine e_iload_n dX0_tell_72 rfl ?_
    refine z_iconst (4) dX0_tell_73 rfl ?_
    refine z_icmp_ne 86 dX0_tell_74 rfl ⟨by omega, by omega⟩ ⟨by omega, by omega⟩ (fun c10 => ?_) (fun c10 => ?_)
    · skip
      refine z_bipush (-2) dX0_tell_86 rfl ?_
      refine z_iret dX0_tell_88 rfl ⟨rfl, ?_⟩
      refine z_q kq ?_
      unfold tellB; first | (rw [if_pos (by omega)]; repeat' split; all_goals omega) | (rw [if_neg (by omega)])
    · skip
      refine e_aload_n dX0_tell_77 rfl ?_
      refine e_get (.ref (b + 5)) dX0_tell_78 tf_0_24 (congrArg Prod.fst (bl_s0 hk)) (congrArg va_rf (bl_r0_4 hk)) ?_
      refine e_iload_n dX0_tell_81 rfl ?_
      refine z_ild (rI h (b + 5) i) dX0_tell_82 (bl_s5 hk) (by decide) (by omega) (by omega) rfl ?_
      have y11 := rI_i h (b + 5) i
      refine e_goto 88 dX0_tell_83 rfl ?_
      refine z_iret dX0_tell_88 rfl ⟨rfl, ?_⟩
      refine z_q kq ?_
      unfold tellB; first | (rw [if_pos (by omega)]; repeat' split; all_goals omega) | (rw [if_neg (by omega)])
  · skip
    refine z_bipush (-2) dX0_tell_8 rfl ?_
    refine z_iret dX0_tell_10 rfl ⟨rfl, ?_⟩
    refine z_q kq ?_
    unfold tellB; first | (rw [if_pos (by omega)]; repeat' split; all_goals omega) | (rw [if_neg (by omega)])
set_option maxHeartbeats 400000 in
theorem zp_X2_tellSize {ad : mA} {dd : Nat} {h : mH} {Q : mQ} {f : Nat} {g : Int → Int} (hk : fgk h f) (HF : isF h f g)  (w : Int) (w_r : -2147483648 ≤ w ∧ w < 2147483648) (p1 : 0 ≤ w) (p2 : w < 10) (kq : Q (some (.int (zI (tlZ g w)))) h) : mCal TB0 ad (dd + 1) M_X2_tellSize [.ref f, .int (zI w)] h 0 0 Q := by
  refine ⟨Nat.le_of_ble_eq_true rfl, ?_⟩
  show mEv TB0 ad M_X2_tellSize (dd + 1) (0, 0) (mCal TB0 ad (dd + 0)) (fun v h' z => z.1 = 0 ∧ Q v h') 0 [some (.ref f), some (.int (zI w))] [] h (0, 0)
  have w1 := isF_n HF
  have w2 := isF_nd HF
  have w3 := isF_nu HF
  have w4 := isF_nc HF
  have W := isF_w HF
  refine e_iload_n dX2_tellSize_0 rfl ?_
  by_cases c1 : w = 0
  · skip
    refine z_lookupV (0) 28 dX2_tellSize_1 c1 (by decide) (by decide +kernel) ?_
    refine e_aload_n dX2_tellSize_28 rfl ?_
    refine e_get (.ref (f + 1)) dX2_tellSize_29 tf_2_12 (congrArg Prod.fst (fg_s0 hk)) (congrArg va_rf (fg_r0_0 hk)) ?_
    refine z_get (nd g) dX2_tellSize_32 tf_2_87 (congrArg Prod.fst (fg_s1 hk)) (Or.inl rfl) (isF_nd HF) ?_
    have y2 := isF_n HF
    refine z_iret dX2_tellSize_35 rfl ⟨rfl, ?_⟩
    refine z_q kq ?_
    unfold tlZ; rw [if_neg (by omega)]; first | (rw [if_neg (by omega)]) | (rw [if_pos (by omega)]; simp only [*]; rfl)
  by_cases c3 : w = 1
  · skip
    refine z_lookupV (1) 36 dX2_tellSize_1 c3 (by decide) (by decide +kernel) ?_
    refine e_aload_n dX2_tellSize_36 rfl ?_
    refine e_get (.ref (f + 7)) dX2_tellSize_37 tf_2_18 (congrArg Prod.fst (fg_s0 hk)) (congrArg va_rf (fg_r0_1 hk)) ?_
    refine z_get (nu g) dX2_tellSize_40 tf_2_87 (congrArg Prod.fst (fg_s7 hk)) (Or.inl rfl) (isF_nu HF) ?_
    have y4 := isF_n HF
    refine z_iret dX2_tellSize_43 rfl ⟨rfl, ?_⟩
    refine z_q kq ?_
    unfold tlZ; rw [if_neg (by omega)]; first | (rw [if_neg (by omega)]) | (rw [if_pos (by omega)]; simp only [*]; rfl)
  refine z_lookupD 44 dX2_tellSize_1 ⟨by omega, by omega⟩ (by decide +kernel) (by show Op.lookupswitch.offset [(0, 27), (1, 35)] 43 w = 43; rw [Op.lookupswitch.offset_cons, if_neg (by omega), Op.lookupswitch.offset_cons, if_neg (by omega)]; rfl) rfl ?_
  refine e_iload_n dX2_tellSize_44 rfl ?_
  refine z_iconst (2) dX2_tellSize_45 rfl ?_
  refine z_icmp_ne 56 dX2_tellSize_46 rfl ⟨by omega, by omega⟩ ⟨by omega, by omega⟩ (fun c5 => ?_) (fun c5 => ?_)
  · skip
    refine z_bipush (-2) dX2_tellSize_56 rfl ?_
    refine z_iret dX2_tellSize_58 rfl ⟨rfl, ?_⟩
    refine z_q kq ?_
    unfold tlZ; rw [if_neg (by omega)]; first | (rw [if_neg (by omega)]) | (rw [if_pos (by omega)]; simp only [*]; rfl)
  · skip
    refine e_aload_n dX2_tellSize_49 rfl ?_
    refine z_get (nc g) dX2_tellSize_50 tf_2_31 (congrArg Prod.fst (fg_s0 hk)) (Or.inl rfl) (isF_nc HF) ?_
    have y6 := isF_n HF
    refine e_goto 58 dX2_tellSize_53 rfl ?_
    refine z_iret dX2_tellSize_58 rfl ⟨rfl, ?_⟩
    refine z_q kq ?_
    unfold tlZ; rw [if_neg (by omega)]; first | (rw [if_neg (by omega)]) | (rw [if_pos (by omega)]; simp only [*]; rfl)
set_option maxHeartbeats 400000 in
theorem zp_X2_tellCloth {ad : mA} {dd : Nat} {h : mH} {Q : mQ} {f : Nat} {g : Int → Int} (hk : fgk h f) (HF : isF h f g)  (t : Int) (t_r : -2147483648 ≤ t ∧ t < 2147483648) (c : Int) (c_r : -2147483648 ≤ c ∧ c < 2147483648) (p1 : 11 ≤ t) (p2 : 0 ≤ c) (p3 : c < 10) (kq : Q (some (.int (zI (if t ≤ 13 ∧ c < nc g then g (3 + 6 * (t - 1) + c) else -2)))) h) : mCal TB0 ad (dd + 2) M_X2_tellCloth [.ref f, .int (zI t), .int (zI c)] h 0 0 Q := by
  refine ⟨Nat.le_of_ble_eq_true rfl, ?_⟩
  show mEv TB0 ad M_X2_tellCloth (dd + 2) (0, 0) (mCal TB0 ad (dd + 1)) (fun v h' z => z.1 = 0 ∧ Q v h') 0 [some (.ref f), some (.int (zI t)), some (.int (zI c))] [] h (0, 0)
  have w1 := isF_n HF
  have w2 := isF_nd HF
  have w3 := isF_nu HF
  have w4 := isF_nc HF
  have W := isF_w HF
  refine e_aload_n dX2_tellCloth_0 rfl ?_
  refine e_iload_n dX2_tellCloth_1 rfl ?_
  refine e_callV [.int _] dX2_tellCloth_2 tm_2_80 rfl (Nat.le_of_ble_eq_true rfl) (congrArg Prod.fst (fg_s0 hk)) (Nat.le_of_ble_eq_true rfl) (Nat.le_refl _) (Nat.le_refl _) rfl (zp_X2_hasCloth hk HF c ⟨by omega, by omega⟩ ?_)
  refine z_ifb_ne 11 dX2_tellCloth_5 rfl (fun c1 => ?_) (fun c1 => ?_)
  · skip
    refine e_iload_n dX2_tellCloth_11 rfl ?_
    by_cases c2 : t = 11
    · skip
      refine z_lookupV (11) 40 dX2_tellCloth_12 c2 (by decide) (by decide +kernel) ?_
      refine e_aload_n dX2_tellCloth_40 rfl ?_
      refine e_get (.ref (f + 13)) dX2_tellCloth_41 tf_2_21 (congrArg Prod.fst (fg_s0 hk)) (congrArg va_rf (fg_r0_2 hk)) ?_
      refine e_iload_n dX2_tellCloth_44 rfl ?_
      refine z_ild (ha g c) dX2_tellCloth_45 (fg_s13 hk) (by decide) (by omega) (by omega) (isF_ha HF (by omega) (by omega)) ?_
      have y3 := wC_c (isF_w HF).2.2 (show 0 ≤ c by omega) (by omega)
      refine z_iret dX2_tellCloth_46 rfl ⟨rfl, ?_⟩
      refine z_q kq ?_
      first | (rw [if_neg (by omega)]) | (rw [if_pos (by omega)]; subst_vars; first | exact congrArg g (show 63 + c = 3 + 6 * (11 - 1) + c by omega) | exact congrArg g (show 69 + c = 3 + 6 * (12 - 1) + c by omega) | exact congrArg g (show 75 + c = 3 + 6 * (13 - 1) + c by omega))
    by_cases c4 : t = 12
    · skip
      refine z_lookupV (12) 47 dX2_tellCloth_12 c4 (by decide) (by decide +kernel) ?_
      refine e_aload_n dX2_tellCloth_47 rfl ?_
      refine e_get (.ref (f + 14)) dX2_tellCloth_48 tf_2_25 (congrArg Prod.fst (fg_s0 hk)) (congrArg va_rf (fg_r0_3 hk)) ?_
      refine e_iload_n dX2_tellCloth_51 rfl ?_
      refine z_ild (pr g c) dX2_tellCloth_52 (fg_s14 hk) (by decide) (by omega) (by omega) (isF_pr HF (by omega) (by omega)) ?_
      have y5 := wC_c (isF_w HF).2.2 (show 0 ≤ c by omega) (by omega)
      refine z_iret dX2_tellCloth_53 rfl ⟨rfl, ?_⟩
      refine z_q kq ?_
      first | (rw [if_neg (by omega)]) | (rw [if_pos (by omega)]; subst_vars; first | exact congrArg g (show 63 + c = 3 + 6 * (11 - 1) + c by omega) | exact congrArg g (show 69 + c = 3 + 6 * (12 - 1) + c by omega) | exact congrArg g (show 75 + c = 3 + 6 * (13 - 1) + c by omega))
    refine z_lookupD 54 dX2_tellCloth_12 ⟨by omega, by omega⟩ (by decide +kernel) (by show Op.lookupswitch.offset [(11, 28), (12, 35)] 42 t = 42; rw [Op.lookupswitch.offset_cons, if_neg (by omega), Op.lookupswitch.offset_cons, if_neg (by omega)]; rfl) rfl ?_
    refine e_iload_n dX2_tellCloth_54 rfl ?_
    refine z_bipush (13) dX2_tellCloth_55 rfl ?_
    refine z_icmp_ne 69 dX2_tellCloth_57 rfl ⟨by omega, by omega⟩ ⟨by omega, by omega⟩ (fun c6 => ?_) (fun c6 => ?_)
    · skip
      refine z_bipush (-2) dX2_tellCloth_69 rfl ?_
      refine z_iret dX2_tellCloth_71 rfl ⟨rfl, ?_⟩
      refine z_q kq ?_
      first | (rw [if_neg (by omega)]) | (rw [if_pos (by omega)]; subst_vars; first | exact congrArg g (show 63 + c = 3 + 6 * (11 - 1) + c by omega) | exact congrArg g (show 69 + c = 3 + 6 * (12 - 1) + c by omega) | exact congrArg g (show 75 + c = 3 + 6 * (13 - 1) + c by omega))
    · skip
      refine e_aload_n dX2_tellCloth_60 rfl ?_
      refine e_get (.ref (f + 15)) dX2_tellCloth_61 tf_2_28 (congrArg Prod.fst (fg_s0 hk)) (congrArg va_rf (fg_r0_4 hk)) ?_
      refine e_iload_n dX2_tellCloth_64 rfl ?_
      refine z_ild (dy g c) dX2_tellCloth_65 (fg_s15 hk) (by decide) (by omega) (by omega) (isF_dy HF (by omega) (by omega)) ?_
      have y7 := wC_c (isF_w HF).2.2 (show 0 ≤ c by omega) (by omega)
      refine e_goto 71 dX2_tellCloth_66 rfl ?_
      refine z_iret dX2_tellCloth_71 rfl ⟨rfl, ?_⟩
      refine z_q kq ?_
      first | (rw [if_neg (by omega)]) | (rw [if_pos (by omega)]; subst_vars; first | exact congrArg g (show 63 + c = 3 + 6 * (11 - 1) + c by omega) | exact congrArg g (show 69 + c = 3 + 6 * (12 - 1) + c by omega) | exact congrArg g (show 75 + c = 3 + 6 * (13 - 1) + c by omega))
  · skip
    refine z_bipush (-2) dX2_tellCloth_8 rfl ?_
    refine z_iret dX2_tellCloth_10 rfl ⟨rfl, ?_⟩
    refine z_q kq ?_
    first | (rw [if_neg (by omega)]) | (rw [if_pos (by omega)]; subst_vars; first | exact congrArg g (show 63 + c = 3 + 6 * (11 - 1) + c by omega) | exact congrArg g (show 69 + c = 3 + 6 * (12 - 1) + c by omega) | exact congrArg g (show 75 + c = 3 + 6 * (13 - 1) + c by omega))
set_option maxHeartbeats 400000 in
theorem zp_X2_tell {ad : mA} {dd : Nat} {h : mH} {Q : mQ} {f : Nat} {g : Int → Int} (hk : fgk h f) (HF : isF h f g)  (w : Int) (w_r : -2147483648 ≤ w ∧ w < 2147483648)  (kq : Q (some (.int (zI (tlZ g w)))) h) : mCal TB0 ad (dd + 3) M_X2_tell [.ref f, .int (zI w)] h 0 0 Q := by
  refine ⟨Nat.le_of_ble_eq_true rfl, ?_⟩
  show mEv TB0 ad M_X2_tell (dd + 3) (0, 0) (mCal TB0 ad (dd + 2)) (fun v h' z => z.1 = 0 ∧ Q v h') 0 [some (.ref f), some (.int (zI w)), none, none] [] h (0, 0)
  have w1 := isF_n HF
  have w2 := isF_nd HF
  have w3 := isF_nu HF
  have w4 := isF_nc HF
  have W := isF_w HF
  refine e_iload_n dX2_tell_0 rfl ?_
  refine z_if_ge 7 dX2_tell_1 rfl ⟨by omega, by omega⟩ (fun c1 => ?_) (fun c1 => ?_)
  · skip
    refine e_iload_n dX2_tell_7 rfl ?_
    refine z_bipush (10) dX2_tell_8 rfl ?_
    refine z_idiv dX2_tell_10 (by omega) (by omega) (by omega) (by omega) ?_
    refine e_istore_n (L' := [_, _, _, _]) dX2_tell_11 (Nat.le_of_ble_eq_true rfl) rfl ?_
    refine e_iload_n dX2_tell_12 rfl ?_
    refine z_bipush (10) dX2_tell_13 rfl ?_
    refine z_irem dX2_tell_15 (by omega) (by omega) (by omega) (by omega) ?_
    refine e_istore_n (L' := [_, _, _, _]) dX2_tell_16 (Nat.le_of_ble_eq_true rfl) rfl ?_
    refine e_iload_n dX2_tell_17 rfl ?_
    refine z_if_ne 27 dX2_tell_18 rfl ⟨by omega, by omega⟩ (fun c2 => ?_) (fun c2 => ?_)
    · skip
      refine e_iload_n dX2_tell_27 rfl ?_
      refine z_iconst (5) dX2_tell_28 rfl ?_
      refine z_icmp_gt 44 dX2_tell_29 rfl ⟨by omega, by omega⟩ ⟨by omega, by omega⟩ (fun c3 => ?_) (fun c3 => ?_)
      · skip
        refine e_iload_n dX2_tell_44 rfl ?_
        refine z_bipush (10) dX2_tell_45 rfl ?_
        refine z_icmp_gt 65 dX2_tell_47 rfl ⟨by omega, by omega⟩ ⟨by omega, by omega⟩ (fun c4 => ?_) (fun c4 => ?_)
        · skip
          refine e_aload_n dX2_tell_65 rfl ?_
          refine e_iload_n dX2_tell_66 rfl ?_
          refine e_iload_n dX2_tell_67 rfl ?_
          refine e_callV [.int _, .int _] dX2_tell_68 tm_2_99 rfl (Nat.le_of_ble_eq_true rfl) (congrArg Prod.fst (fg_s0 hk)) (Nat.le_of_ble_eq_true rfl) (Nat.le_refl _) (Nat.le_refl _) rfl (zp_X2_tellCloth hk HF (w / 10) ⟨by omega, by omega⟩ (w % 10) ⟨by omega, by omega⟩ (by omega) (by omega) (by omega) ?_)
          refine z_iret dX2_tell_71 rfl ⟨rfl, ?_⟩
          refine z_q kq ?_
          unfold tlZ; by_cases q : w ≤ 139
          · rw [if_pos (show 10 ≤ w ∧ w ≤ 139 by omega), if_neg (show ¬ w / 10 < 6 by omega), if_neg (show ¬ w / 10 < 11 by omega)]
            by_cases q2 : w % 10 < nc g
            · rw [if_pos (show w / 10 ≤ 13 ∧ w % 10 < nc g by omega), if_pos q2]
            · rw [if_neg (show ¬ (w / 10 ≤ 13 ∧ w % 10 < nc g) by omega), if_neg q2]
          · rw [if_neg (show ¬ (w / 10 ≤ 13 ∧ w % 10 < nc g) by omega), if_neg (show ¬ (10 ≤ w ∧ w ≤ 139) by omega), if_neg (show ¬ (0 ≤ w ∧ w ≤ 2) by omega)]
        · skip
          refine e_aload_n dX2_tell_50 rfl ?_
          refine e_get (.ref (f + 7)) dX2_tell_51 tf_2_18 (congrArg Prod.fst (fg_s0 hk)) (congrArg va_rf (fg_r0_1 hk)) ?_
          refine e_iload_n dX2_tell_54 rfl ?_
          refine z_bipush (6) dX2_tell_55 rfl ?_
          refine z_isub dX2_tell_57 ?_
          refine e_iload_n dX2_tell_58 rfl ?_
          refine e_callV [.int _, .int _] dX2_tell_59 tm_2_96 rfl (Nat.le_of_ble_eq_true rfl) (congrArg Prod.fst (fg_s7 hk)) (Nat.le_of_ble_eq_true rfl) (Nat.le_refl _) (Nat.le_refl _) rfl (zp_X0_tell (fg_bl7 hk) ((w / 10) - 6) ⟨by omega, by omega⟩ (w % 10) ⟨by omega, by omega⟩ ?_)
          have y5 := tellB_b h (f + 7) ((w / 10) - 6) (w % 10)
          refine e_goto 71 dX2_tell_62 rfl ?_
          refine z_iret dX2_tell_71 rfl ⟨rfl, ?_⟩
          refine z_q kq ?_
          rw [tellB_u HF (by omega) (by omega) (by omega)]; unfold tlZ; rw [if_pos (show 10 ≤ w ∧ w ≤ 139 by omega), if_neg (show ¬ w / 10 < 6 by omega), if_pos (show w / 10 < 11 by omega), show 33 + 6 * (w / 10 - 6) = 3 + 6 * (w / 10 - 1) by omega]
      · skip
        refine e_aload_n dX2_tell_32 rfl ?_
        refine e_get (.ref (f + 1)) dX2_tell_33 tf_2_12 (congrArg Prod.fst (fg_s0 hk)) (congrArg va_rf (fg_r0_0 hk)) ?_
        refine e_iload_n dX2_tell_36 rfl ?_
        refine z_iconst (1) dX2_tell_37 rfl ?_
        refine z_isub dX2_tell_38 ?_
        refine e_iload_n dX2_tell_39 rfl ?_
        refine e_callV [.int _, .int _] dX2_tell_40 tm_2_96 rfl (Nat.le_of_ble_eq_true rfl) (congrArg Prod.fst (fg_s1 hk)) (Nat.le_of_ble_eq_true rfl) (Nat.le_refl _) (Nat.le_refl _) rfl (zp_X0_tell (fg_bl1 hk) ((w / 10) - 1) ⟨by omega, by omega⟩ (w % 10) ⟨by omega, by omega⟩ ?_)
        have y6 := tellB_b h (f + 1) ((w / 10) - 1) (w % 10)
        refine z_iret dX2_tell_43 rfl ⟨rfl, ?_⟩
        refine z_q kq ?_
        rw [tellB_d HF (by omega) (by omega) (by omega)]; unfold tlZ; rw [if_pos (show 10 ≤ w ∧ w ≤ 139 by omega), if_pos (show w / 10 < 6 by omega)]
    · skip
      refine e_aload_n dX2_tell_21 rfl ?_
      refine e_iload_n dX2_tell_22 rfl ?_
      refine e_callV [.int _] dX2_tell_23 tm_2_93 rfl (Nat.le_of_ble_eq_true rfl) (congrArg Prod.fst (fg_s0 hk)) (Nat.le_of_ble_eq_true rfl) (Nat.le_refl _) (Nat.le_refl _) rfl (zp_X2_tellSize hk HF (w % 10) ⟨by omega, by omega⟩ (by omega) (by omega) ?_)
      refine z_iret dX2_tell_26 rfl ⟨rfl, ?_⟩
      refine z_q kq ?_
      rw [show w % 10 = w by omega]
  · skip
    refine z_bipush (-2) dX2_tell_4 rfl ?_
    refine z_iret dX2_tell_6 rfl ⟨rfl, ?_⟩
    refine z_q kq ?_
    unfold tlZ; rw [if_neg (by omega), if_neg (by omega)]
set_option maxHeartbeats 400000 in
theorem zp_X10_tell {ad : mA} {dd : Nat} {h : mH} {Q : mQ} {a : Nat} {y : Int → Int} (hk : yrk h a) (HY : isY h a y)  (k : Int) (k_r : -2147483648 ≤ k ∧ k < 2147483648) (w : Int) (w_r : -2147483648 ≤ w ∧ w < 2147483648)  (kq : Q (some (.int (zI (ydZ y k w)))) h) : mCal TB0 ad (dd + 1) M_X10_tell [.ref a, .int (zI k), .int (zI w)] h 0 0 Q := by
  refine ⟨Nat.le_of_ble_eq_true rfl, ?_⟩
  show mEv TB0 ad M_X10_tell (dd + 1) (0, 0) (mCal TB0 ad (dd + 0)) (fun v h' z => z.1 = 0 ∧ Q v h') 0 [some (.ref a), some (.int (zI k)), some (.int (zI w))] [] h (0, 0)
  have w0 := (isY_w HY).1
  refine e_iload_n dX10_tell_0 rfl ?_
  refine z_iconst (-1) dX10_tell_1 rfl ?_
  refine z_icmp_ne 19 dX10_tell_2 rfl ⟨by omega, by omega⟩ ⟨by omega, by omega⟩ (fun c1 => ?_) (fun c1 => ?_)
  · skip
    refine e_iload_n dX10_tell_19 rfl ?_
    refine z_if_lt 37 dX10_tell_20 rfl ⟨by omega, by omega⟩ (fun c2 => ?_) (fun c2 => ?_)
    · skip
      refine z_bipush (-2) dX10_tell_37 rfl ?_
      refine z_iret dX10_tell_39 rfl ⟨rfl, ?_⟩
      refine z_q kq ?_
      unfold ydZ; first | (exfalso; omega) | (rw [if_pos (by omega), if_pos (by omega)]) | (rw [if_pos (by omega), if_neg (by omega)]) | (rw [if_neg (by omega), if_neg (by omega)]) | (rw [if_neg (by omega), if_pos (by omega)]; subst_vars; first | exact congrArg y (show 1 + 3 * k = 1 + 3 * k + 0 by omega) | exact congrArg y (show 2 + 3 * k = 1 + 3 * k + 1 by omega) | exact congrArg y (show 3 + 3 * k = 1 + 3 * k + 2 by omega))
    · skip
      refine e_iload_n dX10_tell_23 rfl ?_
      refine e_aload_n dX10_tell_24 rfl ?_
      refine z_get (y 0) dX10_tell_25 tf_10_21 (congrArg Prod.fst (yr_s0 hk)) (Or.inl rfl) (isY_n HY) ?_
      have y3 := (isY_w HY).1
      refine z_icmp_ge 37 dX10_tell_28 rfl ⟨by omega, by omega⟩ ⟨by omega, by omega⟩ (fun c4 => ?_) (fun c4 => ?_)
      · skip
        refine z_bipush (-2) dX10_tell_37 rfl ?_
        refine z_iret dX10_tell_39 rfl ⟨rfl, ?_⟩
        refine z_q kq ?_
        unfold ydZ; first | (exfalso; omega) | (rw [if_pos (by omega), if_pos (by omega)]) | (rw [if_pos (by omega), if_neg (by omega)]) | (rw [if_neg (by omega), if_neg (by omega)]) | (rw [if_neg (by omega), if_pos (by omega)]; subst_vars; first | exact congrArg y (show 1 + 3 * k = 1 + 3 * k + 0 by omega) | exact congrArg y (show 2 + 3 * k = 1 + 3 * k + 1 by omega) | exact congrArg y (show 3 + 3 * k = 1 + 3 * k + 2 by omega))
      · skip
        refine e_iload_n dX10_tell_31 rfl ?_
        refine z_bipush (40) dX10_tell_32 rfl ?_
        refine z_icmp_lt 40 dX10_tell_34 rfl ⟨by omega, by omega⟩ ⟨by omega, by omega⟩ (fun c5 => ?_) (fun c5 => ?_)
        · skip
          refine e_iload_n dX10_tell_40 rfl ?_
          by_cases c6 : w = 0
          · skip
            refine z_lookupV (0) 68 dX10_tell_41 c6 (by decide) (by decide +kernel) ?_
            refine e_aload_n dX10_tell_68 rfl ?_
            refine e_get (.ref (a + 1)) dX10_tell_69 tf_10_9 (congrArg Prod.fst (yr_s0 hk)) (congrArg va_rf (yr_r0_0 hk)) ?_
            refine e_iload_n dX10_tell_72 rfl ?_
            refine z_ild (ysr y k) dX10_tell_73 (yr_s1 hk) (by decide) (by omega) (by omega) (isY_ysr HY (by omega) (by omega)) ?_
            have y7 := (isY_w HY).2 k (by omega) (by omega)
            refine z_iret dX10_tell_74 rfl ⟨rfl, ?_⟩
            refine z_q kq ?_
            unfold ydZ; first | (exfalso; omega) | (rw [if_pos (by omega), if_pos (by omega)]) | (rw [if_pos (by omega), if_neg (by omega)]) | (rw [if_neg (by omega), if_neg (by omega)]) | (rw [if_neg (by omega), if_pos (by omega)]; subst_vars; first | exact congrArg y (show 1 + 3 * k = 1 + 3 * k + 0 by omega) | exact congrArg y (show 2 + 3 * k = 1 + 3 * k + 1 by omega) | exact congrArg y (show 3 + 3 * k = 1 + 3 * k + 2 by omega))
          by_cases c8 : w = 1
          · skip
            refine z_lookupV (1) 75 dX10_tell_41 c8 (by decide) (by decide +kernel) ?_
            refine e_aload_n dX10_tell_75 rfl ?_
            refine e_get (.ref (a + 2)) dX10_tell_76 tf_10_15 (congrArg Prod.fst (yr_s0 hk)) (congrArg va_rf (yr_r0_1 hk)) ?_
            refine e_iload_n dX10_tell_79 rfl ?_
            refine z_ild (yfi y k) dX10_tell_80 (yr_s2 hk) (by decide) (by omega) (by omega) (isY_yfi HY (by omega) (by omega)) ?_
            have y9 := (isY_w HY).2 k (by omega) (by omega)
            refine z_iret dX10_tell_81 rfl ⟨rfl, ?_⟩
            refine z_q kq ?_
            unfold ydZ; first | (exfalso; omega) | (rw [if_pos (by omega), if_pos (by omega)]) | (rw [if_pos (by omega), if_neg (by omega)]) | (rw [if_neg (by omega), if_neg (by omega)]) | (rw [if_neg (by omega), if_pos (by omega)]; subst_vars; first | exact congrArg y (show 1 + 3 * k = 1 + 3 * k + 0 by omega) | exact congrArg y (show 2 + 3 * k = 1 + 3 * k + 1 by omega) | exact congrArg y (show 3 + 3 * k = 1 + 3 * k + 2 by omega))
          refine z_lookupD 82 dX10_tell_41 ⟨by omega, by omega⟩ (by decide +kernel) (by show Op.lookupswitch.offset [(0, 27), (1, 34)] 41 w = 41; rw [Op.lookupswitch.offset_cons, if_neg (by omega), Op.lookupswitch.offset_cons, if_neg (by omega)]; rfl) rfl ?_
          refine e_iload_n dX10_tell_82 rfl ?_
          refine z_iconst (2) dX10_tell_83 rfl ?_
          refine z_icmp_ne 96 dX10_tell_84 rfl ⟨by omega, by omega⟩ ⟨by omega, by omega⟩ (fun c10 => ?_) (fun c10 => ?_)
          · skip
            refine z_bipush (-2) dX10_tell_96 rfl ?_
            refine z_iret dX10_tell_98 rfl ⟨rfl, ?_⟩
            refine z_q kq ?_
            unfold ydZ; first | (exfalso; omega) | (rw [if_pos (by omega), if_pos (by omega)]) | (rw [if_pos (by omega), if_neg (by omega)]) | (rw [if_neg (by omega), if_neg (by omega)]) | (rw [if_neg (by omega), if_pos (by omega)]; subst_vars; first | exact congrArg y (show 1 + 3 * k = 1 + 3 * k + 0 by omega) | exact congrArg y (show 2 + 3 * k = 1 + 3 * k + 1 by omega) | exact congrArg y (show 3 + 3 * k = 1 + 3 * k + 2 by omega))
          · skip
            refine e_aload_n dX10_tell_87 rfl ?_
            refine e_get (.ref (a + 3)) dX10_tell_88 tf_10_18 (congrArg Prod.fst (yr_s0 hk)) (congrArg va_rf (yr_r0_2 hk)) ?_
            refine e_iload_n dX10_tell_91 rfl ?_
            refine z_ild (yse y k) dX10_tell_92 (yr_s3 hk) (by decide) (by omega) (by omega) (isY_yse HY (by omega) (by omega)) ?_
            have y11 := (isY_w HY).2 k (by omega) (by omega)
            refine e_goto 98 dX10_tell_93 rfl ?_
            refine z_iret dX10_tell_98 rfl ⟨rfl, ?_⟩
            refine z_q kq ?_
            unfold ydZ; first | (exfalso; omega) | (rw [if_pos (by omega), if_pos (by omega)]) | (rw [if_pos (by omega), if_neg (by omega)]) | (rw [if_neg (by omega), if_neg (by omega)]) | (rw [if_neg (by omega), if_pos (by omega)]; subst_vars; first | exact congrArg y (show 1 + 3 * k = 1 + 3 * k + 0 by omega) | exact congrArg y (show 2 + 3 * k = 1 + 3 * k + 1 by omega) | exact congrArg y (show 3 + 3 * k = 1 + 3 * k + 2 by omega))
        · skip
          refine z_bipush (-2) dX10_tell_37 rfl ?_
          refine z_iret dX10_tell_39 rfl ⟨rfl, ?_⟩
          refine z_q kq ?_
          unfold ydZ; first | (exfalso; omega) | (rw [if_pos (by omega), if_pos (by omega)]) | (rw [if_pos (by omega), if_neg (by omega)]) | (rw [if_neg (by omega), if_neg (by omega)]) | (rw [if_neg (by omega), if_pos (by omega)]; subst_vars; first | exact congrArg y (show 1 + 3 * k = 1 + 3 * k + 0 by omega) | exact congrArg y (show 2 + 3 * k = 1 + 3 * k + 1 by omega) | exact congrArg y (show 3 + 3 * k = 1 + 3 * k + 2 by omega))
  · skip
    refine e_iload_n dX10_tell_5 rfl ?_
    refine z_if_ne 16 dX10_tell_6 rfl ⟨by omega, by omega⟩ (fun c12 => ?_) (fun c12 => ?_)
    · skip
      refine z_bipush (-2) dX10_tell_16 rfl ?_
      refine z_iret dX10_tell_18 rfl ⟨rfl, ?_⟩
      refine z_q kq ?_
      unfold ydZ; first | (exfalso; omega) | (rw [if_pos (by omega), if_pos (by omega)]) | (rw [if_pos (by omega), if_neg (by omega)]) | (rw [if_neg (by omega), if_neg (by omega)]) | (rw [if_neg (by omega), if_pos (by omega)]; subst_vars; first | exact congrArg y (show 1 + 3 * k = 1 + 3 * k + 0 by omega) | exact congrArg y (show 2 + 3 * k = 1 + 3 * k + 1 by omega) | exact congrArg y (show 3 + 3 * k = 1 + 3 * k + 2 by omega))
    · skip
      refine e_aload_n dX10_tell_9 rfl ?_
      refine z_get (y 0) dX10_tell_10 tf_10_21 (congrArg Prod.fst (yr_s0 hk)) (Or.inl rfl) (isY_n HY) ?_
      have y13 := (isY_w HY).1
      refine e_goto 18 dX10_tell_13 rfl ?_
      refine z_iret dX10_tell_18 rfl ⟨rfl, ?_⟩
      refine z_q kq ?_
      unfold ydZ; first | (exfalso; omega) | (rw [if_pos (by omega), if_pos (by omega)]) | (rw [if_pos (by omega), if_neg (by omega)]) | (rw [if_neg (by omega), if_neg (by omega)]) | (rw [if_neg (by omega), if_pos (by omega)]; subst_vars; first | exact congrArg y (show 1 + 3 * k = 1 + 3 * k + 0 by omega) | exact congrArg y (show 2 + 3 * k = 1 + 3 * k + 1 by omega) | exact congrArg y (show 3 + 3 * k = 1 + 3 * k + 2 by omega))
set_option maxHeartbeats 400000 in
theorem zp_X1_tell {ad : mA} {dd : Nat} {h : mH} {Q : mQ} {a : Nat} {y : Int → Int} (hk : cuk h a) (HY : isK h a y)  (k : Int) (k_r : -2147483648 ≤ k ∧ k < 2147483648) (w : Int) (w_r : -2147483648 ≤ w ∧ w < 2147483648)  (kq : Q (some (.int (zI (ydZ y k w)))) h) : mCal TB0 ad (dd + 1) M_X1_tell [.ref a, .int (zI k), .int (zI w)] h 0 0 Q := by
  refine ⟨Nat.le_of_ble_eq_true rfl, ?_⟩
  show mEv TB0 ad M_X1_tell (dd + 1) (0, 0) (mCal TB0 ad (dd + 0)) (fun v h' z => z.1 = 0 ∧ Q v h') 0 [some (.ref a), some (.int (zI k)), some (.int (zI w))] [] h (0, 0)
  have w0 := (isK_w HY).1
  refine e_iload_n dX1_tell_0 rfl ?_
  refine z_iconst (-1) dX1_tell_1 rfl ?_
  refine z_icmp_ne 19 dX1_tell_2 rfl ⟨by omega, by omega⟩ ⟨by omega, by omega⟩ (fun c1 => ?_) (fun c1 => ?_)
  · skip
    refine e_iload_n dX1_tell_19 rfl ?_
    refine z_if_lt 37 dX1_tell_20 rfl ⟨by omega, by omega⟩ (fun c2 => ?_) (fun c2 => ?_)
    · skip
      refine z_bipush (-2) dX1_tell_37 rfl ?_
      refine z_iret dX1_tell_39 rfl ⟨rfl, ?_⟩
      refine z_q kq ?_
      unfold ydZ; first | (exfalso; omega) | (rw [if_pos (by omega), if_pos (by omega)]) | (rw [if_pos (by omega), if_neg (by omega)]) | (rw [if_neg (by omega), if_neg (by omega)]) | (rw [if_neg (by omega), if_pos (by omega)]; subst_vars; first | exact congrArg y (show 1 + 3 * k = 1 + 3 * k + 0 by omega) | exact congrArg y (show 2 + 3 * k = 1 + 3 * k + 1 by omega) | exact congrArg y (show 3 + 3 * k = 1 + 3 * k + 2 by omega))
    · skip
      refine e_iload_n dX1_tell_23 rfl ?_
      refine e_aload_n dX1_tell_24 rfl ?_
      refine z_get (y 0) dX1_tell_25 tf_1_21 (congrArg Prod.fst (cu_s0 hk)) (Or.inl rfl) (isK_n HY) ?_
      have y3 := (isK_w HY).1
      refine z_icmp_ge 37 dX1_tell_28 rfl ⟨by omega, by omega⟩ ⟨by omega, by omega⟩ (fun c4 => ?_) (fun c4 => ?_)
      · skip
        refine z_bipush (-2) dX1_tell_37 rfl ?_
        refine z_iret dX1_tell_39 rfl ⟨rfl, ?_⟩
        refine z_q kq ?_
        unfold ydZ; first | (exfalso; omega) | (rw [if_pos (by omega), if_pos (by omega)]) | (rw [if_pos (by omega), if_neg (by omega)]) | (rw [if_neg (by omega), if_neg (by omega)]) | (rw [if_neg (by omega), if_pos (by omega)]; subst_vars; first | exact congrArg y (show 1 + 3 * k = 1 + 3 * k + 0 by omega) | exact congrArg y (show 2 + 3 * k = 1 + 3 * k + 1 by omega) | exact congrArg y (show 3 + 3 * k = 1 + 3 * k + 2 by omega))
      · skip
        refine e_iload_n dX1_tell_31 rfl ?_
        refine z_bipush (8) dX1_tell_32 rfl ?_
        refine z_icmp_lt 40 dX1_tell_34 rfl ⟨by omega, by omega⟩ ⟨by omega, by omega⟩ (fun c5 => ?_) (fun c5 => ?_)
        · skip
          refine e_iload_n dX1_tell_40 rfl ?_
          by_cases c6 : w = 0
          · skip
            refine z_lookupV (0) 68 dX1_tell_41 c6 (by decide) (by decide +kernel) ?_
            refine e_aload_n dX1_tell_68 rfl ?_
            refine e_get (.ref (a + 1)) dX1_tell_69 tf_1_9 (congrArg Prod.fst (cu_s0 hk)) (congrArg va_rf (cu_r0_0 hk)) ?_
            refine e_iload_n dX1_tell_72 rfl ?_
            refine z_ild (ysr y k) dX1_tell_73 (cu_s1 hk) (by decide) (by omega) (by omega) (isK_ysr HY (by omega) (by omega)) ?_
            have y7 := (isK_w HY).2 k (by omega) (by omega)
            refine z_iret dX1_tell_74 rfl ⟨rfl, ?_⟩
            refine z_q kq ?_
            unfold ydZ; first | (exfalso; omega) | (rw [if_pos (by omega), if_pos (by omega)]) | (rw [if_pos (by omega), if_neg (by omega)]) | (rw [if_neg (by omega), if_neg (by omega)]) | (rw [if_neg (by omega), if_pos (by omega)]; subst_vars; first | exact congrArg y (show 1 + 3 * k = 1 + 3 * k + 0 by omega) | exact congrArg y (show 2 + 3 * k = 1 + 3 * k + 1 by omega) | exact congrArg y (show 3 + 3 * k = 1 + 3 * k + 2 by omega))
          by_cases c8 : w = 1
          · skip
            refine z_lookupV (1) 75 dX1_tell_41 c8 (by decide) (by decide +kernel) ?_
            refine e_aload_n dX1_tell_75 rfl ?_
            refine e_get (.ref (a + 2)) dX1_tell_76 tf_1_15 (congrArg Prod.fst (cu_s0 hk)) (congrArg va_rf (cu_r0_1 hk)) ?_
            refine e_iload_n dX1_tell_79 rfl ?_
            refine z_ild (yfi y k) dX1_tell_80 (cu_s2 hk) (by decide) (by omega) (by omega) (isK_yfi HY (by omega) (by omega)) ?_
            have y9 := (isK_w HY).2 k (by omega) (by omega)
            refine z_iret dX1_tell_81 rfl ⟨rfl, ?_⟩
            refine z_q kq ?_
            unfold ydZ; first | (exfalso; omega) | (rw [if_pos (by omega), if_pos (by omega)]) | (rw [if_pos (by omega), if_neg (by omega)]) | (rw [if_neg (by omega), if_neg (by omega)]) | (rw [if_neg (by omega), if_pos (by omega)]; subst_vars; first | exact congrArg y (show 1 + 3 * k = 1 + 3 * k + 0 by omega) | exact congrArg y (show 2 + 3 * k = 1 + 3 * k + 1 by omega) | exact congrArg y (show 3 + 3 * k = 1 + 3 * k + 2 by omega))
          refine z_lookupD 82 dX1_tell_41 ⟨by omega, by omega⟩ (by decide +kernel) (by show Op.lookupswitch.offset [(0, 27), (1, 34)] 41 w = 41; rw [Op.lookupswitch.offset_cons, if_neg (by omega), Op.lookupswitch.offset_cons, if_neg (by omega)]; rfl) rfl ?_
          refine e_iload_n dX1_tell_82 rfl ?_
          refine z_iconst (2) dX1_tell_83 rfl ?_
          refine z_icmp_ne 96 dX1_tell_84 rfl ⟨by omega, by omega⟩ ⟨by omega, by omega⟩ (fun c10 => ?_) (fun c10 => ?_)
          · skip
            refine z_bipush (-2) dX1_tell_96 rfl ?_
            refine z_iret dX1_tell_98 rfl ⟨rfl, ?_⟩
            refine z_q kq ?_
            unfold ydZ; first | (exfalso; omega) | (rw [if_pos (by omega), if_pos (by omega)]) | (rw [if_pos (by omega), if_neg (by omega)]) | (rw [if_neg (by omega), if_neg (by omega)]) | (rw [if_neg (by omega), if_pos (by omega)]; subst_vars; first | exact congrArg y (show 1 + 3 * k = 1 + 3 * k + 0 by omega) | exact congrArg y (show 2 + 3 * k = 1 + 3 * k + 1 by omega) | exact congrArg y (show 3 + 3 * k = 1 + 3 * k + 2 by omega))
          · skip
            refine e_aload_n dX1_tell_87 rfl ?_
            refine e_get (.ref (a + 3)) dX1_tell_88 tf_1_18 (congrArg Prod.fst (cu_s0 hk)) (congrArg va_rf (cu_r0_2 hk)) ?_
            refine e_iload_n dX1_tell_91 rfl ?_
            refine z_ild (yse y k) dX1_tell_92 (cu_s3 hk) (by decide) (by omega) (by omega) (isK_yse HY (by omega) (by omega)) ?_
            have y11 := (isK_w HY).2 k (by omega) (by omega)
            refine e_goto 98 dX1_tell_93 rfl ?_
            refine z_iret dX1_tell_98 rfl ⟨rfl, ?_⟩
            refine z_q kq ?_
            unfold ydZ; first | (exfalso; omega) | (rw [if_pos (by omega), if_pos (by omega)]) | (rw [if_pos (by omega), if_neg (by omega)]) | (rw [if_neg (by omega), if_neg (by omega)]) | (rw [if_neg (by omega), if_pos (by omega)]; subst_vars; first | exact congrArg y (show 1 + 3 * k = 1 + 3 * k + 0 by omega) | exact congrArg y (show 2 + 3 * k = 1 + 3 * k + 1 by omega) | exact congrArg y (show 3 + 3 * k = 1 + 3 * k + 2 by omega))
        · skip
          refine z_bipush (-2) dX1_tell_37 rfl ?_
          refine z_iret dX1_tell_39 rfl ⟨rfl, ?_⟩
          refine z_q kq ?_
          unfold ydZ; first | (exfalso; omega) | (rw [if_pos (by omega), if_pos (by omega)]) | (rw [if_pos (by omega), if_neg (by omega)]) | (rw [if_neg (by omega), if_neg (by omega)]) | (rw [if_neg (by omega), if_pos (by omega)]; subst_vars; first | exact congrArg y (show 1 + 3 * k = 1 + 3 * k + 0 by omega) | exact congrArg y (show 2 + 3 * k = 1 + 3 * k + 1 by omega) | exact congrArg y (show 3 + 3 * k = 1 + 3 * k + 2 by omega))
  · skip
    refine e_iload_n dX1_tell_5 rfl ?_
    refine z_if_ne 16 dX1_tell_6 rfl ⟨by omega, by omega⟩ (fun c12 => ?_) (fun c12 => ?_)
    · skip
      refine z_bipush (-2) dX1_tell_16 rfl ?_
      refine z_iret dX1_tell_18 rfl ⟨rfl, ?_⟩
      refine z_q kq ?_
      unfold ydZ; first | (exfalso; omega) | (rw [if_pos (by omega), if_pos (by omega)]) | (rw [if_pos (by omega), if_neg (by omega)]) | (rw [if_neg (by omega), if_neg (by omega)]) | (rw [if_neg (by omega), if_pos (by omega)]; subst_vars; first | exact congrArg y (show 1 + 3 * k = 1 + 3 * k + 0 by omega) | exact congrArg y (show 2 + 3 * k = 1 + 3 * k + 1 by omega) | exact congrArg y (show 3 + 3 * k = 1 + 3 * k + 2 by omega))
    · skip
      refine e_aload_n dX1_tell_9 rfl ?_
      refine z_get (y 0) dX1_tell_10 tf_1_21 (congrArg Prod.fst (cu_s0 hk)) (Or.inl rfl) (isK_n HY) ?_
      have y13 := (isK_w HY).1
      refine e_goto 18 dX1_tell_13 rfl ?_
      refine z_iret dX1_tell_18 rfl ⟨rfl, ?_⟩
      refine z_q kq ?_
      unfold ydZ; first | (exfalso; omega) | (rw [if_pos (by omega), if_pos (by omega)]) | (rw [if_pos (by omega), if_neg (by omega)]) | (rw [if_neg (by omega), if_neg (by omega)]) | (rw [if_neg (by omega), if_pos (by omega)]; subst_vars; first | exact congrArg y (show 1 + 3 * k = 1 + 3 * k + 0 by omega) | exact congrArg y (show 2 + 3 * k = 1 + 3 * k + 1 by omega) | exact congrArg y (show 3 + 3 * k = 1 + 3 * k + 2 by omega))
set_option maxHeartbeats 400000 in
theorem zp_X12_hasYear_in {ad : mA} {dd : Nat} {h : mH} {Q : mQ} {m : Nat} {σ : Sg} (hk : rk h m) (HR : refT h m 0 σ)  (k : Int) (k_r : -2147483648 ≤ k ∧ k < 2147483648) (p1 : 0 ≤ k) (p2 : k < cn σ 1) (kq : ∀ h1, frm (fun a i => a = m ∧ i = 32) h h1 → (rYr h1 m k) → Q (some (.int (zI (bZ True)))) h1) : mCal TB0 ad (dd + 3) M_X12_hasYear [.ref m, .int (zI k)] h 0 0 Q := by
  refine ⟨Nat.le_of_ble_eq_true rfl, ?_⟩
  show mEv TB0 ad M_X12_hasYear (dd + 3) (0, 0) (mCal TB0 ad (dd + 2)) (fun v h' z => z.1 = 0 ∧ Q v h') 0 [some (.ref m), some (.int (zI k))] [] h (0, 0)
  have FR0 : frm (fun a i => a = m ∧ i = 32) h h := frm_0 h
  have w1 := wS_n (refT_w HR)
  refine e_aload_n dX12_hasYear_0 rfl ?_
  refine e_iload_n dX12_hasYear_1 rfl ?_
  refine z_put dX12_hasYear_2 tf_12_301 (rk_s hk) rfl (Or.inl rfl) (fun h1 e2 => ?_)
  have f3 := frm_1 e2
  have k4 := rk_q (frm_s f3) hk
  have H5 := refT_c f3 (fun a k q1 q2 => by omega) HR
  have FR6 := frm_t FR0 (frm_m (S' := (fun a i => a = m ∧ i = 32)) f3 (fun a k q => by omega))
  refine e_aload_n dX12_hasYear_5 rfl ?_
  refine z_iconst (1) dX12_hasYear_6 rfl ?_
  refine e_iload_n dX12_hasYear_7 rfl ?_
  have w2 := refT_cn H5 (i := 1) (by omega) (by omega)
  refine e_callV [.int _, .int _] dX12_hasYear_8 tm_12_254 rfl (Nat.le_of_ble_eq_true rfl) (rk_s k4) (Nat.le_of_ble_eq_true rfl) (Nat.le_refl _) (Nat.le_refl _) rfl (zp_X12_is k4 1 ⟨by omega, by omega⟩ k ⟨by omega, by omega⟩ (by omega) (by omega) (by omega) ?_)
  refine z_bret dX12_hasYear_11 rfl (bZ_01 _) ⟨rfl, ?_⟩
  refine z_qb (kq _ FR6 ⟨(rI_eq e2 ⟨by omega, by omega⟩), p1⟩) ?_
  exact ⟨fun _ => trivial, fun _ => by omega⟩
set_option maxHeartbeats 400000 in
theorem zp_X12_hasYear_out {ad : mA} {dd : Nat} {h : mH} {Q : mQ} {m : Nat} {σ : Sg} (hk : rk h m) (HR : refT h m 0 σ)  (k : Int) (k_r : -2147483648 ≤ k ∧ k < 2147483648) (p1 : ¬ (0 ≤ k ∧ k < cn σ 1)) (kq : ∀ h1, frm (fun a i => a = m ∧ i = 32) h h1 → Q (some (.int (zI (bZ False)))) h1) : mCal TB0 ad (dd + 3) M_X12_hasYear [.ref m, .int (zI k)] h 0 0 Q := by
  refine ⟨Nat.le_of_ble_eq_true rfl, ?_⟩
  show mEv TB0 ad M_X12_hasYear (dd + 3) (0, 0) (mCal TB0 ad (dd + 2)) (fun v h' z => z.1 = 0 ∧ Q v h') 0 [some (.ref m), some (.int (zI k))] [] h (0, 0)
  have FR0 : frm (fun a i => a = m ∧ i = 32) h h := frm_0 h
  have w1 := wS_n (refT_w HR)
  refine e_aload_n dX12_hasYear_0 rfl ?_
  refine e_iload_n dX12_hasYear_1 rfl ?_
  refine z_put dX12_hasYear_2 tf_12_301 (rk_s hk) rfl (Or.inl rfl) (fun h1 e2 => ?_)
  have f3 := frm_1 e2
  have k4 := rk_q (frm_s f3) hk
  have H5 := refT_c f3 (fun a k q1 q2 => by omega) HR
  have FR6 := frm_t FR0 (frm_m (S' := (fun a i => a = m ∧ i = 32)) f3 (fun a k q => by omega))
  refine e_aload_n dX12_hasYear_5 rfl ?_
  refine z_iconst (1) dX12_hasYear_6 rfl ?_
  refine e_iload_n dX12_hasYear_7 rfl ?_
  have w2 := refT_cn H5 (i := 1) (by omega) (by omega)
  refine e_callV [.int _, .int _] dX12_hasYear_8 tm_12_254 rfl (Nat.le_of_ble_eq_true rfl) (rk_s k4) (Nat.le_of_ble_eq_true rfl) (Nat.le_refl _) (Nat.le_refl _) rfl (zp_X12_is k4 1 ⟨by omega, by omega⟩ k ⟨by omega, by omega⟩ (by omega) (by omega) (by omega) ?_)
  refine z_bret dX12_hasYear_11 rfl (bZ_01 _) ⟨rfl, ?_⟩
  refine z_qb (kq _ FR6) ?_
  exact ⟨fun q => by omega, False.elim⟩
set_option maxHeartbeats 400000 in
theorem zp_X12_deeds {ad : mA} {dd : Nat} {h : mH} {Q : mQ} {m : Nat} {σ : Sg} {k : Int} (hk : rk h m) (HR : refT h m 0 σ) (HY : rYr h m k)   (p2 : k < cn σ 1) (kq : Q (some (.int (zI (sY σ k 0)))) h) : mCal TB0 ad (dd + 1) M_X12_deeds [.ref m] h 0 0 Q := by
  refine ⟨Nat.le_of_ble_eq_true rfl, ?_⟩
  show mEv TB0 ad M_X12_deeds (dd + 1) (0, 0) (mCal TB0 ad (dd + 0)) (fun v h' z => z.1 = 0 ∧ Q v h') 0 [some (.ref m)] [] h (0, 0)
  have w1 := wS_n (refT_w HR)
  refine e_aload_n dX12_deeds_0 rfl ?_
  refine e_get (.ref (m + 7)) dX12_deeds_1 tf_12_29 (rk_s hk) (congrArg va_rf (rk_r7 hk)) ?_
  refine z_bipush (121) dX12_deeds_4 rfl ?_
  refine e_aload_n dX12_deeds_6 rfl ?_
  refine z_get k dX12_deeds_7 tf_12_301 (rk_s hk) (Or.inl rfl) HY.1 ?_
  have y1 := HY.2
  refine z_imul dX12_deeds_10 ?_
  refine z_ild (sY σ k 0) dX12_deeds_11 (rk_a7 hk) (by decide) (by omega) (by omega) ((congrArg (rI h (m + 7)) (Int.add_zero _).symm).trans (refT_Y HR HY.2 p2 (by omega) (by omega))) ?_
  refine z_iret dX12_deeds_12 rfl ⟨rfl, ?_⟩
  refine z_q kq ?_
  rfl
set_option maxHeartbeats 400000 in
theorem zp_X12_deedOf {ad : mA} {dd : Nat} {h : mH} {Q : mQ} {m : Nat} {σ : Sg} {k : Int} (hk : rk h m) (HR : refT h m 0 σ) (HY : rYr h m k)  (j : Int) (j_r : -2147483648 ≤ j ∧ j < 2147483648) (w : Int) (w_r : -2147483648 ≤ w ∧ w < 2147483648) (p2 : k < cn σ 1) (p3 : 0 ≤ j) (p4 : j < 40) (p5 : 0 ≤ w) (p6 : w < 3) (kq : Q (some (.int (zI (sY σ k (1 + 3 * j + w))))) h) : mCal TB0 ad (dd + 1) M_X12_deedOf [.ref m, .int (zI j), .int (zI w)] h 0 0 Q := by
  refine ⟨Nat.le_of_ble_eq_true rfl, ?_⟩
  show mEv TB0 ad M_X12_deedOf (dd + 1) (0, 0) (mCal TB0 ad (dd + 0)) (fun v h' z => z.1 = 0 ∧ Q v h') 0 [some (.ref m), some (.int (zI j)), some (.int (zI w))] [] h (0, 0)
  have w1 := wS_n (refT_w HR)
  refine e_aload_n dX12_deedOf_0 rfl ?_
  refine e_get (.ref (m + 7)) dX12_deedOf_1 tf_12_29 (rk_s hk) (congrArg va_rf (rk_r7 hk)) ?_
  refine z_bipush (121) dX12_deedOf_4 rfl ?_
  refine e_aload_n dX12_deedOf_6 rfl ?_
  refine z_get k dX12_deedOf_7 tf_12_301 (rk_s hk) (Or.inl rfl) HY.1 ?_
  have y1 := HY.2
  refine z_imul dX12_deedOf_10 ?_
  refine z_iconst (1) dX12_deedOf_11 rfl ?_
  refine z_iadd dX12_deedOf_12 ?_
  refine z_iconst (3) dX12_deedOf_13 rfl ?_
  refine e_iload_n dX12_deedOf_14 rfl ?_
  refine z_imul dX12_deedOf_15 ?_
  refine z_iadd dX12_deedOf_16 ?_
  refine e_iload_n dX12_deedOf_17 rfl ?_
  refine z_iadd dX12_deedOf_18 ?_
  refine z_ild (sY σ k (1 + 3 * j + w)) dX12_deedOf_19 (rk_a7 hk) (by decide) (by omega) (by omega) ((congrArg (rI h (m + 7)) (show ((((121 * k) + 1) + (3 * j)) + w) = 121 * k + (1 + 3 * j + w) by omega)).trans (refT_Y HR HY.2 p2 (by omega) (by omega))) ?_
  refine z_iret dX12_deedOf_20 rfl ⟨rfl, ?_⟩
  refine z_q kq ?_
  rfl
set_option maxHeartbeats 400000 in
theorem zp_X12_hasClues_in {ad : mA} {dd : Nat} {h : mH} {Q : mQ} {m : Nat} {σ : Sg} (hk : rk h m) (HR : refT h m 0 σ)  (k : Int) (k_r : -2147483648 ≤ k ∧ k < 2147483648) (p1 : 0 ≤ k) (p2 : k < cn σ 2) (kq : ∀ h1, frm (fun a i => a = m ∧ i = 54) h h1 → (rKt h1 m k) → Q (some (.int (zI (bZ True)))) h1) : mCal TB0 ad (dd + 3) M_X12_hasClues [.ref m, .int (zI k)] h 0 0 Q := by
  refine ⟨Nat.le_of_ble_eq_true rfl, ?_⟩
  show mEv TB0 ad M_X12_hasClues (dd + 3) (0, 0) (mCal TB0 ad (dd + 2)) (fun v h' z => z.1 = 0 ∧ Q v h') 0 [some (.ref m), some (.int (zI k))] [] h (0, 0)
  have FR0 : frm (fun a i => a = m ∧ i = 54) h h := frm_0 h
  have w1 := wS_n (refT_w HR)
  refine e_aload_n dX12_hasClues_0 rfl ?_
  refine e_iload_n dX12_hasClues_1 rfl ?_
  refine z_put dX12_hasClues_2 tf_12_502 (rk_s hk) rfl (Or.inl rfl) (fun h1 e2 => ?_)
  have f3 := frm_1 e2
  have k4 := rk_q (frm_s f3) hk
  have H5 := refT_c f3 (fun a k q1 q2 => by omega) HR
  have FR6 := frm_t FR0 (frm_m (S' := (fun a i => a = m ∧ i = 54)) f3 (fun a k q => by omega))
  refine e_aload_n dX12_hasClues_5 rfl ?_
  refine z_iconst (2) dX12_hasClues_6 rfl ?_
  refine e_iload_n dX12_hasClues_7 rfl ?_
  have w2 := refT_cn H5 (i := 2) (by omega) (by omega)
  refine e_callV [.int _, .int _] dX12_hasClues_8 tm_12_254 rfl (Nat.le_of_ble_eq_true rfl) (rk_s k4) (Nat.le_of_ble_eq_true rfl) (Nat.le_refl _) (Nat.le_refl _) rfl (zp_X12_is k4 2 ⟨by omega, by omega⟩ k ⟨by omega, by omega⟩ (by omega) (by omega) (by omega) ?_)
  refine z_bret dX12_hasClues_11 rfl (bZ_01 _) ⟨rfl, ?_⟩
  refine z_qb (kq _ FR6 ⟨(rI_eq e2 ⟨by omega, by omega⟩), p1⟩) ?_
  exact ⟨fun _ => trivial, fun _ => by omega⟩
set_option maxHeartbeats 400000 in
theorem zp_X12_hasClues_out {ad : mA} {dd : Nat} {h : mH} {Q : mQ} {m : Nat} {σ : Sg} (hk : rk h m) (HR : refT h m 0 σ)  (k : Int) (k_r : -2147483648 ≤ k ∧ k < 2147483648) (p1 : ¬ (0 ≤ k ∧ k < cn σ 2)) (kq : ∀ h1, frm (fun a i => a = m ∧ i = 54) h h1 → Q (some (.int (zI (bZ False)))) h1) : mCal TB0 ad (dd + 3) M_X12_hasClues [.ref m, .int (zI k)] h 0 0 Q := by
  refine ⟨Nat.le_of_ble_eq_true rfl, ?_⟩
  show mEv TB0 ad M_X12_hasClues (dd + 3) (0, 0) (mCal TB0 ad (dd + 2)) (fun v h' z => z.1 = 0 ∧ Q v h') 0 [some (.ref m), some (.int (zI k))] [] h (0, 0)
  have FR0 : frm (fun a i => a = m ∧ i = 54) h h := frm_0 h
  have w1 := wS_n (refT_w HR)
  refine e_aload_n dX12_hasClues_0 rfl ?_
  refine e_iload_n dX12_hasClues_1 rfl ?_
  refine z_put dX12_hasClues_2 tf_12_502 (rk_s hk) rfl (Or.inl rfl) (fun h1 e2 => ?_)
  have f3 := frm_1 e2
  have k4 := rk_q (frm_s f3) hk
  have H5 := refT_c f3 (fun a k q1 q2 => by omega) HR
  have FR6 := frm_t FR0 (frm_m (S' := (fun a i => a = m ∧ i = 54)) f3 (fun a k q => by omega))
  refine e_aload_n dX12_hasClues_5 rfl ?_
  refine z_iconst (2) dX12_hasClues_6 rfl ?_
  refine e_iload_n dX12_hasClues_7 rfl ?_
  have w2 := refT_cn H5 (i := 2) (by omega) (by omega)
  refine e_callV [.int _, .int _] dX12_hasClues_8 tm_12_254 rfl (Nat.le_of_ble_eq_true rfl) (rk_s k4) (Nat.le_of_ble_eq_true rfl) (Nat.le_refl _) (Nat.le_refl _) rfl (zp_X12_is k4 2 ⟨by omega, by omega⟩ k ⟨by omega, by omega⟩ (by omega) (by omega) (by omega) ?_)
  refine z_bret dX12_hasClues_11 rfl (bZ_01 _) ⟨rfl, ?_⟩
  refine z_qb (kq _ FR6) ?_
  exact ⟨fun q => by omega, False.elim⟩
set_option maxHeartbeats 400000 in
theorem zp_X12_clueMany {ad : mA} {dd : Nat} {h : mH} {Q : mQ} {m : Nat} {σ : Sg} {k : Int} (hk : rk h m) (HR : refT h m 0 σ) (HY : rKt h m k)   (p2 : k < cn σ 2) (kq : Q (some (.int (zI (sC σ k 0)))) h) : mCal TB0 ad (dd + 1) M_X12_clueMany [.ref m] h 0 0 Q := by
  refine ⟨Nat.le_of_ble_eq_true rfl, ?_⟩
  show mEv TB0 ad M_X12_clueMany (dd + 1) (0, 0) (mCal TB0 ad (dd + 0)) (fun v h' z => z.1 = 0 ∧ Q v h') 0 [some (.ref m)] [] h (0, 0)
  have w1 := wS_n (refT_w HR)
  refine e_aload_n dX12_clueMany_0 rfl ?_
  refine e_get (.ref (m + 8)) dX12_clueMany_1 tf_12_32 (rk_s hk) (congrArg va_rf (rk_r8 hk)) ?_
  refine z_bipush (25) dX12_clueMany_4 rfl ?_
  refine e_aload_n dX12_clueMany_6 rfl ?_
  refine z_get k dX12_clueMany_7 tf_12_502 (rk_s hk) (Or.inl rfl) HY.1 ?_
  have y1 := HY.2
  refine z_imul dX12_clueMany_10 ?_
  refine z_ild (sC σ k 0) dX12_clueMany_11 (rk_a8 hk) (by decide) (by omega) (by omega) ((congrArg (rI h (m + 8)) (Int.add_zero _).symm).trans (refT_K HR HY.2 p2 (by omega) (by omega))) ?_
  refine z_iret dX12_clueMany_12 rfl ⟨rfl, ?_⟩
  refine z_q kq ?_
  rfl
set_option maxHeartbeats 400000 in
theorem zp_X12_clueOf {ad : mA} {dd : Nat} {h : mH} {Q : mQ} {m : Nat} {σ : Sg} {k : Int} (hk : rk h m) (HR : refT h m 0 σ) (HY : rKt h m k)  (j : Int) (j_r : -2147483648 ≤ j ∧ j < 2147483648) (w : Int) (w_r : -2147483648 ≤ w ∧ w < 2147483648) (p2 : k < cn σ 2) (p3 : 0 ≤ j) (p4 : j < 8) (p5 : 0 ≤ w) (p6 : w < 3) (kq : Q (some (.int (zI (sC σ k (1 + 3 * j + w))))) h) : mCal TB0 ad (dd + 1) M_X12_clueOf [.ref m, .int (zI j), .int (zI w)] h 0 0 Q := by
  refine ⟨Nat.le_of_ble_eq_true rfl, ?_⟩
  show mEv TB0 ad M_X12_clueOf (dd + 1) (0, 0) (mCal TB0 ad (dd + 0)) (fun v h' z => z.1 = 0 ∧ Q v h') 0 [some (.ref m), some (.int (zI j)), some (.int (zI w))] [] h (0, 0)
  have w1 := wS_n (refT_w HR)
  refine e_aload_n dX12_clueOf_0 rfl ?_
  refine e_get (.ref (m + 8)) dX12_clueOf_1 tf_12_32 (rk_s hk) (congrArg va_rf (rk_r8 hk)) ?_
  refine z_bipush (25) dX12_clueOf_4 rfl ?_
  refine e_aload_n dX12_clueOf_6 rfl ?_
  refine z_get k dX12_clueOf_7 tf_12_502 (rk_s hk) (Or.inl rfl) HY.1 ?_
  have y1 := HY.2
  refine z_imul dX12_clueOf_10 ?_
  refine z_iconst (1) dX12_clueOf_11 rfl ?_
  refine z_iadd dX12_clueOf_12 ?_
  refine z_iconst (3) dX12_clueOf_13 rfl ?_
  refine e_iload_n dX12_clueOf_14 rfl ?_
  refine z_imul dX12_clueOf_15 ?_
  refine z_iadd dX12_clueOf_16 ?_
  refine e_iload_n dX12_clueOf_17 rfl ?_
  refine z_iadd dX12_clueOf_18 ?_
  refine z_ild (sC σ k (1 + 3 * j + w)) dX12_clueOf_19 (rk_a8 hk) (by decide) (by omega) (by omega) ((congrArg (rI h (m + 8)) (show ((((25 * k) + 1) + (3 * j)) + w) = 25 * k + (1 + 3 * j + w) by omega)).trans (refT_K HR HY.2 p2 (by omega) (by omega))) ?_
  refine z_iret dX12_clueOf_20 rfl ⟨rfl, ?_⟩
  refine z_q kq ?_
  rfl

/-! TEXT: the reference's lines of all sorts -/
theorem dX12_forgeLine_0 : decode cX12_forgeLine 0 = .ok (.lload_n 1, 1) := by decide +kernel
theorem dX12_forgeLine_1 : decode cX12_forgeLine 1 = .ok (.ldc2_w 183, 3) := by decide +kernel
theorem dX12_forgeLine_4 : decode cX12_forgeLine 4 = .ok (.lcmp, 1) := by decide +kernel
theorem dX12_forgeLine_5 : decode cX12_forgeLine 5 = .ok (.ifCond .eq 32, 3) := by decide +kernel
theorem dX12_forgeLine_8 : decode cX12_forgeLine 8 = .ok (.lload_n 1, 1) := by decide +kernel
theorem dX12_forgeLine_9 : decode cX12_forgeLine 9 = .ok (.ldc2_w 185, 3) := by decide +kernel
theorem dX12_forgeLine_12 : decode cX12_forgeLine 12 = .ok (.lcmp, 1) := by decide +kernel
theorem dX12_forgeLine_13 : decode cX12_forgeLine 13 = .ok (.ifCond .eq 24, 3) := by decide +kernel
theorem dX12_forgeLine_16 : decode cX12_forgeLine 16 = .ok (.lload_n 1, 1) := by decide +kernel
theorem dX12_forgeLine_17 : decode cX12_forgeLine 17 = .ok (.ldc2_w 187, 3) := by decide +kernel
theorem dX12_forgeLine_20 : decode cX12_forgeLine 20 = .ok (.lcmp, 1) := by decide +kernel
theorem dX12_forgeLine_21 : decode cX12_forgeLine 21 = .ok (.ifCond .eq 16, 3) := by decide +kernel
theorem dX12_forgeLine_24 : decode cX12_forgeLine 24 = .ok (.lload_n 1, 1) := by decide +kernel
theorem dX12_forgeLine_25 : decode cX12_forgeLine 25 = .ok (.ldc2_w 189, 3) := by decide +kernel
theorem dX12_forgeLine_28 : decode cX12_forgeLine 28 = .ok (.lcmp, 1) := by decide +kernel
theorem dX12_forgeLine_29 : decode cX12_forgeLine 29 = .ok (.ifCond .eq 8, 3) := by decide +kernel
theorem dX12_forgeLine_32 : decode cX12_forgeLine 32 = .ok (.aload_n 0, 1) := by decide +kernel
theorem dX12_forgeLine_33 : decode cX12_forgeLine 33 = .ok (.invokevirtual 155, 3) := by decide +kernel
theorem dX12_forgeLine_36 : decode cX12_forgeLine 36 = .ok (.ireturn, 1) := by decide +kernel
theorem dX12_forgeLine_37 : decode cX12_forgeLine 37 = .ok (.lload_n 1, 1) := by decide +kernel
theorem dX12_forgeLine_38 : decode cX12_forgeLine 38 = .ok (.ldc2_w 187, 3) := by decide +kernel
theorem dX12_forgeLine_41 : decode cX12_forgeLine 41 = .ok (.lcmp, 1) := by decide +kernel
theorem dX12_forgeLine_42 : decode cX12_forgeLine 42 = .ok (.ifCond .eq 35, 3) := by decide +kernel
theorem dX12_forgeLine_45 : decode cX12_forgeLine 45 = .ok (.aload_n 0, 1) := by decide +kernel
theorem dX12_forgeLine_46 : decode cX12_forgeLine 46 = .ok (.lload_n 1, 1) := by decide +kernel
theorem dX12_forgeLine_47 : decode cX12_forgeLine 47 = .ok (.ldc2_w 183, 3) := by decide +kernel
theorem dX12_forgeLine_50 : decode cX12_forgeLine 50 = .ok (.lcmp, 1) := by decide +kernel
theorem dX12_forgeLine_51 : decode cX12_forgeLine 51 = .ok (.ifCond .ne 7, 3) := by decide +kernel
theorem dX12_forgeLine_54 : decode cX12_forgeLine 54 = .ok (.iconst 0, 1) := by decide +kernel
theorem dX12_forgeLine_55 : decode cX12_forgeLine 55 = .ok (.goto 16, 3) := by decide +kernel
theorem dX12_forgeLine_58 : decode cX12_forgeLine 58 = .ok (.lload_n 1, 1) := by decide +kernel
theorem dX12_forgeLine_59 : decode cX12_forgeLine 59 = .ok (.ldc2_w 185, 3) := by decide +kernel
theorem dX12_forgeLine_62 : decode cX12_forgeLine 62 = .ok (.lcmp, 1) := by decide +kernel
theorem dX12_forgeLine_63 : decode cX12_forgeLine 63 = .ok (.ifCond .ne 7, 3) := by decide +kernel
theorem dX12_forgeLine_66 : decode cX12_forgeLine 66 = .ok (.iconst 1, 1) := by decide +kernel
theorem dX12_forgeLine_67 : decode cX12_forgeLine 67 = .ok (.goto 4, 3) := by decide +kernel
theorem dX12_forgeLine_70 : decode cX12_forgeLine 70 = .ok (.iconst 2, 1) := by decide +kernel
theorem dX12_forgeLine_71 : decode cX12_forgeLine 71 = .ok (.bipush 6, 2) := by decide +kernel
theorem dX12_forgeLine_73 : decode cX12_forgeLine 73 = .ok (.iload_n 3, 1) := by decide +kernel
theorem dX12_forgeLine_74 : decode cX12_forgeLine 74 = .ok (.invokevirtual 191, 3) := by decide +kernel
theorem dX12_forgeLine_77 : decode cX12_forgeLine 77 = .ok (.aload_n 0, 1) := by decide +kernel
theorem dX12_forgeLine_78 : decode cX12_forgeLine 78 = .ok (.invokevirtual 167, 3) := by decide +kernel
theorem dX12_forgeLine_81 : decode cX12_forgeLine 81 = .ok (.lload_n 1, 1) := by decide +kernel
theorem dX12_forgeLine_82 : decode cX12_forgeLine 82 = .ok (.ldc2_w 187, 3) := by decide +kernel
theorem dX12_forgeLine_85 : decode cX12_forgeLine 85 = .ok (.lcmp, 1) := by decide +kernel
theorem dX12_forgeLine_86 : decode cX12_forgeLine 86 = .ok (.ifCond .ne 10, 3) := by decide +kernel
theorem dX12_forgeLine_89 : decode cX12_forgeLine 89 = .ok (.aload_n 0, 1) := by decide +kernel
theorem dX12_forgeLine_90 : decode cX12_forgeLine 90 = .ok (.invokevirtual 195, 3) := by decide +kernel
theorem dX12_forgeLine_93 : decode cX12_forgeLine 93 = .ok (.goto 35, 3) := by decide +kernel
theorem dX12_forgeLine_96 : decode cX12_forgeLine 96 = .ok (.lload_n 1, 1) := by decide +kernel
theorem dX12_forgeLine_97 : decode cX12_forgeLine 97 = .ok (.ldc2_w 189, 3) := by decide +kernel
theorem dX12_forgeLine_100 : decode cX12_forgeLine 100 = .ok (.lcmp, 1) := by decide +kernel
theorem dX12_forgeLine_101 : decode cX12_forgeLine 101 = .ok (.ifCond .ne 10, 3) := by decide +kernel
theorem dX12_forgeLine_104 : decode cX12_forgeLine 104 = .ok (.aload_n 0, 1) := by decide +kernel
theorem dX12_forgeLine_105 : decode cX12_forgeLine 105 = .ok (.invokevirtual 198, 3) := by decide +kernel
theorem dX12_forgeLine_108 : decode cX12_forgeLine 108 = .ok (.goto 20, 3) := by decide +kernel
theorem dX12_forgeLine_111 : decode cX12_forgeLine 111 = .ok (.aload_n 0, 1) := by decide +kernel
theorem dX12_forgeLine_112 : decode cX12_forgeLine 112 = .ok (.lload_n 1, 1) := by decide +kernel
theorem dX12_forgeLine_113 : decode cX12_forgeLine 113 = .ok (.ldc2_w 183, 3) := by decide +kernel
theorem dX12_forgeLine_116 : decode cX12_forgeLine 116 = .ok (.lcmp, 1) := by decide +kernel
theorem dX12_forgeLine_117 : decode cX12_forgeLine 117 = .ok (.ifCond .ne 7, 3) := by decide +kernel
theorem dX12_forgeLine_120 : decode cX12_forgeLine 120 = .ok (.iconst 0, 1) := by decide +kernel
theorem dX12_forgeLine_121 : decode cX12_forgeLine 121 = .ok (.goto 4, 3) := by decide +kernel
theorem dX12_forgeLine_124 : decode cX12_forgeLine 124 = .ok (.iconst 1, 1) := by decide +kernel
theorem dX12_forgeLine_125 : decode cX12_forgeLine 125 = .ok (.invokevirtual 201, 3) := by decide +kernel
theorem dX12_forgeLine_128 : decode cX12_forgeLine 128 = .ok (.ireturn, 1) := by decide +kernel
theorem dX12_deedBy_0 : decode cX12_deedBy 0 = .ok (.lload_n 0, 1) := by decide +kernel
theorem dX12_deedBy_1 : decode cX12_deedBy 1 = .ok (.ldc2_w 187, 3) := by decide +kernel
theorem dX12_deedBy_4 : decode cX12_deedBy 4 = .ok (.lcmp, 1) := by decide +kernel
theorem dX12_deedBy_5 : decode cX12_deedBy 5 = .ok (.ifCond .ne 7, 3) := by decide +kernel
theorem dX12_deedBy_8 : decode cX12_deedBy 8 = .ok (.iconst 0, 1) := by decide +kernel
theorem dX12_deedBy_9 : decode cX12_deedBy 9 = .ok (.goto 77, 3) := by decide +kernel
theorem dX12_deedBy_12 : decode cX12_deedBy 12 = .ok (.lload_n 0, 1) := by decide +kernel
theorem dX12_deedBy_13 : decode cX12_deedBy 13 = .ok (.ldc2_w 205, 3) := by decide +kernel
theorem dX12_deedBy_16 : decode cX12_deedBy 16 = .ok (.lcmp, 1) := by decide +kernel
theorem dX12_deedBy_17 : decode cX12_deedBy 17 = .ok (.ifCond .ne 7, 3) := by decide +kernel
theorem dX12_deedBy_20 : decode cX12_deedBy 20 = .ok (.iconst 1, 1) := by decide +kernel
theorem dX12_deedBy_21 : decode cX12_deedBy 21 = .ok (.goto 65, 3) := by decide +kernel
theorem dX12_deedBy_24 : decode cX12_deedBy 24 = .ok (.lload_n 0, 1) := by decide +kernel
theorem dX12_deedBy_25 : decode cX12_deedBy 25 = .ok (.ldc2_w 207, 3) := by decide +kernel
theorem dX12_deedBy_28 : decode cX12_deedBy 28 = .ok (.lcmp, 1) := by decide +kernel
theorem dX12_deedBy_29 : decode cX12_deedBy 29 = .ok (.ifCond .ne 7, 3) := by decide +kernel
theorem dX12_deedBy_32 : decode cX12_deedBy 32 = .ok (.iconst 2, 1) := by decide +kernel
theorem dX12_deedBy_33 : decode cX12_deedBy 33 = .ok (.goto 53, 3) := by decide +kernel
theorem dX12_deedBy_36 : decode cX12_deedBy 36 = .ok (.lload_n 0, 1) := by decide +kernel
theorem dX12_deedBy_37 : decode cX12_deedBy 37 = .ok (.ldc2_w 209, 3) := by decide +kernel
theorem dX12_deedBy_40 : decode cX12_deedBy 40 = .ok (.lcmp, 1) := by decide +kernel
theorem dX12_deedBy_41 : decode cX12_deedBy 41 = .ok (.ifCond .ne 7, 3) := by decide +kernel
theorem dX12_deedBy_44 : decode cX12_deedBy 44 = .ok (.iconst 3, 1) := by decide +kernel
theorem dX12_deedBy_45 : decode cX12_deedBy 45 = .ok (.goto 41, 3) := by decide +kernel
theorem dX12_deedBy_48 : decode cX12_deedBy 48 = .ok (.lload_n 0, 1) := by decide +kernel
theorem dX12_deedBy_49 : decode cX12_deedBy 49 = .ok (.ldc2_w 211, 3) := by decide +kernel
theorem dX12_deedBy_52 : decode cX12_deedBy 52 = .ok (.lcmp, 1) := by decide +kernel
theorem dX12_deedBy_53 : decode cX12_deedBy 53 = .ok (.ifCond .ne 7, 3) := by decide +kernel
theorem dX12_deedBy_56 : decode cX12_deedBy 56 = .ok (.iconst 4, 1) := by decide +kernel
theorem dX12_deedBy_57 : decode cX12_deedBy 57 = .ok (.goto 29, 3) := by decide +kernel
theorem dX12_deedBy_60 : decode cX12_deedBy 60 = .ok (.lload_n 0, 1) := by decide +kernel
theorem dX12_deedBy_61 : decode cX12_deedBy 61 = .ok (.ldc2_w 213, 3) := by decide +kernel
theorem dX12_deedBy_64 : decode cX12_deedBy 64 = .ok (.lcmp, 1) := by decide +kernel
theorem dX12_deedBy_65 : decode cX12_deedBy 65 = .ok (.ifCond .ne 7, 3) := by decide +kernel
theorem dX12_deedBy_68 : decode cX12_deedBy 68 = .ok (.iconst 5, 1) := by decide +kernel
theorem dX12_deedBy_69 : decode cX12_deedBy 69 = .ok (.goto 17, 3) := by decide +kernel
theorem dX12_deedBy_72 : decode cX12_deedBy 72 = .ok (.lload_n 0, 1) := by decide +kernel
theorem dX12_deedBy_73 : decode cX12_deedBy 73 = .ok (.ldc2_w 215, 3) := by decide +kernel
theorem dX12_deedBy_76 : decode cX12_deedBy 76 = .ok (.lcmp, 1) := by decide +kernel
theorem dX12_deedBy_77 : decode cX12_deedBy 77 = .ok (.ifCond .ne 8, 3) := by decide +kernel
theorem dX12_deedBy_80 : decode cX12_deedBy 80 = .ok (.bipush 6, 2) := by decide +kernel
theorem dX12_deedBy_82 : decode cX12_deedBy 82 = .ok (.goto 4, 3) := by decide +kernel
theorem dX12_deedBy_85 : decode cX12_deedBy 85 = .ok (.iconst (-1), 1) := by decide +kernel
theorem dX12_deedBy_86 : decode cX12_deedBy 86 = .ok (.ireturn, 1) := by decide +kernel
theorem dX12_takeSide_0 : decode cX12_takeSide 0 = .ok (.aload_n 0, 1) := by decide +kernel
theorem dX12_takeSide_1 : decode cX12_takeSide 1 = .ok (.getfield 140, 3) := by decide +kernel
theorem dX12_takeSide_4 : decode cX12_takeSide 4 = .ok (.iconst 2, 1) := by decide +kernel
theorem dX12_takeSide_5 : decode cX12_takeSide 5 = .ok (.if_icmp .ne 29, 3) := by decide +kernel
theorem dX12_takeSide_8 : decode cX12_takeSide 8 = .ok (.aload_n 0, 1) := by decide +kernel
theorem dX12_takeSide_9 : decode cX12_takeSide 9 = .ok (.getfield 136, 3) := by decide +kernel
theorem dX12_takeSide_12 : decode cX12_takeSide 12 = .ok (.ldc2_w 183, 3) := by decide +kernel
theorem dX12_takeSide_15 : decode cX12_takeSide 15 = .ok (.lcmp, 1) := by decide +kernel
theorem dX12_takeSide_16 : decode cX12_takeSide 16 = .ok (.ifCond .eq 14, 3) := by decide +kernel
theorem dX12_takeSide_19 : decode cX12_takeSide 19 = .ok (.aload_n 0, 1) := by decide +kernel
theorem dX12_takeSide_20 : decode cX12_takeSide 20 = .ok (.getfield 136, 3) := by decide +kernel
theorem dX12_takeSide_23 : decode cX12_takeSide 23 = .ok (.ldc2_w 185, 3) := by decide +kernel
theorem dX12_takeSide_26 : decode cX12_takeSide 26 = .ok (.lcmp, 1) := by decide +kernel
theorem dX12_takeSide_27 : decode cX12_takeSide 27 = .ok (.ifCond .ne 7, 3) := by decide +kernel
theorem dX12_takeSide_30 : decode cX12_takeSide 30 = .ok (.iconst 1, 1) := by decide +kernel
theorem dX12_takeSide_31 : decode cX12_takeSide 31 = .ok (.goto 4, 3) := by decide +kernel
theorem dX12_takeSide_34 : decode cX12_takeSide 34 = .ok (.iconst 0, 1) := by decide +kernel
theorem dX12_takeSide_35 : decode cX12_takeSide 35 = .ok (.istore_n 1, 1) := by decide +kernel
theorem dX12_takeSide_36 : decode cX12_takeSide 36 = .ok (.iload_n 1, 1) := by decide +kernel
theorem dX12_takeSide_37 : decode cX12_takeSide 37 = .ok (.ifCond .ne 8, 3) := by decide +kernel
theorem dX12_takeSide_40 : decode cX12_takeSide 40 = .ok (.aload_n 0, 1) := by decide +kernel
theorem dX12_takeSide_41 : decode cX12_takeSide 41 = .ok (.invokevirtual 155, 3) := by decide +kernel
theorem dX12_takeSide_44 : decode cX12_takeSide 44 = .ok (.ireturn, 1) := by decide +kernel
theorem dX12_takeSide_45 : decode cX12_takeSide 45 = .ok (.aload_n 0, 1) := by decide +kernel
theorem dX12_takeSide_46 : decode cX12_takeSide 46 = .ok (.getfield 38, 3) := by decide +kernel
theorem dX12_takeSide_49 : decode cX12_takeSide 49 = .ok (.iconst 1, 1) := by decide +kernel
theorem dX12_takeSide_50 : decode cX12_takeSide 50 = .ok (.aload_n 0, 1) := by decide +kernel
theorem dX12_takeSide_51 : decode cX12_takeSide 51 = .ok (.getfield 136, 3) := by decide +kernel
theorem dX12_takeSide_54 : decode cX12_takeSide 54 = .ok (.ldc2_w 185, 3) := by decide +kernel
theorem dX12_takeSide_57 : decode cX12_takeSide 57 = .ok (.lcmp, 1) := by decide +kernel
theorem dX12_takeSide_58 : decode cX12_takeSide 58 = .ok (.ifCond .ne 7, 3) := by decide +kernel
theorem dX12_takeSide_61 : decode cX12_takeSide 61 = .ok (.iconst 1, 1) := by decide +kernel
theorem dX12_takeSide_62 : decode cX12_takeSide 62 = .ok (.goto 4, 3) := by decide +kernel
theorem dX12_takeSide_65 : decode cX12_takeSide 65 = .ok (.iconst 0, 1) := by decide +kernel
theorem dX12_takeSide_66 : decode cX12_takeSide 66 = .ok (.iastore, 1) := by decide +kernel
theorem dX12_takeSide_67 : decode cX12_takeSide 67 = .ok (.aload_n 0, 1) := by decide +kernel
theorem dX12_takeSide_68 : decode cX12_takeSide 68 = .ok (.invokevirtual 167, 3) := by decide +kernel
theorem dX12_takeSide_71 : decode cX12_takeSide 71 = .ok (.aload_n 0, 1) := by decide +kernel
theorem dX12_takeSide_72 : decode cX12_takeSide 72 = .ok (.iconst 2, 1) := by decide +kernel
theorem dX12_takeSide_73 : decode cX12_takeSide 73 = .ok (.iconst 0, 1) := by decide +kernel
theorem dX12_takeSide_74 : decode cX12_takeSide 74 = .ok (.iconst 5, 1) := by decide +kernel
theorem dX12_takeSide_75 : decode cX12_takeSide 75 = .ok (.invokevirtual 170, 3) := by decide +kernel
theorem dX12_takeSide_78 : decode cX12_takeSide 78 = .ok (.ireturn, 1) := by decide +kernel
theorem dX12_yearLine_0 : decode cX12_yearLine 0 = .ok (.lload_n 1, 1) := by decide +kernel
theorem dX12_yearLine_1 : decode cX12_yearLine 1 = .ok (.invokestatic 217, 3) := by decide +kernel
theorem dX12_yearLine_4 : decode cX12_yearLine 4 = .ok (.istore 4, 2) := by decide +kernel
theorem dX12_yearLine_6 : decode cX12_yearLine 6 = .ok (.iload 4, 2) := by decide +kernel
theorem dX12_yearLine_8 : decode cX12_yearLine 8 = .ok (.iconst (-1), 1) := by decide +kernel
theorem dX12_yearLine_9 : decode cX12_yearLine 9 = .ok (.if_icmp .ne 8, 3) := by decide +kernel
theorem dX12_yearLine_12 : decode cX12_yearLine 12 = .ok (.aload_n 0, 1) := by decide +kernel
theorem dX12_yearLine_13 : decode cX12_yearLine 13 = .ok (.invokevirtual 155, 3) := by decide +kernel
theorem dX12_yearLine_16 : decode cX12_yearLine 16 = .ok (.ireturn, 1) := by decide +kernel
theorem dX12_yearLine_17 : decode cX12_yearLine 17 = .ok (.aload_n 0, 1) := by decide +kernel
theorem dX12_yearLine_18 : decode cX12_yearLine 18 = .ok (.iconst 0, 1) := by decide +kernel
theorem dX12_yearLine_19 : decode cX12_yearLine 19 = .ok (.bipush 40, 2) := by decide +kernel
theorem dX12_yearLine_21 : decode cX12_yearLine 21 = .ok (.iload_n 3, 1) := by decide +kernel
theorem dX12_yearLine_22 : decode cX12_yearLine 22 = .ok (.invokevirtual 191, 3) := by decide +kernel
theorem dX12_yearLine_25 : decode cX12_yearLine 25 = .ok (.aload_n 0, 1) := by decide +kernel
theorem dX12_yearLine_26 : decode cX12_yearLine 26 = .ok (.invokevirtual 167, 3) := by decide +kernel
theorem dX12_yearLine_29 : decode cX12_yearLine 29 = .ok (.aload_n 0, 1) := by decide +kernel
theorem dX12_yearLine_30 : decode cX12_yearLine 30 = .ok (.getfield 38, 3) := by decide +kernel
theorem dX12_yearLine_33 : decode cX12_yearLine 33 = .ok (.iconst 1, 1) := by decide +kernel
theorem dX12_yearLine_34 : decode cX12_yearLine 34 = .ok (.iconst (-1), 1) := by decide +kernel
theorem dX12_yearLine_35 : decode cX12_yearLine 35 = .ok (.iastore, 1) := by decide +kernel
theorem dX12_yearLine_36 : decode cX12_yearLine 36 = .ok (.aload_n 0, 1) := by decide +kernel
theorem dX12_yearLine_37 : decode cX12_yearLine 37 = .ok (.getfield 38, 3) := by decide +kernel
theorem dX12_yearLine_40 : decode cX12_yearLine 40 = .ok (.iconst 2, 1) := by decide +kernel
theorem dX12_yearLine_41 : decode cX12_yearLine 41 = .ok (.iconst (-1), 1) := by decide +kernel
theorem dX12_yearLine_42 : decode cX12_yearLine 42 = .ok (.iastore, 1) := by decide +kernel
theorem dX12_yearLine_43 : decode cX12_yearLine 43 = .ok (.iload 4, 2) := by decide +kernel
theorem dX12_yearLine_45 : decode cX12_yearLine 45 = .ok (.iconst 4, 1) := by decide +kernel
theorem dX12_yearLine_46 : decode cX12_yearLine 46 = .ok (.if_icmp .ne 10, 3) := by decide +kernel
theorem dX12_yearLine_49 : decode cX12_yearLine 49 = .ok (.aload_n 0, 1) := by decide +kernel
theorem dX12_yearLine_50 : decode cX12_yearLine 50 = .ok (.invokevirtual 221, 3) := by decide +kernel
theorem dX12_yearLine_53 : decode cX12_yearLine 53 = .ok (.ifCond .eq 47, 3) := by decide +kernel
theorem dX12_yearLine_56 : decode cX12_yearLine 56 = .ok (.iload 4, 2) := by decide +kernel
theorem dX12_yearLine_58 : decode cX12_yearLine 58 = .ok (.iconst 4, 1) := by decide +kernel
theorem dX12_yearLine_59 : decode cX12_yearLine 59 = .ok (.if_icmp .eq 20, 3) := by decide +kernel
theorem dX12_yearLine_62 : decode cX12_yearLine 62 = .ok (.iload 4, 2) := by decide +kernel
theorem dX12_yearLine_64 : decode cX12_yearLine 64 = .ok (.bipush 6, 2) := by decide +kernel
theorem dX12_yearLine_66 : decode cX12_yearLine 66 = .ok (.if_icmp .eq 13, 3) := by decide +kernel
theorem dX12_yearLine_69 : decode cX12_yearLine 69 = .ok (.aload_n 0, 1) := by decide +kernel
theorem dX12_yearLine_70 : decode cX12_yearLine 70 = .ok (.iconst 1, 1) := by decide +kernel
theorem dX12_yearLine_71 : decode cX12_yearLine 71 = .ok (.iconst 0, 1) := by decide +kernel
theorem dX12_yearLine_72 : decode cX12_yearLine 72 = .ok (.iconst 5, 1) := by decide +kernel
theorem dX12_yearLine_73 : decode cX12_yearLine 73 = .ok (.invokevirtual 170, 3) := by decide +kernel
theorem dX12_yearLine_76 : decode cX12_yearLine 76 = .ok (.ifCond .eq 24, 3) := by decide +kernel
theorem dX12_yearLine_79 : decode cX12_yearLine 79 = .ok (.iload 4, 2) := by decide +kernel
theorem dX12_yearLine_81 : decode cX12_yearLine 81 = .ok (.ifCond .eq 9, 3) := by decide +kernel
theorem dX12_yearLine_84 : decode cX12_yearLine 84 = .ok (.iload 4, 2) := by decide +kernel
theorem dX12_yearLine_86 : decode cX12_yearLine 86 = .ok (.iconst 3, 1) := by decide +kernel
theorem dX12_yearLine_87 : decode cX12_yearLine 87 = .ok (.if_icmp .ne 15, 3) := by decide +kernel
theorem dX12_yearLine_90 : decode cX12_yearLine 90 = .ok (.aload_n 0, 1) := by decide +kernel
theorem dX12_yearLine_91 : decode cX12_yearLine 91 = .ok (.iconst 2, 1) := by decide +kernel
theorem dX12_yearLine_92 : decode cX12_yearLine 92 = .ok (.iconst 0, 1) := by decide +kernel
theorem dX12_yearLine_93 : decode cX12_yearLine 93 = .ok (.iconst 5, 1) := by decide +kernel
theorem dX12_yearLine_94 : decode cX12_yearLine 94 = .ok (.invokevirtual 170, 3) := by decide +kernel
theorem dX12_yearLine_97 : decode cX12_yearLine 97 = .ok (.ifCond .ne 5, 3) := by decide +kernel
theorem dX12_yearLine_100 : decode cX12_yearLine 100 = .ok (.iconst 0, 1) := by decide +kernel
theorem dX12_yearLine_101 : decode cX12_yearLine 101 = .ok (.ireturn, 1) := by decide +kernel
theorem dX12_yearLine_102 : decode cX12_yearLine 102 = .ok (.aload_n 0, 1) := by decide +kernel
theorem dX12_yearLine_103 : decode cX12_yearLine 103 = .ok (.getfield 38, 3) := by decide +kernel
theorem dX12_yearLine_106 : decode cX12_yearLine 106 = .ok (.iconst 0, 1) := by decide +kernel
theorem dX12_yearLine_107 : decode cX12_yearLine 107 = .ok (.iload 4, 2) := by decide +kernel
theorem dX12_yearLine_109 : decode cX12_yearLine 109 = .ok (.iastore, 1) := by decide +kernel
theorem dX12_yearLine_110 : decode cX12_yearLine 110 = .ok (.aload_n 0, 1) := by decide +kernel
theorem dX12_yearLine_111 : decode cX12_yearLine 111 = .ok (.bipush 40, 2) := by decide +kernel
theorem dX12_yearLine_113 : decode cX12_yearLine 113 = .ok (.invokevirtual 224, 3) := by decide +kernel
theorem dX12_yearLine_116 : decode cX12_yearLine 116 = .ok (.iconst 1, 1) := by decide +kernel
theorem dX12_yearLine_117 : decode cX12_yearLine 117 = .ok (.ireturn, 1) := by decide +kernel
theorem dX12_clueLine_0 : decode cX12_clueLine 0 = .ok (.lload_n 1, 1) := by decide +kernel
theorem dX12_clueLine_1 : decode cX12_clueLine 1 = .ok (.ldc2_w 227, 3) := by decide +kernel
theorem dX12_clueLine_4 : decode cX12_clueLine 4 = .ok (.lcmp, 1) := by decide +kernel
theorem dX12_clueLine_5 : decode cX12_clueLine 5 = .ok (.ifCond .ne 7, 3) := by decide +kernel
theorem dX12_clueLine_8 : decode cX12_clueLine 8 = .ok (.iconst 0, 1) := by decide +kernel
theorem dX12_clueLine_9 : decode cX12_clueLine 9 = .ok (.goto 40, 3) := by decide +kernel
theorem dX12_clueLine_12 : decode cX12_clueLine 12 = .ok (.lload_n 1, 1) := by decide +kernel
theorem dX12_clueLine_13 : decode cX12_clueLine 13 = .ok (.ldc2_w 229, 3) := by decide +kernel
theorem dX12_clueLine_16 : decode cX12_clueLine 16 = .ok (.lcmp, 1) := by decide +kernel
theorem dX12_clueLine_17 : decode cX12_clueLine 17 = .ok (.ifCond .ne 7, 3) := by decide +kernel
theorem dX12_clueLine_20 : decode cX12_clueLine 20 = .ok (.iconst 1, 1) := by decide +kernel
theorem dX12_clueLine_21 : decode cX12_clueLine 21 = .ok (.goto 28, 3) := by decide +kernel
theorem dX12_clueLine_24 : decode cX12_clueLine 24 = .ok (.lload_n 1, 1) := by decide +kernel
theorem dX12_clueLine_25 : decode cX12_clueLine 25 = .ok (.ldc2_w 231, 3) := by decide +kernel
theorem dX12_clueLine_28 : decode cX12_clueLine 28 = .ok (.lcmp, 1) := by decide +kernel
theorem dX12_clueLine_29 : decode cX12_clueLine 29 = .ok (.ifCond .ne 7, 3) := by decide +kernel
theorem dX12_clueLine_32 : decode cX12_clueLine 32 = .ok (.iconst 2, 1) := by decide +kernel
theorem dX12_clueLine_33 : decode cX12_clueLine 33 = .ok (.goto 16, 3) := by decide +kernel
theorem dX12_clueLine_36 : decode cX12_clueLine 36 = .ok (.lload_n 1, 1) := by decide +kernel
theorem dX12_clueLine_37 : decode cX12_clueLine 37 = .ok (.ldc2_w 233, 3) := by decide +kernel
theorem dX12_clueLine_40 : decode cX12_clueLine 40 = .ok (.lcmp, 1) := by decide +kernel
theorem dX12_clueLine_41 : decode cX12_clueLine 41 = .ok (.ifCond .ne 7, 3) := by decide +kernel
theorem dX12_clueLine_44 : decode cX12_clueLine 44 = .ok (.iconst 3, 1) := by decide +kernel
theorem dX12_clueLine_45 : decode cX12_clueLine 45 = .ok (.goto 4, 3) := by decide +kernel
theorem dX12_clueLine_48 : decode cX12_clueLine 48 = .ok (.iconst (-1), 1) := by decide +kernel
theorem dX12_clueLine_49 : decode cX12_clueLine 49 = .ok (.istore 4, 2) := by decide +kernel
theorem dX12_clueLine_51 : decode cX12_clueLine 51 = .ok (.iload 4, 2) := by decide +kernel
theorem dX12_clueLine_53 : decode cX12_clueLine 53 = .ok (.iconst (-1), 1) := by decide +kernel
theorem dX12_clueLine_54 : decode cX12_clueLine 54 = .ok (.if_icmp .ne 8, 3) := by decide +kernel
theorem dX12_clueLine_57 : decode cX12_clueLine 57 = .ok (.aload_n 0, 1) := by decide +kernel
theorem dX12_clueLine_58 : decode cX12_clueLine 58 = .ok (.invokevirtual 155, 3) := by decide +kernel
theorem dX12_clueLine_61 : decode cX12_clueLine 61 = .ok (.ireturn, 1) := by decide +kernel
theorem dX12_clueLine_62 : decode cX12_clueLine 62 = .ok (.aload_n 0, 1) := by decide +kernel
theorem dX12_clueLine_63 : decode cX12_clueLine 63 = .ok (.iconst 0, 1) := by decide +kernel
theorem dX12_clueLine_64 : decode cX12_clueLine 64 = .ok (.bipush 8, 2) := by decide +kernel
theorem dX12_clueLine_66 : decode cX12_clueLine 66 = .ok (.iload_n 3, 1) := by decide +kernel
theorem dX12_clueLine_67 : decode cX12_clueLine 67 = .ok (.invokevirtual 191, 3) := by decide +kernel
theorem dX12_clueLine_70 : decode cX12_clueLine 70 = .ok (.aload_n 0, 1) := by decide +kernel
theorem dX12_clueLine_71 : decode cX12_clueLine 71 = .ok (.invokevirtual 167, 3) := by decide +kernel
theorem dX12_clueLine_74 : decode cX12_clueLine 74 = .ok (.aload_n 0, 1) := by decide +kernel
theorem dX12_clueLine_75 : decode cX12_clueLine 75 = .ok (.getfield 38, 3) := by decide +kernel
theorem dX12_clueLine_78 : decode cX12_clueLine 78 = .ok (.iconst 2, 1) := by decide +kernel
theorem dX12_clueLine_79 : decode cX12_clueLine 79 = .ok (.iconst 1, 1) := by decide +kernel
theorem dX12_clueLine_80 : decode cX12_clueLine 80 = .ok (.iastore, 1) := by decide +kernel
theorem dX12_clueLine_81 : decode cX12_clueLine 81 = .ok (.aload_n 0, 1) := by decide +kernel
theorem dX12_clueLine_82 : decode cX12_clueLine 82 = .ok (.getfield 140, 3) := by decide +kernel
theorem dX12_clueLine_85 : decode cX12_clueLine 85 = .ok (.iconst 2, 1) := by decide +kernel
theorem dX12_clueLine_86 : decode cX12_clueLine 86 = .ok (.if_icmp .ne 25, 3) := by decide +kernel
theorem dX12_clueLine_89 : decode cX12_clueLine 89 = .ok (.aload_n 0, 1) := by decide +kernel
theorem dX12_clueLine_90 : decode cX12_clueLine 90 = .ok (.getfield 136, 3) := by decide +kernel
theorem dX12_clueLine_93 : decode cX12_clueLine 93 = .ok (.ldc2_w 235, 3) := by decide +kernel
theorem dX12_clueLine_96 : decode cX12_clueLine 96 = .ok (.lcmp, 1) := by decide +kernel
theorem dX12_clueLine_97 : decode cX12_clueLine 97 = .ok (.ifCond .ne 14, 3) := by decide +kernel
theorem dX12_clueLine_100 : decode cX12_clueLine 100 = .ok (.aload_n 0, 1) := by decide +kernel
theorem dX12_clueLine_101 : decode cX12_clueLine 101 = .ok (.getfield 38, 3) := by decide +kernel
theorem dX12_clueLine_104 : decode cX12_clueLine 104 = .ok (.iconst 2, 1) := by decide +kernel
theorem dX12_clueLine_105 : decode cX12_clueLine 105 = .ok (.iconst 0, 1) := by decide +kernel
theorem dX12_clueLine_106 : decode cX12_clueLine 106 = .ok (.iastore, 1) := by decide +kernel
theorem dX12_clueLine_107 : decode cX12_clueLine 107 = .ok (.aload_n 0, 1) := by decide +kernel
theorem dX12_clueLine_108 : decode cX12_clueLine 108 = .ok (.invokevirtual 167, 3) := by decide +kernel
theorem dX12_clueLine_111 : decode cX12_clueLine 111 = .ok (.aload_n 0, 1) := by decide +kernel
theorem dX12_clueLine_112 : decode cX12_clueLine 112 = .ok (.iconst 1, 1) := by decide +kernel
theorem dX12_clueLine_113 : decode cX12_clueLine 113 = .ok (.iconst 0, 1) := by decide +kernel
theorem dX12_clueLine_114 : decode cX12_clueLine 114 = .ok (.iload 4, 2) := by decide +kernel
theorem dX12_clueLine_116 : decode cX12_clueLine 116 = .ok (.iconst 1, 1) := by decide +kernel
theorem dX12_clueLine_117 : decode cX12_clueLine 117 = .ok (.if_icmp .ne 8, 3) := by decide +kernel
theorem dX12_clueLine_120 : decode cX12_clueLine 120 = .ok (.bipush 20, 2) := by decide +kernel
theorem dX12_clueLine_122 : decode cX12_clueLine 122 = .ok (.goto 15, 3) := by decide +kernel
theorem dX12_clueLine_125 : decode cX12_clueLine 125 = .ok (.iload 4, 2) := by decide +kernel
theorem dX12_clueLine_127 : decode cX12_clueLine 127 = .ok (.iconst 3, 1) := by decide +kernel
theorem dX12_clueLine_128 : decode cX12_clueLine 128 = .ok (.if_icmp .ne 7, 3) := by decide +kernel
theorem dX12_clueLine_131 : decode cX12_clueLine 131 = .ok (.iconst 2, 1) := by decide +kernel
theorem dX12_clueLine_132 : decode cX12_clueLine 132 = .ok (.goto 5, 3) := by decide +kernel
theorem dX12_clueLine_135 : decode cX12_clueLine 135 = .ok (.bipush 40, 2) := by decide +kernel
theorem dX12_clueLine_137 : decode cX12_clueLine 137 = .ok (.invokevirtual 170, 3) := by decide +kernel
theorem dX12_clueLine_140 : decode cX12_clueLine 140 = .ok (.ifCond .ne 5, 3) := by decide +kernel
theorem dX12_clueLine_143 : decode cX12_clueLine 143 = .ok (.iconst 0, 1) := by decide +kernel
theorem dX12_clueLine_144 : decode cX12_clueLine 144 = .ok (.ireturn, 1) := by decide +kernel
theorem dX12_clueLine_145 : decode cX12_clueLine 145 = .ok (.aload_n 0, 1) := by decide +kernel
theorem dX12_clueLine_146 : decode cX12_clueLine 146 = .ok (.getfield 38, 3) := by decide +kernel
theorem dX12_clueLine_149 : decode cX12_clueLine 149 = .ok (.iconst 0, 1) := by decide +kernel
theorem dX12_clueLine_150 : decode cX12_clueLine 150 = .ok (.iload 4, 2) := by decide +kernel
theorem dX12_clueLine_152 : decode cX12_clueLine 152 = .ok (.iastore, 1) := by decide +kernel
theorem dX12_clueLine_153 : decode cX12_clueLine 153 = .ok (.aload_n 0, 1) := by decide +kernel
theorem dX12_clueLine_154 : decode cX12_clueLine 154 = .ok (.bipush 8, 2) := by decide +kernel
theorem dX12_clueLine_156 : decode cX12_clueLine 156 = .ok (.invokevirtual 224, 3) := by decide +kernel
theorem dX12_clueLine_159 : decode cX12_clueLine 159 = .ok (.iconst 1, 1) := by decide +kernel
theorem dX12_clueLine_160 : decode cX12_clueLine 160 = .ok (.ireturn, 1) := by decide +kernel
set_option maxRecDepth 20000 in
theorem tm_12_191 : tMet TB0 12 191 = some (0, M_X12_full) := rfl
set_option maxRecDepth 20000 in
theorem tm_12_195 : tMet TB0 12 195 = some (0, M_X12_rivetLine) := rfl
set_option maxRecDepth 20000 in
theorem tm_12_198 : tMet TB0 12 198 = some (0, M_X12_clothLine) := rfl
set_option maxRecDepth 20000 in
theorem tm_12_201 : tMet TB0 12 201 = some (0, M_X12_bladeLine) := rfl
set_option maxRecDepth 20000 in
theorem tm_12_217 : tMet TB0 12 217 = some (1, M_X12_deedBy) := rfl
set_option maxRecDepth 20000 in
theorem tm_12_221 : tMet TB0 12 221 = some (0, M_X12_takeSide) := rfl
set_option maxRecDepth 20000 in
theorem tm_12_224 : tMet TB0 12 224 = some (0, M_X12_keep) := rfl
theorem tl_12_183 : tLdl TB0 12 183 = some (1685026670) := rfl
theorem tl_12_185 : tLdl TB0 12 185 = some (30064) := rfl
theorem tl_12_187 : tLdl TB0 12 187 = some (491395638644) := rfl
theorem tl_12_189 : tLdl TB0 12 189 = some (427021005928) := rfl
theorem tl_12_205 : tLdl TB0 12 205 = some (1751474548) := rfl
theorem tl_12_207 : tLdl TB0 12 207 = some (1885434484) := rfl
theorem tl_12_209 : tLdl TB0 12 209 = some (6518132) := rfl
theorem tl_12_211 : tLdl TB0 12 211 = some (444301143652) := rfl
theorem tl_12_213 : tLdl TB0 12 213 = some (7301484) := rfl
theorem tl_12_215 : tLdl TB0 12 215 = some (6578553) := rfl
theorem tl_12_227 : tLdl TB0 12 227 = some (1819242087) := rfl
theorem tl_12_229 : tLdl TB0 12 229 = some (418497262196) := rfl
theorem tl_12_231 : tLdl TB0 12 231 = some (491496236904) := rfl
theorem tl_12_233 : tLdl TB0 12 233 = some (1818584692) := rfl
theorem tl_12_235 : tLdl TB0 12 235 = some (28271) := rfl
/-! TEXT: the reference's lines of all sorts -/
def dbR (W v : Int) : Prop := (W = 491395638644 ∧ v = 0) ∨ (W = 1751474548 ∧ v = 1) ∨ (W = 1885434484 ∧ v = 2) ∨ (W = 6518132 ∧ v = 3) ∨ (W = 444301143652 ∧ v = 4) ∨ (W = 7301484 ∧ v = 5) ∨ (W = 6578553 ∧ v = 6) ∨ (W ≠ 491395638644 ∧ W ≠ 1751474548 ∧ W ≠ 1885434484 ∧ W ≠ 6518132 ∧ W ≠ 444301143652 ∧ W ≠ 7301484 ∧ W ≠ 6578553 ∧ v = -1)
theorem db_b {W v : Int} (H : dbR W v) : -1 ≤ v ∧ v ≤ 6 := by unfold dbR at H; omega
theorem db_n {W v : Int} (H : dbR W v) (e : v = -1) : ¬ knL 1 W := fun z => by unfold dbR at H; unfold knL at z; omega
def lnN (s : Int) (T : Int → Int) (L p : Int) : Prop := knL s (tkW T L p) ∧ sdL s T L p ∧ acN T L (bsL s (tkW T L p)) (npL s T L p)
def enS (s : Int) (T : Int → Int) (L p : Int) : Int := enN T L (bsL s (tkW T L p)) (npL s T L p)
theorem lnA_N {s : Int} {T : Int → Int} {L p : Int} : lnA s T L p ↔ lnN s T L p ∧ tkK T L (enS s T L p) = 2 := ⟨fun z => ⟨⟨z.1, z.2.1, ((ac_N _ _).mp z.2.2).1⟩, ((ac_N _ _).mp z.2.2).2⟩, fun z => ⟨z.1.1, z.1.2.1, (ac_N _ _).mpr ⟨z.1.2.2, z.2⟩⟩⟩
theorem lnE_N {s : Int} {T : Int → Int} {L p : Int} : lnE s T L p = tkE T L (enS s T L p) := en_N _ _
theorem lnX_N {s : Int} {T : Int → Int} {L p : Int} (h : lnN s T L p) : lnX s T L p = tkS T L (enS s T L p) := by
  unfold lnX; rw [if_pos h.1, if_pos h.2.1]; exact xp_N _ _ h.2.2
def rfO (h1 : mH) (m : Nat) (T : Int → Int) (L s p f q : Int) (C : Int → Int) (v : Int) (X : Prop) : Prop := (v = 1 ∧ lnN s T L p ∧ rfP h1 m T L (enS s T L p) ∧ rfF h1 m (lfL s T L p C f) (lqL s T L p C f q) ∧ X) ∨ (v = 0 ∧ ¬ lnN s T L p ∧ rI h1 m 15 = lnX s T L p)
theorem f1_of {s : Int} {T C : Int → Int} {L p f q : Int} {c : Prop} [Decidable c] (ec : fuL s (tkW T L p) C ↔ c) : f1L s T L p C f = ntF c 3 f ∧ q1L s T L p C f q = ntQ c (tkS T L p) f q := @nt_iff _ _ (Classical.propDecidable _) _ 3 (tkS T L p) f q ec
theorem f1_no {s : Int} {T C : Int → Int} {L p f q : Int} (ec : ¬ fuL s (tkW T L p) C) : f1L s T L p C f = f ∧ q1L s T L p C f q = q := @nt_n _ (Classical.propDecidable _) 3 (tkS T L p) f q (fun z => ec z.1)
theorem ref_of {h1 : mH} {m : Nat} {T : Int → Int} {L s p f q v p0 f' q' : Int} {C : Int → Int} {X X' : Prop} {bs : List (Int × Int)} (kn : knL s (tkW T L p)) (sd : sdL s T L p) (eb : bsL s (tkW T L p) = bs) (ep : npL s T L p = p0) (en : f1L s T L p C f = f' ∧ q1L s T L p C f q = q') (hx : X → X') (H : rlO h1 m T L bs p0 f' q' v X) : rfO h1 m T L s p f q C v X' := by
  rcases H with ⟨a, d, e, g, x⟩ | ⟨a, d, e⟩
  · refine Or.inl ⟨a, ⟨kn, sd, by rw [eb, ep]; exact d⟩, ?_, ?_, hx x⟩
    · unfold enS; rw [eb, ep]; exact e
    · unfold lfL lqL; rw [eb, ep, en.1, en.2]; exact g
  · refine Or.inr ⟨a, fun z => d (by have z2 := z.2.2; rw [eb, ep] at z2; exact z2), ?_⟩
    unfold lnX
    rw [if_pos kn, if_pos sd, eb, ep]; exact e
theorem ref_bad {h1 : mH} {m : Nat} {T : Int → Int} {L s p f q : Int} {C : Int → Int} {X : Prop} (kn : ¬ knL s (tkW T L p)) (H : rI h1 m 15 = tkS T L p) : rfO h1 m T L s p f q C 0 X := Or.inr ⟨rfl, fun z => kn z.1, by unfold lnX; rw [if_neg kn]; exact H⟩
theorem ref_side {h1 : mH} {m : Nat} {T : Int → Int} {L s p f q : Int} {C : Int → Int} {X : Prop} (kn : knL s (tkW T L p)) (sd : ¬ sdL s T L p) (H : rI h1 m 15 = tkS T L (tkE T L p)) : rfO h1 m T L s p f q C 0 X := Or.inr ⟨rfl, fun z => sd z.2.1, by unfold lnX; rw [if_pos kn, if_neg sd]; exact H⟩
def fdL (T : Int → Int) (L p d : Int) : Int := if tkW T L p = 491395638644 then max d (tkV T L (tkE T L p)) else d
def fpL (T : Int → Int) (L p u : Int) : Int := if tkW T L p = 491395638644 then max u (tkV T L (tkE T L (tkE T L p))) else u
def sidR (h1 : mH) (m : Nat) (T : Int → Int) (L p f q v : Int) : Prop := (v = 1 ∧ (tkW T L p = 1685026670 ∨ tkW T L p = 30064) ∧ tkK T L (tkE T L p) = 1 ∧ rfP h1 m T L (tkE T L (tkE T L p)) ∧ rfF h1 m (ntF (¬ (0 ≤ (tkV T L (tkE T L p)) ∧ (tkV T L (tkE T L p)) ≤ 5)) 2 f) (ntQ (¬ (0 ≤ (tkV T L (tkE T L p)) ∧ (tkV T L (tkE T L p)) ≤ 5)) (tkS T L (tkE T L p)) f q) ∧ rI h1 (m + 10) 1 = (if tkW T L p = 30064 then 1 else 0) ∧ rI h1 (m + 10) 2 = (tkV T L (tkE T L p))) ∨ (v = 0 ∧ ((¬ (tkW T L p = 1685026670 ∨ tkW T L p = 30064) ∧ rI h1 m 15 = tkS T L p) ∨ ((tkW T L p = 1685026670 ∨ tkW T L p = 30064) ∧ tkK T L (tkE T L p) ≠ 1 ∧ rI h1 m 15 = tkS T L (tkE T L p))))
theorem sdr_1 {h1 : mH} {m : Nat} {T : Int → Int} {L p f q v : Int} (H : sidR h1 m T L p f q v) (z : v ≠ 0) : (tkW T L p = 1685026670 ∨ tkW T L p = 30064) ∧ tkK T L (tkE T L p) = 1 ∧ rfP h1 m T L (tkE T L (tkE T L p)) ∧ rfF h1 m (ntF (¬ (0 ≤ (tkV T L (tkE T L p)) ∧ (tkV T L (tkE T L p)) ≤ 5)) 2 f) (ntQ (¬ (0 ≤ (tkV T L (tkE T L p)) ∧ (tkV T L (tkE T L p)) ≤ 5)) (tkS T L (tkE T L p)) f q) ∧ rI h1 (m + 10) 1 = (if tkW T L p = 30064 then 1 else 0) ∧ rI h1 (m + 10) 2 = (tkV T L (tkE T L p)) := by
  rcases H with w | w
  · exact w.2
  · exact absurd w.1 z
theorem sdr_0 {h1 : mH} {m : Nat} {T : Int → Int} {L p f q v : Int} (H : sidR h1 m T L p f q v) (z : v = 0) : (¬ (tkW T L p = 1685026670 ∨ tkW T L p = 30064) ∧ rI h1 m 15 = tkS T L p) ∨ ((tkW T L p = 1685026670 ∨ tkW T L p = 30064) ∧ tkK T L (tkE T L p) ≠ 1 ∧ rI h1 m 15 = tkS T L (tkE T L p)) := by
  rcases H with w | w
  · exact absurd w.1 (by omega)
  · exact w.2
theorem db_2 {T C : Int → Int} {L p v : Int} (H : dbR (tkW T L p) v) (hv : v = 0 ∨ v = 3) : knL 1 (tkW T L p) ∧ bsL 1 (tkW T L p) = [(0, 5), (0, 5)] ∧ npL 1 T L p = (tkE T L p) ∧ (fuL 1 (tkW T L p) C ↔ 40 ≤ C 0) ∧ lcL 1 T L p C = adY 40 C v (tkV T L (tkE T L p)) (tkV T L (tkE T L (tkE T L p))) ∧ (tkW T L p = 444301143652 ↔ v = 4) := by
  have H2 : (tkW T L p = 491395638644 ∧ v = 0) ∨ (tkW T L p = 6518132 ∧ v = 3) := by unfold dbR at H; omega
  rcases H2 with ⟨z, e⟩ | ⟨z, e⟩
  · have K := kn_1rivet (C := C) z
    rw [e]; exact ⟨K.1, K.2.1, K.2.2.1, K.2.2.2.1, K.2.2.2.2, by omega⟩
  · have K := kn_1cut (C := C) z
    rw [e]; exact ⟨K.1, K.2.1, K.2.2.1, K.2.2.2.1, K.2.2.2.2, by omega⟩
theorem db_1 {T C : Int → Int} {L p v : Int} (H : dbR (tkW T L p) v) (hv : v = 1 ∨ v = 2 ∨ v = 5) : knL 1 (tkW T L p) ∧ bsL 1 (tkW T L p) = [(0, 5)] ∧ npL 1 T L p = (tkE T L p) ∧ (fuL 1 (tkW T L p) C ↔ 40 ≤ C 0) ∧ lcL 1 T L p C = adY 40 C v (tkV T L (tkE T L p)) (-1) ∧ (tkW T L p = 444301143652 ↔ v = 4) := by
  have H2 : (tkW T L p = 1751474548 ∧ v = 1) ∨ (tkW T L p = 1885434484 ∧ v = 2) ∨ (tkW T L p = 7301484 ∧ v = 5) := by unfold dbR at H; omega
  rcases H2 with ⟨z, e⟩ | ⟨z, e⟩ | ⟨z, e⟩
  · have K := kn_1heat (C := C) z
    rw [e]; exact ⟨K.1, K.2.1, K.2.2.1, K.2.2.2.1, K.2.2.2.2, by omega⟩
  · have K := kn_1part (C := C) z
    rw [e]; exact ⟨K.1, K.2.1, K.2.2.1, K.2.2.2.1, K.2.2.2.2, by omega⟩
  · have K := kn_1oil (C := C) z
    rw [e]; exact ⟨K.1, K.2.1, K.2.2.1, K.2.2.2.1, K.2.2.2.2, by omega⟩
theorem db_0 {T C : Int → Int} {L p v : Int} (H : dbR (tkW T L p) v) (hv : v = 6) : knL 1 (tkW T L p) ∧ bsL 1 (tkW T L p) = [] ∧ npL 1 T L p = (tkE T L p) ∧ (fuL 1 (tkW T L p) C ↔ 40 ≤ C 0) ∧ lcL 1 T L p C = adY 40 C v (-1) (-1) ∧ (tkW T L p = 444301143652 ↔ v = 4) := by
  have H2 : (tkW T L p = 6578553 ∧ v = 6) := by unfold dbR at H; omega
  obtain ⟨z, e⟩ := H2
  have K := kn_1day (C := C) z
  rw [e]; exact ⟨K.1, K.2.1, K.2.2.1, K.2.2.2.1, K.2.2.2.2, by omega⟩
theorem db_g {T C : Int → Int} {L p v : Int} (H : dbR (tkW T L p) v) (hv : v = 4) : knL 1 (tkW T L p) ∧ bsL 1 (tkW T L p) = [(0, 5)] ∧ npL 1 T L p = (tkE T L (tkE T L p)) ∧ (fuL 1 (tkW T L p) C ↔ 40 ≤ C 0) ∧ lcL 1 T L p C = adY 40 C v (if tkW T L (tkE T L p) = 30064 then 1 else 0) (tkV T L (tkE T L (tkE T L p))) ∧ (tkW T L p = 444301143652 ↔ v = 4) := by
  have H2 : (tkW T L p = 444301143652 ∧ v = 4) := by unfold dbR at H; omega
  obtain ⟨z, e⟩ := H2
  have K := kn_1grind (C := C) z
  rw [e]; exact ⟨K.1, K.2.1, K.2.2.1, K.2.2.2.1, K.2.2.2.2, by omega⟩
set_option maxHeartbeats 1000000 in
theorem zp_X12_takeSide {ad : mA} {dd : Nat} {h : mH} {Q : mQ} {m : Nat} {T : Int → Int} {L p f q : Int} (hk : rk h m) (HT : rfT h m T L) (HP : rfP h m T L p) (HF : rfF h m f q)   (pn : nqB f q (tkS T L p)) (kq : ∀ v : Int, (v = 0 ∨ v = 1) → ∀ h1, frm (fun a j => (a = m ∧ (j = 9 ∨ (11 ≤ j ∧ j ≤ 17) ∨ j = 22)) ∨ (a = m + 10 ∧ (j = 1 ∨ j = 2))) h h1 → (sidR h1 m T L p f q v) → Q (some (.int (zI v))) h1) : mCal TB0 ad (dd + 4) M_X12_takeSide [.ref m] h 0 0 Q := by
  refine ⟨Nat.le_of_ble_eq_true rfl, ?_⟩
  show mEv TB0 ad M_X12_takeSide (dd + 4) (0, 0) (mCal TB0 ad (dd + 3)) (fun v h' z => z.1 = 0 ∧ Q v h') 0 [some (.ref m), none] [] h (0, 0)
  have FR0 : frm (fun a j => (a = m ∧ (j = 9 ∨ (11 ≤ j ∧ j ≤ 17) ∨ j = 22)) ∨ (a = m + 10 ∧ (j = 1 ∨ j = 2))) h h := frm_0 h
  have w1 := HT.1
  have p0 := HP.1
  have tb := tk_b (T := T) HP.1.1 HP.1.2
  have wb := tw_b (T := T) (L := L) (p := p)
  refine e_aload_n dX12_takeSide_0 rfl ?_
  refine z_get (ksZ (tkK T L p)) dX12_takeSide_1 tf_12_140 (rk_s hk) (Or.inl rfl) HP.2.2.1 ?_
  have y1 := tk_b (T := T) HP.1.1 HP.1.2
  have y2 := HP.1
  have y3 := ks_p (tkK T L p)
  refine z_iconst (2) dX12_takeSide_4 rfl ?_
  refine z_icmp_ne 34 dX12_takeSide_5 rfl ⟨by omega, by omega⟩ ⟨by omega, by omega⟩ (fun c4 => ?_) (fun c4 => ?_)
  · skip
    refine z_iconst (0) dX12_takeSide_34 rfl ?_
    refine e_istore_n (L' := [_, _]) dX12_takeSide_35 (Nat.le_of_ble_eq_true rfl) rfl ?_
    refine e_iload_n dX12_takeSide_36 rfl ?_
    refine z_if_ne 45 dX12_takeSide_37 rfl ⟨by omega, by omega⟩ (fun c5 => ?_) (fun c5 => ?_)
    · exfalso; omega
    · skip
      refine e_aload_n dX12_takeSide_40 rfl ?_
      refine e_callV [] dX12_takeSide_41 tm_12_155 rfl (Nat.le_of_ble_eq_true rfl) (rk_s hk) (Nat.le_of_ble_eq_true rfl) (Nat.le_refl _) (Nat.le_refl _) rfl (zp_X12_fails hk HP (by omega) (fun  h6 f7 p8 => ?_))
      have k9 := rk_q (frm_s f7) hk
      have H10 := rfT_c f7 (fun a k q => by omega) HT
      have H11 := rfP_c f7 (fun a k q => by omega) HP
      have H12 := rfF_c f7 (fun a k q => by omega) HF
      have FR13 := frm_t FR0 (frm_m (S' := (fun a j => (a = m ∧ (j = 9 ∨ (11 ≤ j ∧ j ≤ 17) ∨ j = 22)) ∨ (a = m + 10 ∧ (j = 1 ∨ j = 2)))) f7 (fun a k q => by omega))
      skip
      refine z_bret dX12_takeSide_44 rfl (bZ_01 _) ⟨rfl, ?_⟩
      exact kq 0 (Or.inl rfl) _ FR13 (Or.inr ⟨rfl, Or.inl ⟨by have w0 := tw_0 (T := T) (L := L) (p := p); omega, p8⟩⟩)
  · skip
    refine e_aload_n dX12_takeSide_8 rfl ?_
    refine z_getJ (tkW T L p) dX12_takeSide_9 tf_12_136 (rk_s hk) rfl (HP.2.2.2.2.2) ?_
    have y14 := tw_b (T := T) (L := L) (p := p)
    refine z_ldc2 (1685026670) dX12_takeSide_12 tl_12_183 rfl ?_
    refine z_lcmp dX12_takeSide_15 ⟨by omega, by omega⟩ ⟨by omega, by omega⟩ ?_
    refine z_ifl_eq 30 dX12_takeSide_16 rfl (fun c15 => ?_) (fun c15 => ?_)
    · skip
      refine z_iconst (1) dX12_takeSide_30 rfl ?_
      refine e_goto 35 dX12_takeSide_31 rfl ?_
      refine e_istore_n (L' := [_, _]) dX12_takeSide_35 (Nat.le_of_ble_eq_true rfl) rfl ?_
      refine e_iload_n dX12_takeSide_36 rfl ?_
      refine z_if_ne 45 dX12_takeSide_37 rfl ⟨by omega, by omega⟩ (fun c16 => ?_) (fun c16 => ?_)
      · skip
        refine e_aload_n dX12_takeSide_45 rfl ?_
        refine e_get (.ref (m + 10)) dX12_takeSide_46 tf_12_38 (rk_s hk) (congrArg va_rf (rk_r10 hk)) ?_
        refine z_iconst (1) dX12_takeSide_49 rfl ?_
        refine e_aload_n dX12_takeSide_50 rfl ?_
        refine z_getJ (tkW T L p) dX12_takeSide_51 tf_12_136 (rk_s hk) rfl (HP.2.2.2.2.2) ?_
        have y17 := tw_b (T := T) (L := L) (p := p)
        refine z_ldc2 (30064) dX12_takeSide_54 tl_12_185 rfl ?_
        refine z_lcmp dX12_takeSide_57 ⟨by omega, by omega⟩ ⟨by omega, by omega⟩ ?_
        refine z_ifl_ne 65 dX12_takeSide_58 rfl (fun c18 => ?_) (fun c18 => ?_)
        · skip
          refine z_iconst (0) dX12_takeSide_65 rfl ?_
          refine z_ist dX12_takeSide_66 (rk_a10 hk) (by decide) (by omega) (by omega) (fun h19 e20 => ?_)
          have f21 := frm_1 e20
          have k22 := rk_q (frm_s f21) hk
          have H23 := rfT_c f21 (fun a k q => by omega) HT
          have H24 := rfP_c f21 (fun a k q => by omega) HP
          have H25 := rfF_c f21 (fun a k q => by omega) HF
          have FR26 := frm_t FR0 (frm_m (S' := (fun a j => (a = m ∧ (j = 9 ∨ (11 ≤ j ∧ j ≤ 17) ∨ j = 22)) ∨ (a = m + 10 ∧ (j = 1 ∨ j = 2)))) f21 (fun a k q => by omega))
          refine e_aload_n dX12_takeSide_67 rfl ?_
          have tk2 := tk_b (T := T) (L := L) (p := tkE T L p) (by omega) (by omega)
          have PN75 : nqB f q (tkS T L (tkE T L p)) := nqB_m pn (by omega)
          refine e_callV [] dX12_takeSide_68 tm_12_167 rfl (Nat.le_of_ble_eq_true rfl) (rk_s k22) (Nat.le_of_ble_eq_true rfl) (Nat.le_refl _) (Nat.le_refl _) rfl (zp_X12_token k22 H23 (tkE T L p) H24.2.1 (by omega) (fun  h27 f28 p29 => ?_))
          have k30 := rk_q (frm_s f28) k22
          have H31 := rfT_c f28 (fun a k q => by omega) H23
          have H32 := rfF_c f28 (fun a k q => by omega) H25
          have FR33 := frm_t FR26 (frm_m (S' := (fun a j => (a = m ∧ (j = 9 ∨ (11 ≤ j ∧ j ≤ 17) ∨ j = 22)) ∨ (a = m + 10 ∧ (j = 1 ∨ j = 2)))) f28 (fun a k q => by omega))
          refine e_aload_n dX12_takeSide_71 rfl ?_
          refine z_iconst (2) dX12_takeSide_72 rfl ?_
          refine z_iconst (0) dX12_takeSide_73 rfl ?_
          refine z_iconst (5) dX12_takeSide_74 rfl ?_
          refine e_callV [.int _, .int _, .int _] dX12_takeSide_75 tm_12_170 rfl (Nat.le_of_ble_eq_true rfl) (rk_s k30) (Nat.le_of_ble_eq_true rfl) (Nat.le_refl _) (Nat.le_refl _) rfl (zp_X12_take k30 H31 p29 H32 2 ⟨by omega, by omega⟩ 0 ⟨by omega, by omega⟩ 5 ⟨by omega, by omega⟩ PN75 (by omega) (fun v34 p35 h36 f37 p38 => ?_))
          have k39 := rk_q (frm_s f37) k30
          have H40 := rfT_c f37 (fun a k q => by omega) H31
          have FR41 := frm_t FR33 (frm_m (S' := (fun a j => (a = m ∧ (j = 9 ∨ (11 ≤ j ∧ j ≤ 17) ∨ j = 22)) ∨ (a = m + 10 ∧ (j = 1 ∨ j = 2)))) f37 (fun a k q => by omega))
          skip
          refine z_bret dX12_takeSide_78 rfl (by omega) ⟨rfl, ?_⟩
          rcases p38 with ⟨w, k5, P5, F5, N5, _⟩ | ⟨w, k5, F5⟩
          · exact kq _ (Or.inr w) _ FR41 (Or.inl ⟨w, by omega, k5, P5, F5, by first | (rw [if_pos (by omega)]; exact (((frm_r f37 (by omega)).trans (frm_r f28 (by omega))).trans (rI_eq e20 ⟨by omega, by omega⟩))) | (rw [if_neg (by omega)]; exact (((frm_r f37 (by omega)).trans (frm_r f28 (by omega))).trans (rI_eq e20 ⟨by omega, by omega⟩))), N5⟩)
          · exact kq _ (Or.inl w) _ FR41 (Or.inr ⟨w, Or.inr ⟨by omega, k5, F5⟩⟩)
        · skip
          refine z_iconst (1) dX12_takeSide_61 rfl ?_
          refine e_goto 66 dX12_takeSide_62 rfl ?_
          refine z_ist dX12_takeSide_66 (rk_a10 hk) (by decide) (by omega) (by omega) (fun h42 e43 => ?_)
          have f44 := frm_1 e43
          have k45 := rk_q (frm_s f44) hk
          have H46 := rfT_c f44 (fun a k q => by omega) HT
          have H47 := rfP_c f44 (fun a k q => by omega) HP
          have H48 := rfF_c f44 (fun a k q => by omega) HF
          have FR49 := frm_t FR0 (frm_m (S' := (fun a j => (a = m ∧ (j = 9 ∨ (11 ≤ j ∧ j ≤ 17) ∨ j = 22)) ∨ (a = m + 10 ∧ (j = 1 ∨ j = 2)))) f44 (fun a k q => by omega))
          refine e_aload_n dX12_takeSide_67 rfl ?_
          have tk2 := tk_b (T := T) (L := L) (p := tkE T L p) (by omega) (by omega)
          have PN75 : nqB f q (tkS T L (tkE T L p)) := nqB_m pn (by omega)
          refine e_callV [] dX12_takeSide_68 tm_12_167 rfl (Nat.le_of_ble_eq_true rfl) (rk_s k45) (Nat.le_of_ble_eq_true rfl) (Nat.le_refl _) (Nat.le_refl _) rfl (zp_X12_token k45 H46 (tkE T L p) H47.2.1 (by omega) (fun  h50 f51 p52 => ?_))
          have k53 := rk_q (frm_s f51) k45
          have H54 := rfT_c f51 (fun a k q => by omega) H46
          have H55 := rfF_c f51 (fun a k q => by omega) H48
          have FR56 := frm_t FR49 (frm_m (S' := (fun a j => (a = m ∧ (j = 9 ∨ (11 ≤ j ∧ j ≤ 17) ∨ j = 22)) ∨ (a = m + 10 ∧ (j = 1 ∨ j = 2)))) f51 (fun a k q => by omega))
          refine e_aload_n dX12_takeSide_71 rfl ?_
          refine z_iconst (2) dX12_takeSide_72 rfl ?_
          refine z_iconst (0) dX12_takeSide_73 rfl ?_
          refine z_iconst (5) dX12_takeSide_74 rfl ?_
          refine e_callV [.int _, .int _, .int _] dX12_takeSide_75 tm_12_170 rfl (Nat.le_of_ble_eq_true rfl) (rk_s k53) (Nat.le_of_ble_eq_true rfl) (Nat.le_refl _) (Nat.le_refl _) rfl (zp_X12_take k53 H54 p52 H55 2 ⟨by omega, by omega⟩ 0 ⟨by omega, by omega⟩ 5 ⟨by omega, by omega⟩ PN75 (by omega) (fun v57 p58 h59 f60 p61 => ?_))
          have k62 := rk_q (frm_s f60) k53
          have H63 := rfT_c f60 (fun a k q => by omega) H54
          have FR64 := frm_t FR56 (frm_m (S' := (fun a j => (a = m ∧ (j = 9 ∨ (11 ≤ j ∧ j ≤ 17) ∨ j = 22)) ∨ (a = m + 10 ∧ (j = 1 ∨ j = 2)))) f60 (fun a k q => by omega))
          skip
          refine z_bret dX12_takeSide_78 rfl (by omega) ⟨rfl, ?_⟩
          rcases p61 with ⟨w, k5, P5, F5, N5, _⟩ | ⟨w, k5, F5⟩
          · exact kq _ (Or.inr w) _ FR64 (Or.inl ⟨w, by omega, k5, P5, F5, by first | (rw [if_pos (by omega)]; exact (((frm_r f60 (by omega)).trans (frm_r f51 (by omega))).trans (rI_eq e43 ⟨by omega, by omega⟩))) | (rw [if_neg (by omega)]; exact (((frm_r f60 (by omega)).trans (frm_r f51 (by omega))).trans (rI_eq e43 ⟨by omega, by omega⟩))), N5⟩)
          · exact kq _ (Or.inl w) _ FR64 (Or.inr ⟨w, Or.inr ⟨by omega, k5, F5⟩⟩)
      · exfalso; omega
    · skip
      refine e_aload_n dX12_takeSide_19 rfl ?_
      refine z_getJ (tkW T L p) dX12_takeSide_20 tf_12_136 (rk_s hk) rfl (HP.2.2.2.2.2) ?_
      have y65 := tw_b (T := T) (L := L) (p := p)
      refine z_ldc2 (30064) dX12_takeSide_23 tl_12_185 rfl ?_
      refine z_lcmp dX12_takeSide_26 ⟨by omega, by omega⟩ ⟨by omega, by omega⟩ ?_
      refine z_ifl_ne 34 dX12_takeSide_27 rfl (fun c66 => ?_) (fun c66 => ?_)
      · skip
        refine z_iconst (0) dX12_takeSide_34 rfl ?_
        refine e_istore_n (L' := [_, _]) dX12_takeSide_35 (Nat.le_of_ble_eq_true rfl) rfl ?_
        refine e_iload_n dX12_takeSide_36 rfl ?_
        refine z_if_ne 45 dX12_takeSide_37 rfl ⟨by omega, by omega⟩ (fun c67 => ?_) (fun c67 => ?_)
        · exfalso; omega
        · skip
          refine e_aload_n dX12_takeSide_40 rfl ?_
          refine e_callV [] dX12_takeSide_41 tm_12_155 rfl (Nat.le_of_ble_eq_true rfl) (rk_s hk) (Nat.le_of_ble_eq_true rfl) (Nat.le_refl _) (Nat.le_refl _) rfl (zp_X12_fails hk HP (by omega) (fun  h68 f69 p70 => ?_))
          have k71 := rk_q (frm_s f69) hk
          have H72 := rfT_c f69 (fun a k q => by omega) HT
          have H73 := rfP_c f69 (fun a k q => by omega) HP
          have H74 := rfF_c f69 (fun a k q => by omega) HF
          have FR75 := frm_t FR0 (frm_m (S' := (fun a j => (a = m ∧ (j = 9 ∨ (11 ≤ j ∧ j ≤ 17) ∨ j = 22)) ∨ (a = m + 10 ∧ (j = 1 ∨ j = 2)))) f69 (fun a k q => by omega))
          skip
          refine z_bret dX12_takeSide_44 rfl (bZ_01 _) ⟨rfl, ?_⟩
          exact kq 0 (Or.inl rfl) _ FR75 (Or.inr ⟨rfl, Or.inl ⟨by have w0 := tw_0 (T := T) (L := L) (p := p); omega, p70⟩⟩)
      · skip
        refine z_iconst (1) dX12_takeSide_30 rfl ?_
        refine e_goto 35 dX12_takeSide_31 rfl ?_
        refine e_istore_n (L' := [_, _]) dX12_takeSide_35 (Nat.le_of_ble_eq_true rfl) rfl ?_
        refine e_iload_n dX12_takeSide_36 rfl ?_
        refine z_if_ne 45 dX12_takeSide_37 rfl ⟨by omega, by omega⟩ (fun c76 => ?_) (fun c76 => ?_)
        · skip
          refine e_aload_n dX12_takeSide_45 rfl ?_
          refine e_get (.ref (m + 10)) dX12_takeSide_46 tf_12_38 (rk_s hk) (congrArg va_rf (rk_r10 hk)) ?_
          refine z_iconst (1) dX12_takeSide_49 rfl ?_
          refine e_aload_n dX12_takeSide_50 rfl ?_
          refine z_getJ (tkW T L p) dX12_takeSide_51 tf_12_136 (rk_s hk) rfl (HP.2.2.2.2.2) ?_
          have y77 := tw_b (T := T) (L := L) (p := p)
          refine z_ldc2 (30064) dX12_takeSide_54 tl_12_185 rfl ?_
          refine z_lcmp dX12_takeSide_57 ⟨by omega, by omega⟩ ⟨by omega, by omega⟩ ?_
          refine z_ifl_ne 65 dX12_takeSide_58 rfl (fun c78 => ?_) (fun c78 => ?_)
          · skip
            refine z_iconst (0) dX12_takeSide_65 rfl ?_
            refine z_ist dX12_takeSide_66 (rk_a10 hk) (by decide) (by omega) (by omega) (fun h79 e80 => ?_)
            have f81 := frm_1 e80
            have k82 := rk_q (frm_s f81) hk
            have H83 := rfT_c f81 (fun a k q => by omega) HT
            have H84 := rfP_c f81 (fun a k q => by omega) HP
            have H85 := rfF_c f81 (fun a k q => by omega) HF
            have FR86 := frm_t FR0 (frm_m (S' := (fun a j => (a = m ∧ (j = 9 ∨ (11 ≤ j ∧ j ≤ 17) ∨ j = 22)) ∨ (a = m + 10 ∧ (j = 1 ∨ j = 2)))) f81 (fun a k q => by omega))
            refine e_aload_n dX12_takeSide_67 rfl ?_
            have tk2 := tk_b (T := T) (L := L) (p := tkE T L p) (by omega) (by omega)
            have PN75 : nqB f q (tkS T L (tkE T L p)) := nqB_m pn (by omega)
            refine e_callV [] dX12_takeSide_68 tm_12_167 rfl (Nat.le_of_ble_eq_true rfl) (rk_s k82) (Nat.le_of_ble_eq_true rfl) (Nat.le_refl _) (Nat.le_refl _) rfl (zp_X12_token k82 H83 (tkE T L p) H84.2.1 (by omega) (fun  h87 f88 p89 => ?_))
            have k90 := rk_q (frm_s f88) k82
            have H91 := rfT_c f88 (fun a k q => by omega) H83
            have H92 := rfF_c f88 (fun a k q => by omega) H85
            have FR93 := frm_t FR86 (frm_m (S' := (fun a j => (a = m ∧ (j = 9 ∨ (11 ≤ j ∧ j ≤ 17) ∨ j = 22)) ∨ (a = m + 10 ∧ (j = 1 ∨ j = 2)))) f88 (fun a k q => by omega))
            refine e_aload_n dX12_takeSide_71 rfl ?_
            refine z_iconst (2) dX12_takeSide_72 rfl ?_
            refine z_iconst (0) dX12_takeSide_73 rfl ?_
            refine z_iconst (5) dX12_takeSide_74 rfl ?_
            refine e_callV [.int _, .int _, .int _] dX12_takeSide_75 tm_12_170 rfl (Nat.le_of_ble_eq_true rfl) (rk_s k90) (Nat.le_of_ble_eq_true rfl) (Nat.le_refl _) (Nat.le_refl _) rfl (zp_X12_take k90 H91 p89 H92 2 ⟨by omega, by omega⟩ 0 ⟨by omega, by omega⟩ 5 ⟨by omega, by omega⟩ PN75 (by omega) (fun v94 p95 h96 f97 p98 => ?_))
            have k99 := rk_q (frm_s f97) k90
            have H100 := rfT_c f97 (fun a k q => by omega) H91
            have FR101 := frm_t FR93 (frm_m (S' := (fun a j => (a = m ∧ (j = 9 ∨ (11 ≤ j ∧ j ≤ 17) ∨ j = 22)) ∨ (a = m + 10 ∧ (j = 1 ∨ j = 2)))) f97 (fun a k q => by omega))
            skip
            refine z_bret dX12_takeSide_78 rfl (by omega) ⟨rfl, ?_⟩
            rcases p98 with ⟨w, k5, P5, F5, N5, _⟩ | ⟨w, k5, F5⟩
            · exact kq _ (Or.inr w) _ FR101 (Or.inl ⟨w, by omega, k5, P5, F5, by first | (rw [if_pos (by omega)]; exact (((frm_r f97 (by omega)).trans (frm_r f88 (by omega))).trans (rI_eq e80 ⟨by omega, by omega⟩))) | (rw [if_neg (by omega)]; exact (((frm_r f97 (by omega)).trans (frm_r f88 (by omega))).trans (rI_eq e80 ⟨by omega, by omega⟩))), N5⟩)
            · exact kq _ (Or.inl w) _ FR101 (Or.inr ⟨w, Or.inr ⟨by omega, k5, F5⟩⟩)
          · skip
            refine z_iconst (1) dX12_takeSide_61 rfl ?_
            refine e_goto 66 dX12_takeSide_62 rfl ?_
            refine z_ist dX12_takeSide_66 (rk_a10 hk) (by decide) (by omega) (by omega) (fun h102 e103 => ?_)
            have f104 := frm_1 e103
            have k105 := rk_q (frm_s f104) hk
            have H106 := rfT_c f104 (fun a k q => by omega) HT
            have H107 := rfP_c f104 (fun a k q => by omega) HP
            have H108 := rfF_c f104 (fun a k q => by omega) HF
            have FR109 := frm_t FR0 (frm_m (S' := (fun a j => (a = m ∧ (j = 9 ∨ (11 ≤ j ∧ j ≤ 17) ∨ j = 22)) ∨ (a = m + 10 ∧ (j = 1 ∨ j = 2)))) f104 (fun a k q => by omega))
            refine e_aload_n dX12_takeSide_67 rfl ?_
            have tk2 := tk_b (T := T) (L := L) (p := tkE T L p) (by omega) (by omega)
            have PN75 : nqB f q (tkS T L (tkE T L p)) := nqB_m pn (by omega)
            refine e_callV [] dX12_takeSide_68 tm_12_167 rfl (Nat.le_of_ble_eq_true rfl) (rk_s k105) (Nat.le_of_ble_eq_true rfl) (Nat.le_refl _) (Nat.le_refl _) rfl (zp_X12_token k105 H106 (tkE T L p) H107.2.1 (by omega) (fun  h110 f111 p112 => ?_))
            have k113 := rk_q (frm_s f111) k105
            have H114 := rfT_c f111 (fun a k q => by omega) H106
            have H115 := rfF_c f111 (fun a k q => by omega) H108
            have FR116 := frm_t FR109 (frm_m (S' := (fun a j => (a = m ∧ (j = 9 ∨ (11 ≤ j ∧ j ≤ 17) ∨ j = 22)) ∨ (a = m + 10 ∧ (j = 1 ∨ j = 2)))) f111 (fun a k q => by omega))
            refine e_aload_n dX12_takeSide_71 rfl ?_
            refine z_iconst (2) dX12_takeSide_72 rfl ?_
            refine z_iconst (0) dX12_takeSide_73 rfl ?_
            refine z_iconst (5) dX12_takeSide_74 rfl ?_
            refine e_callV [.int _, .int _, .int _] dX12_takeSide_75 tm_12_170 rfl (Nat.le_of_ble_eq_true rfl) (rk_s k113) (Nat.le_of_ble_eq_true rfl) (Nat.le_refl _) (Nat.le_refl _) rfl (zp_X12_take k113 H114 p112 H115 2 ⟨by omega, by omega⟩ 0 ⟨by omega, by omega⟩ 5 ⟨by omega, by omega⟩ PN75 (by omega) (fun v117 p118 h119 f120 p121 => ?_))
            have k122 := rk_q (frm_s f120) k113
            have H123 := rfT_c f120 (fun a k q => by omega) H114
            have FR124 := frm_t FR116 (frm_m (S' := (fun a j => (a = m ∧ (j = 9 ∨ (11 ≤ j ∧ j ≤ 17) ∨ j = 22)) ∨ (a = m + 10 ∧ (j = 1 ∨ j = 2)))) f120 (fun a k q => by omega))
            skip
            refine z_bret dX12_takeSide_78 rfl (by omega) ⟨rfl, ?_⟩
            rcases p121 with ⟨w, k5, P5, F5, N5, _⟩ | ⟨w, k5, F5⟩
            · exact kq _ (Or.inr w) _ FR124 (Or.inl ⟨w, by omega, k5, P5, F5, by first | (rw [if_pos (by omega)]; exact (((frm_r f120 (by omega)).trans (frm_r f111 (by omega))).trans (rI_eq e103 ⟨by omega, by omega⟩))) | (rw [if_neg (by omega)]; exact (((frm_r f120 (by omega)).trans (frm_r f111 (by omega))).trans (rI_eq e103 ⟨by omega, by omega⟩))), N5⟩)
            · exact kq _ (Or.inl w) _ FR124 (Or.inr ⟨w, Or.inr ⟨by omega, k5, F5⟩⟩)
        · exfalso; omega
set_option maxHeartbeats 400000 in
theorem zp_X12_deedBy {ad : mA} {dd : Nat} {h : mH} {Q : mQ}    (w : Int) (wb : 0 ≤ w ∧ w < 9223372036854775808) (kq : ∀ v : Int, (dbR w v) → Q (some (.int (zI v))) h) : mCal TB0 ad (dd + 1) M_X12_deedBy [.long (zJ w)] h 0 0 Q := by
  refine ⟨Nat.le_of_ble_eq_true rfl, ?_⟩
  show mEv TB0 ad M_X12_deedBy (dd + 1) (0, 0) (mCal TB0 ad (dd + 0)) (fun v h' z => z.1 = 0 ∧ Q v h') 0 [some (.long (zJ w)), none] [] h (0, 0)
  refine e_lload_n dX12_deedBy_0 rfl ?_
  refine z_ldc2 (491395638644) dX12_deedBy_1 tl_12_187 rfl ?_
  refine z_lcmp dX12_deedBy_4 ⟨by omega, by omega⟩ ⟨by omega, by omega⟩ ?_
  refine z_ifl_ne 12 dX12_deedBy_5 rfl (fun c1 => ?_) (fun c1 => ?_)
  · skip
    refine e_lload_n dX12_deedBy_12 rfl ?_
    refine z_ldc2 (1751474548) dX12_deedBy_13 tl_12_205 rfl ?_
    refine z_lcmp dX12_deedBy_16 ⟨by omega, by omega⟩ ⟨by omega, by omega⟩ ?_
    refine z_ifl_ne 24 dX12_deedBy_17 rfl (fun c2 => ?_) (fun c2 => ?_)
    · skip
      refine e_lload_n dX12_deedBy_24 rfl ?_
      refine z_ldc2 (1885434484) dX12_deedBy_25 tl_12_207 rfl ?_
      refine z_lcmp dX12_deedBy_28 ⟨by omega, by omega⟩ ⟨by omega, by omega⟩ ?_
      refine z_ifl_ne 36 dX12_deedBy_29 rfl (fun c3 => ?_) (fun c3 => ?_)
      · skip
        refine e_lload_n dX12_deedBy_36 rfl ?_
        refine z_ldc2 (6518132) dX12_deedBy_37 tl_12_209 rfl ?_
        refine z_lcmp dX12_deedBy_40 ⟨by omega, by omega⟩ ⟨by omega, by omega⟩ ?_
        refine z_ifl_ne 48 dX12_deedBy_41 rfl (fun c4 => ?_) (fun c4 => ?_)
        · skip
          refine e_lload_n dX12_deedBy_48 rfl ?_
          refine z_ldc2 (444301143652) dX12_deedBy_49 tl_12_211 rfl ?_
          refine z_lcmp dX12_deedBy_52 ⟨by omega, by omega⟩ ⟨by omega, by omega⟩ ?_
          refine z_ifl_ne 60 dX12_deedBy_53 rfl (fun c5 => ?_) (fun c5 => ?_)
          · skip
            refine e_lload_n dX12_deedBy_60 rfl ?_
            refine z_ldc2 (7301484) dX12_deedBy_61 tl_12_213 rfl ?_
            refine z_lcmp dX12_deedBy_64 ⟨by omega, by omega⟩ ⟨by omega, by omega⟩ ?_
            refine z_ifl_ne 72 dX12_deedBy_65 rfl (fun c6 => ?_) (fun c6 => ?_)
            · skip
              refine e_lload_n dX12_deedBy_72 rfl ?_
              refine z_ldc2 (6578553) dX12_deedBy_73 tl_12_215 rfl ?_
              refine z_lcmp dX12_deedBy_76 ⟨by omega, by omega⟩ ⟨by omega, by omega⟩ ?_
              refine z_ifl_ne 85 dX12_deedBy_77 rfl (fun c7 => ?_) (fun c7 => ?_)
              · skip
                refine z_iconst (-1) dX12_deedBy_85 rfl ?_
                refine z_iret dX12_deedBy_86 rfl ⟨rfl, ?_⟩
                refine kq _ ?_
                unfold dbR; omega
              · skip
                refine z_bipush (6) dX12_deedBy_80 rfl ?_
                refine e_goto 86 dX12_deedBy_82 rfl ?_
                refine z_iret dX12_deedBy_86 rfl ⟨rfl, ?_⟩
                refine kq _ ?_
                unfold dbR; omega
            · skip
              refine z_iconst (5) dX12_deedBy_68 rfl ?_
              refine e_goto 86 dX12_deedBy_69 rfl ?_
              refine z_iret dX12_deedBy_86 rfl ⟨rfl, ?_⟩
              refine kq _ ?_
              unfold dbR; omega
          · skip
            refine z_iconst (4) dX12_deedBy_56 rfl ?_
            refine e_goto 86 dX12_deedBy_57 rfl ?_
            refine z_iret dX12_deedBy_86 rfl ⟨rfl, ?_⟩
            refine kq _ ?_
            unfold dbR; omega
        · skip
          refine z_iconst (3) dX12_deedBy_44 rfl ?_
          refine e_goto 86 dX12_deedBy_45 rfl ?_
          refine z_iret dX12_deedBy_86 rfl ⟨rfl, ?_⟩
          refine kq _ ?_
          unfold dbR; omega
      · skip
        refine z_iconst (2) dX12_deedBy_32 rfl ?_
        refine e_goto 86 dX12_deedBy_33 rfl ?_
        refine z_iret dX12_deedBy_86 rfl ⟨rfl, ?_⟩
        refine kq _ ?_
        unfold dbR; omega
    · skip
      refine z_iconst (1) dX12_deedBy_20 rfl ?_
      refine e_goto 86 dX12_deedBy_21 rfl ?_
      refine z_iret dX12_deedBy_86 rfl ⟨rfl, ?_⟩
      refine kq _ ?_
      unfold dbR; omega
  · skip
    refine z_iconst (0) dX12_deedBy_8 rfl ?_
    refine e_goto 86 dX12_deedBy_9 rfl ?_
    refine z_iret dX12_deedBy_86 rfl ⟨rfl, ?_⟩
    refine kq _ ?_
    unfold dbR; omega
set_option maxHeartbeats 4000000 in
theorem zp_X12_forgeLine {ad : mA} {dd : Nat} {h : mH} {Q : mQ} {m : Nat} {T C : Int → Int} {L p f q : Int} {d u : Int} (hk : rk h m) (HT : rfT h m T L) (HP : rfP h m T L p) (HF : rfF h m f q) (HC : rfC h m C) (HD : rfD h m d u)   (pn : nqB f q (tkS T L p)) (pg : rI h m 22 = 1) (pw : wfR C) (kq : ∀ v : Int, (v = 0 ∨ v = 1) → ∀ h1, frm (fun a j => (a = m ∧ (j = 9 ∨ (11 ≤ j ∧ j ≤ 17) ∨ (20 ≤ j ∧ j ≤ 22))) ∨ a = m + 9 ∨ a = m + 10) h h1 → (rfO h1 m T L 0 p f q C v (rfC h1 m (lcL 0 T L p C) ∧ rfD h1 m (fdL T L p d) (fpL T L p u))) → Q (some (.int (zI v))) h1) : mCal TB0 ad (dd + 5) M_X12_forgeLine [.ref m, .long (zJ (tkW T L p)), .int (zI (tkS T L p))] h 0 0 Q := by
  refine ⟨Nat.le_of_ble_eq_true rfl, ?_⟩
  show mEv TB0 ad M_X12_forgeLine (dd + 5) (0, 0) (mCal TB0 ad (dd + 4)) (fun v h' z => z.1 = 0 ∧ Q v h') 0 [some (.ref m), some (.long (zJ (tkW T L p))), none, some (.int (zI (tkS T L p)))] [] h (0, 0)
  have FR0 : frm (fun a j => (a = m ∧ (j = 9 ∨ (11 ≤ j ∧ j ≤ 17) ∨ (20 ≤ j ∧ j ≤ 22))) ∨ a = m + 9 ∨ a = m + 10) h h := frm_0 h
  have w1 := HT.1
  have p0 := HP.1
  have tb := tk_b (T := T) HP.1.1 HP.1.2
  have wb := tw_b (T := T) (L := L) (p := p)
  have wk : tkW T L p ≠ 0 → tkK T L p = 0 := fun z => Classical.byContradiction (fun n => z (tw_0 n))
  have w2 : (0 ≤ C 0 ∧ C 0 ≤ 6) ∧ (0 ≤ C 1 ∧ C 1 ≤ 6) ∧ (0 ≤ C 2 ∧ C 2 ≤ 6) := ⟨pw.1, pw.2.1, pw.2.2.1⟩
  refine e_lload_n dX12_forgeLine_0 rfl ?_
  refine z_ldc2 (1685026670) dX12_forgeLine_1 tl_12_183 rfl ?_
  refine z_lcmp dX12_forgeLine_4 ⟨by omega, by omega⟩ ⟨by omega, by omega⟩ ?_
  refine z_ifl_eq 37 dX12_forgeLine_5 rfl (fun c1 => ?_) (fun c1 => ?_)
  · skip
    skip
    refine e_lload_n dX12_forgeLine_37 rfl ?_
    refine z_ldc2 (491395638644) dX12_forgeLine_38 tl_12_187 rfl ?_
    refine z_lcmp dX12_forgeLine_41 ⟨by omega, by omega⟩ ⟨by omega, by omega⟩ ?_
    refine z_ifl_eq 77 dX12_forgeLine_42 rfl (fun c2 => ?_) (fun c2 => ?_)
    · exfalso; omega
    · skip
      refine e_aload_n dX12_forgeLine_45 rfl ?_
      refine e_lload_n dX12_forgeLine_46 rfl ?_
      refine z_ldc2 (1685026670) dX12_forgeLine_47 tl_12_183 rfl ?_
      refine z_lcmp dX12_forgeLine_50 ⟨by omega, by omega⟩ ⟨by omega, by omega⟩ ?_
      refine z_ifl_ne 58 dX12_forgeLine_51 rfl (fun c3 => ?_) (fun c3 => ?_)
      · exfalso; omega
      · skip
        refine z_iconst (0) dX12_forgeLine_54 rfl ?_
        refine e_goto 71 dX12_forgeLine_55 rfl ?_
        refine z_bipush (6) dX12_forgeLine_71 rfl ?_
        refine e_iload_n dX12_forgeLine_73 rfl ?_
        refine e_callV [.int _, .int _, .int _] dX12_forgeLine_74 tm_12_191 rfl (Nat.le_of_ble_eq_true rfl) (rk_s hk) (Nat.le_of_ble_eq_true rfl) (Nat.le_refl _) (Nat.le_refl _) rfl (zp_X12_full hk HF HC 0 ⟨by omega, by omega⟩ 6 ⟨by omega, by omega⟩ (tkS T L p) ⟨by omega, by omega⟩ (by omega) pn (fun  h4 f5 p6 => ?_))
        have k7 := rk_q (frm_s f5) hk
        have H8 := rfT_c f5 (fun a k q => by omega) HT
        have H9 := rfP_c f5 (fun a k q => by omega) HP
        have H10 := rfC_c f5 (fun a k q => by omega) HC
        have H11 := rfD_c f5 (fun a k q => by omega) HD
        have FR12 := frm_t FR0 (frm_m (S' := (fun a j => (a = m ∧ (j = 9 ∨ (11 ≤ j ∧ j ≤ 17) ∨ (20 ≤ j ∧ j ≤ 22))) ∨ a = m + 9 ∨ a = m + 10)) f5 (fun a k q => by omega))
        refine e_aload_n dX12_forgeLine_77 rfl ?_
        refine e_callV [] dX12_forgeLine_78 tm_12_167 rfl (Nat.le_of_ble_eq_true rfl) (rk_s k7) (Nat.le_of_ble_eq_true rfl) (Nat.le_refl _) (Nat.le_refl _) rfl (zp_X12_token k7 H8 (tkE T L p) H9.2.1 (by omega) (fun  h13 f14 p15 => ?_))
        have k16 := rk_q (frm_s f14) k7
        have H17 := rfT_c f14 (fun a k q => by omega) H8
        have H18 := rfC_c f14 (fun a k q => by omega) H10
        have H19 := rfD_c f14 (fun a k q => by omega) H11
        have H20 := rfF_c f14 (fun a k q => by omega) p6
        have FR21 := frm_t FR12 (frm_m (S' := (fun a j => (a = m ∧ (j = 9 ∨ (11 ≤ j ∧ j ≤ 17) ∨ (20 ≤ j ∧ j ≤ 22))) ∨ a = m + 9 ∨ a = m + 10)) f14 (fun a k q => by omega))
        refine e_lload_n dX12_forgeLine_81 rfl ?_
        refine z_ldc2 (491395638644) dX12_forgeLine_82 tl_12_187 rfl ?_
        refine z_lcmp dX12_forgeLine_85 ⟨by omega, by omega⟩ ⟨by omega, by omega⟩ ?_
        refine z_ifl_ne 96 dX12_forgeLine_86 rfl (fun c22 => ?_) (fun c22 => ?_)
        · skip
          refine e_lload_n dX12_forgeLine_96 rfl ?_
          refine z_ldc2 (427021005928) dX12_forgeLine_97 tl_12_189 rfl ?_
          refine z_lcmp dX12_forgeLine_100 ⟨by omega, by omega⟩ ⟨by omega, by omega⟩ ?_
          refine z_ifl_ne 111 dX12_forgeLine_101 rfl (fun c23 => ?_) (fun c23 => ?_)
          · skip
            refine e_aload_n dX12_forgeLine_111 rfl ?_
            refine e_lload_n dX12_forgeLine_112 rfl ?_
            refine z_ldc2 (1685026670) dX12_forgeLine_113 tl_12_183 rfl ?_
            refine z_lcmp dX12_forgeLine_116 ⟨by omega, by omega⟩ ⟨by omega, by omega⟩ ?_
            refine z_ifl_ne 124 dX12_forgeLine_117 rfl (fun c24 => ?_) (fun c24 => ?_)
            · exfalso; omega
            · skip
              refine z_iconst (0) dX12_forgeLine_120 rfl ?_
              refine e_goto 125 dX12_forgeLine_121 rfl ?_
              have tk2 := tk_b (T := T) (L := L) (p := tkE T L p) (by omega) (by omega)
              have PNX : nqB (ntF (C 0 = 6) 3 f) (ntQ (C 0 = 6) (tkS T L p) f q) (tkS T L (tkE T L p)) := nqB_t pn (by omega) (by omega) (by omega)
              skip
              refine e_callV [.int _] dX12_forgeLine_125 tm_12_201 rfl (Nat.le_of_ble_eq_true rfl) (rk_s k16) (Nat.le_of_ble_eq_true rfl) (Nat.le_refl _) (Nat.le_refl _) rfl (zp_X12_bladeLine_0 k16 H17 p15 H20 H18 PNX (by omega) (fun v25 p26 h27 f28 p29 => ?_))
              have k30 := rk_q (frm_s f28) k16
              have H31 := rfT_c f28 (fun a k q => by omega) H17
              have H32 := rfD_c f28 (fun a k q => by omega) H19
              have FR33 := frm_t FR21 (frm_m (S' := (fun a j => (a = m ∧ (j = 9 ∨ (11 ≤ j ∧ j ≤ 17) ∨ (20 ≤ j ∧ j ≤ 22))) ∨ a = m + 9 ∨ a = m + 10)) f28 (fun a k q => by omega))
              skip
              refine z_bret dX12_forgeLine_128 rfl (by omega) ⟨rfl, ?_⟩
              have K := kn_0down (T := T) (C := C) (L := L) (p := p) (by omega)
              exact kq _ (by assumption) _ FR33 (ref_of K.1 (sd_o (by omega)) K.2.1 K.2.2.1 (f1_of (K.2.2.2.1.trans (show 6 ≤ C 0 ↔ C 0 = 6 by omega))) (fun x => ⟨by rw [K.2.2.2.2]; exact x, by rw [show fdL T L p d = d from if_neg (by omega), show fpL T L p u = u from if_neg (by omega)]; exact H32⟩) p29)
          · exfalso; omega
        · exfalso; omega
  · skip
    refine e_lload_n dX12_forgeLine_8 rfl ?_
    refine z_ldc2 (30064) dX12_forgeLine_9 tl_12_185 rfl ?_
    refine z_lcmp dX12_forgeLine_12 ⟨by omega, by omega⟩ ⟨by omega, by omega⟩ ?_
    refine z_ifl_eq 37 dX12_forgeLine_13 rfl (fun c34 => ?_) (fun c34 => ?_)
    · skip
      skip
      refine e_lload_n dX12_forgeLine_37 rfl ?_
      refine z_ldc2 (491395638644) dX12_forgeLine_38 tl_12_187 rfl ?_
      refine z_lcmp dX12_forgeLine_41 ⟨by omega, by omega⟩ ⟨by omega, by omega⟩ ?_
      refine z_ifl_eq 77 dX12_forgeLine_42 rfl (fun c35 => ?_) (fun c35 => ?_)
      · exfalso; omega
      · skip
        refine e_aload_n dX12_forgeLine_45 rfl ?_
        refine e_lload_n dX12_forgeLine_46 rfl ?_
        refine z_ldc2 (1685026670) dX12_forgeLine_47 tl_12_183 rfl ?_
        refine z_lcmp dX12_forgeLine_50 ⟨by omega, by omega⟩ ⟨by omega, by omega⟩ ?_
        refine z_ifl_ne 58 dX12_forgeLine_51 rfl (fun c36 => ?_) (fun c36 => ?_)
        · skip
          refine e_lload_n dX12_forgeLine_58 rfl ?_
          refine z_ldc2 (30064) dX12_forgeLine_59 tl_12_185 rfl ?_
          refine z_lcmp dX12_forgeLine_62 ⟨by omega, by omega⟩ ⟨by omega, by omega⟩ ?_
          refine z_ifl_ne 70 dX12_forgeLine_63 rfl (fun c37 => ?_) (fun c37 => ?_)
          · exfalso; omega
          · skip
            refine z_iconst (1) dX12_forgeLine_66 rfl ?_
            refine e_goto 71 dX12_forgeLine_67 rfl ?_
            refine z_bipush (6) dX12_forgeLine_71 rfl ?_
            refine e_iload_n dX12_forgeLine_73 rfl ?_
            refine e_callV [.int _, .int _, .int _] dX12_forgeLine_74 tm_12_191 rfl (Nat.le_of_ble_eq_true rfl) (rk_s hk) (Nat.le_of_ble_eq_true rfl) (Nat.le_refl _) (Nat.le_refl _) rfl (zp_X12_full hk HF HC 1 ⟨by omega, by omega⟩ 6 ⟨by omega, by omega⟩ (tkS T L p) ⟨by omega, by omega⟩ (by omega) pn (fun  h38 f39 p40 => ?_))
            have k41 := rk_q (frm_s f39) hk
            have H42 := rfT_c f39 (fun a k q => by omega) HT
            have H43 := rfP_c f39 (fun a k q => by omega) HP
            have H44 := rfC_c f39 (fun a k q => by omega) HC
            have H45 := rfD_c f39 (fun a k q => by omega) HD
            have FR46 := frm_t FR0 (frm_m (S' := (fun a j => (a = m ∧ (j = 9 ∨ (11 ≤ j ∧ j ≤ 17) ∨ (20 ≤ j ∧ j ≤ 22))) ∨ a = m + 9 ∨ a = m + 10)) f39 (fun a k q => by omega))
            refine e_aload_n dX12_forgeLine_77 rfl ?_
            refine e_callV [] dX12_forgeLine_78 tm_12_167 rfl (Nat.le_of_ble_eq_true rfl) (rk_s k41) (Nat.le_of_ble_eq_true rfl) (Nat.le_refl _) (Nat.le_refl _) rfl (zp_X12_token k41 H42 (tkE T L p) H43.2.1 (by omega) (fun  h47 f48 p49 => ?_))
            have k50 := rk_q (frm_s f48) k41
            have H51 := rfT_c f48 (fun a k q => by omega) H42
            have H52 := rfC_c f48 (fun a k q => by omega) H44
            have H53 := rfD_c f48 (fun a k q => by omega) H45
            have H54 := rfF_c f48 (fun a k q => by omega) p40
            have FR55 := frm_t FR46 (frm_m (S' := (fun a j => (a = m ∧ (j = 9 ∨ (11 ≤ j ∧ j ≤ 17) ∨ (20 ≤ j ∧ j ≤ 22))) ∨ a = m + 9 ∨ a = m + 10)) f48 (fun a k q => by omega))
            refine e_lload_n dX12_forgeLine_81 rfl ?_
            refine z_ldc2 (491395638644) dX12_forgeLine_82 tl_12_187 rfl ?_
            refine z_lcmp dX12_forgeLine_85 ⟨by omega, by omega⟩ ⟨by omega, by omega⟩ ?_
            refine z_ifl_ne 96 dX12_forgeLine_86 rfl (fun c56 => ?_) (fun c56 => ?_)
            · skip
              refine e_lload_n dX12_forgeLine_96 rfl ?_
              refine z_ldc2 (427021005928) dX12_forgeLine_97 tl_12_189 rfl ?_
              refine z_lcmp dX12_forgeLine_100 ⟨by omega, by omega⟩ ⟨by omega, by omega⟩ ?_
              refine z_ifl_ne 111 dX12_forgeLine_101 rfl (fun c57 => ?_) (fun c57 => ?_)
              · skip
                refine e_aload_n dX12_forgeLine_111 rfl ?_
                refine e_lload_n dX12_forgeLine_112 rfl ?_
                refine z_ldc2 (1685026670) dX12_forgeLine_113 tl_12_183 rfl ?_
                refine z_lcmp dX12_forgeLine_116 ⟨by omega, by omega⟩ ⟨by omega, by omega⟩ ?_
                refine z_ifl_ne 124 dX12_forgeLine_117 rfl (fun c58 => ?_) (fun c58 => ?_)
                · skip
                  refine z_iconst (1) dX12_forgeLine_124 rfl ?_
                  have tk2 := tk_b (T := T) (L := L) (p := tkE T L p) (by omega) (by omega)
                  have PNX : nqB (ntF (C 1 = 6) 3 f) (ntQ (C 1 = 6) (tkS T L p) f q) (tkS T L (tkE T L p)) := nqB_t pn (by omega) (by omega) (by omega)
                  skip
                  refine e_callV [.int _] dX12_forgeLine_125 tm_12_201 rfl (Nat.le_of_ble_eq_true rfl) (rk_s k50) (Nat.le_of_ble_eq_true rfl) (Nat.le_refl _) (Nat.le_refl _) rfl (zp_X12_bladeLine_1 k50 H51 p49 H54 H52 PNX (by omega) (fun v59 p60 h61 f62 p63 => ?_))
                  have k64 := rk_q (frm_s f62) k50
                  have H65 := rfT_c f62 (fun a k q => by omega) H51
                  have H66 := rfD_c f62 (fun a k q => by omega) H53
                  have FR67 := frm_t FR55 (frm_m (S' := (fun a j => (a = m ∧ (j = 9 ∨ (11 ≤ j ∧ j ≤ 17) ∨ (20 ≤ j ∧ j ≤ 22))) ∨ a = m + 9 ∨ a = m + 10)) f62 (fun a k q => by omega))
                  skip
                  refine z_bret dX12_forgeLine_128 rfl (by omega) ⟨rfl, ?_⟩
                  have K := kn_0up (T := T) (C := C) (L := L) (p := p) (by omega)
                  exact kq _ (by assumption) _ FR67 (ref_of K.1 (sd_o (by omega)) K.2.1 K.2.2.1 (f1_of (K.2.2.2.1.trans (show 6 ≤ C 1 ↔ C 1 = 6 by omega))) (fun x => ⟨by rw [K.2.2.2.2]; exact x, by rw [show fdL T L p d = d from if_neg (by omega), show fpL T L p u = u from if_neg (by omega)]; exact H66⟩) p63)
                · exfalso; omega
              · exfalso; omega
            · exfalso; omega
        · exfalso; omega
    · skip
      refine e_lload_n dX12_forgeLine_16 rfl ?_
      refine z_ldc2 (491395638644) dX12_forgeLine_17 tl_12_187 rfl ?_
      refine z_lcmp dX12_forgeLine_20 ⟨by omega, by omega⟩ ⟨by omega, by omega⟩ ?_
      refine z_ifl_eq 37 dX12_forgeLine_21 rfl (fun c68 => ?_) (fun c68 => ?_)
      · skip
        skip
        refine e_lload_n dX12_forgeLine_37 rfl ?_
        refine z_ldc2 (491395638644) dX12_forgeLine_38 tl_12_187 rfl ?_
        refine z_lcmp dX12_forgeLine_41 ⟨by omega, by omega⟩ ⟨by omega, by omega⟩ ?_
        refine z_ifl_eq 77 dX12_forgeLine_42 rfl (fun c69 => ?_) (fun c69 => ?_)
        · skip
          refine e_aload_n dX12_forgeLine_77 rfl ?_
          refine e_callV [] dX12_forgeLine_78 tm_12_167 rfl (Nat.le_of_ble_eq_true rfl) (rk_s hk) (Nat.le_of_ble_eq_true rfl) (Nat.le_refl _) (Nat.le_refl _) rfl (zp_X12_token hk HT (tkE T L p) HP.2.1 (by omega) (fun  h70 f71 p72 => ?_))
          have k73 := rk_q (frm_s f71) hk
          have H74 := rfT_c f71 (fun a k q => by omega) HT
          have H75 := rfF_c f71 (fun a k q => by omega) HF
          have H76 := rfC_c f71 (fun a k q => by omega) HC
          have H77 := rfD_c f71 (fun a k q => by omega) HD
          have FR78 := frm_t FR0 (frm_m (S' := (fun a j => (a = m ∧ (j = 9 ∨ (11 ≤ j ∧ j ≤ 17) ∨ (20 ≤ j ∧ j ≤ 22))) ∨ a = m + 9 ∨ a = m + 10)) f71 (fun a k q => by omega))
          refine e_lload_n dX12_forgeLine_81 rfl ?_
          refine z_ldc2 (491395638644) dX12_forgeLine_82 tl_12_187 rfl ?_
          refine z_lcmp dX12_forgeLine_85 ⟨by omega, by omega⟩ ⟨by omega, by omega⟩ ?_
          refine z_ifl_ne 96 dX12_forgeLine_86 rfl (fun c79 => ?_) (fun c79 => ?_)
          · exfalso; omega
          · skip
            refine e_aload_n dX12_forgeLine_89 rfl ?_
            have tk2 := tk_b (T := T) (L := L) (p := tkE T L p) (by omega) (by omega)
            have PNX : nqB f q (tkS T L (tkE T L p)) := nqB_m pn (by omega)
            have PG : rI h70 m 22 = 1 := ((frm_r f71 (by omega))).trans pg
            refine e_callV [] dX12_forgeLine_90 tm_12_195 rfl (Nat.le_of_ble_eq_true rfl) (rk_s k73) (Nat.le_of_ble_eq_true rfl) (Nat.le_refl _) (Nat.le_refl _) rfl (zp_X12_rivetLine k73 H74 p72 H75 H76 H77 PNX PG (fun v80 p81 h82 f83 p84 => ?_))
            have k85 := rk_q (frm_s f83) k73
            have H86 := rfT_c f83 (fun a k q => by omega) H74
            have FR87 := frm_t FR78 (frm_m (S' := (fun a j => (a = m ∧ (j = 9 ∨ (11 ≤ j ∧ j ≤ 17) ∨ (20 ≤ j ∧ j ≤ 22))) ∨ a = m + 9 ∨ a = m + 10)) f83 (fun a k q => by omega))
            skip
            refine e_goto 128 dX12_forgeLine_93 rfl ?_
            refine z_bret dX12_forgeLine_128 rfl (by omega) ⟨rfl, ?_⟩
            have K := kn_0rivet (T := T) (C := C) (L := L) (p := p) (by omega)
            exact kq _ (by assumption) _ FR87 (ref_of K.1 (sd_o (by omega)) K.2.1 K.2.2.1 (f1_no (fun z => K.2.2.2.1.mp z)) (fun x => ⟨by rw [K.2.2.2.2]; exact x.1, by rw [show fdL T L p d = max d (tkV T L (tkE T L p)) from if_pos (by omega), show fpL T L p u = max u (tkV T L (tkE T L (tkE T L p))) from if_pos (by omega)]; exact x.2⟩) p84)
        · exfalso; omega
      · skip
        refine e_lload_n dX12_forgeLine_24 rfl ?_
        refine z_ldc2 (427021005928) dX12_forgeLine_25 tl_12_189 rfl ?_
        refine z_lcmp dX12_forgeLine_28 ⟨by omega, by omega⟩ ⟨by omega, by omega⟩ ?_
        refine z_ifl_eq 37 dX12_forgeLine_29 rfl (fun c88 => ?_) (fun c88 => ?_)
        · skip
          skip
          refine e_lload_n dX12_forgeLine_37 rfl ?_
          refine z_ldc2 (491395638644) dX12_forgeLine_38 tl_12_187 rfl ?_
          refine z_lcmp dX12_forgeLine_41 ⟨by omega, by omega⟩ ⟨by omega, by omega⟩ ?_
          refine z_ifl_eq 77 dX12_forgeLine_42 rfl (fun c89 => ?_) (fun c89 => ?_)
          · exfalso; omega
          · skip
            refine e_aload_n dX12_forgeLine_45 rfl ?_
            refine e_lload_n dX12_forgeLine_46 rfl ?_
            refine z_ldc2 (1685026670) dX12_forgeLine_47 tl_12_183 rfl ?_
            refine z_lcmp dX12_forgeLine_50 ⟨by omega, by omega⟩ ⟨by omega, by omega⟩ ?_
            refine z_ifl_ne 58 dX12_forgeLine_51 rfl (fun c90 => ?_) (fun c90 => ?_)
            · skip
              refine e_lload_n dX12_forgeLine_58 rfl ?_
              refine z_ldc2 (30064) dX12_forgeLine_59 tl_12_185 rfl ?_
              refine z_lcmp dX12_forgeLine_62 ⟨by omega, by omega⟩ ⟨by omega, by omega⟩ ?_
              refine z_ifl_ne 70 dX12_forgeLine_63 rfl (fun c91 => ?_) (fun c91 => ?_)
              · skip
                refine z_iconst (2) dX12_forgeLine_70 rfl ?_
                refine z_bipush (6) dX12_forgeLine_71 rfl ?_
                refine e_iload_n dX12_forgeLine_73 rfl ?_
                refine e_callV [.int _, .int _, .int _] dX12_forgeLine_74 tm_12_191 rfl (Nat.le_of_ble_eq_true rfl) (rk_s hk) (Nat.le_of_ble_eq_true rfl) (Nat.le_refl _) (Nat.le_refl _) rfl (zp_X12_full hk HF HC 2 ⟨by omega, by omega⟩ 6 ⟨by omega, by omega⟩ (tkS T L p) ⟨by omega, by omega⟩ (by omega) pn (fun  h92 f93 p94 => ?_))
                have k95 := rk_q (frm_s f93) hk
                have H96 := rfT_c f93 (fun a k q => by omega) HT
                have H97 := rfP_c f93 (fun a k q => by omega) HP
                have H98 := rfC_c f93 (fun a k q => by omega) HC
                have H99 := rfD_c f93 (fun a k q => by omega) HD
                have FR100 := frm_t FR0 (frm_m (S' := (fun a j => (a = m ∧ (j = 9 ∨ (11 ≤ j ∧ j ≤ 17) ∨ (20 ≤ j ∧ j ≤ 22))) ∨ a = m + 9 ∨ a = m + 10)) f93 (fun a k q => by omega))
                refine e_aload_n dX12_forgeLine_77 rfl ?_
                refine e_callV [] dX12_forgeLine_78 tm_12_167 rfl (Nat.le_of_ble_eq_true rfl) (rk_s k95) (Nat.le_of_ble_eq_true rfl) (Nat.le_refl _) (Nat.le_refl _) rfl (zp_X12_token k95 H96 (tkE T L p) H97.2.1 (by omega) (fun  h101 f102 p103 => ?_))
                have k104 := rk_q (frm_s f102) k95
                have H105 := rfT_c f102 (fun a k q => by omega) H96
                have H106 := rfC_c f102 (fun a k q => by omega) H98
                have H107 := rfD_c f102 (fun a k q => by omega) H99
                have H108 := rfF_c f102 (fun a k q => by omega) p94
                have FR109 := frm_t FR100 (frm_m (S' := (fun a j => (a = m ∧ (j = 9 ∨ (11 ≤ j ∧ j ≤ 17) ∨ (20 ≤ j ∧ j ≤ 22))) ∨ a = m + 9 ∨ a = m + 10)) f102 (fun a k q => by omega))
                refine e_lload_n dX12_forgeLine_81 rfl ?_
                refine z_ldc2 (491395638644) dX12_forgeLine_82 tl_12_187 rfl ?_
                refine z_lcmp dX12_forgeLine_85 ⟨by omega, by omega⟩ ⟨by omega, by omega⟩ ?_
                refine z_ifl_ne 96 dX12_forgeLine_86 rfl (fun c110 => ?_) (fun c110 => ?_)
                · skip
                  refine e_lload_n dX12_forgeLine_96 rfl ?_
                  refine z_ldc2 (427021005928) dX12_forgeLine_97 tl_12_189 rfl ?_
                  refine z_lcmp dX12_forgeLine_100 ⟨by omega, by omega⟩ ⟨by omega, by omega⟩ ?_
                  refine z_ifl_ne 111 dX12_forgeLine_101 rfl (fun c111 => ?_) (fun c111 => ?_)
                  · exfalso; omega
                  · skip
                    refine e_aload_n dX12_forgeLine_104 rfl ?_
                    have tk2 := tk_b (T := T) (L := L) (p := tkE T L p) (by omega) (by omega)
                    have PNX : nqB (ntF (C 2 = 6) 3 f) (ntQ (C 2 = 6) (tkS T L p) f q) (tkS T L (tkE T L p)) := nqB_t pn (by omega) (by omega) (by omega)
                    refine e_callV [] dX12_forgeLine_105 tm_12_198 rfl (Nat.le_of_ble_eq_true rfl) (rk_s k104) (Nat.le_of_ble_eq_true rfl) (Nat.le_refl _) (Nat.le_refl _) rfl (zp_X12_clothLine k104 H105 p103 H108 H106 PNX (by omega) (fun v112 p113 h114 f115 p116 => ?_))
                    have k117 := rk_q (frm_s f115) k104
                    have H118 := rfT_c f115 (fun a k q => by omega) H105
                    have H119 := rfD_c f115 (fun a k q => by omega) H107
                    have FR120 := frm_t FR109 (frm_m (S' := (fun a j => (a = m ∧ (j = 9 ∨ (11 ≤ j ∧ j ≤ 17) ∨ (20 ≤ j ∧ j ≤ 22))) ∨ a = m + 9 ∨ a = m + 10)) f115 (fun a k q => by omega))
                    skip
                    refine e_goto 128 dX12_forgeLine_108 rfl ?_
                    refine z_bret dX12_forgeLine_128 rfl (by omega) ⟨rfl, ?_⟩
                    have K := kn_0cloth (T := T) (C := C) (L := L) (p := p) (by omega)
                    exact kq _ (by assumption) _ FR120 (ref_of K.1 (sd_o (by omega)) K.2.1 K.2.2.1 (f1_of (K.2.2.2.1.trans (show 6 ≤ C 2 ↔ C 2 = 6 by omega))) (fun x => ⟨by rw [K.2.2.2.2]; exact x, by rw [show fdL T L p d = d from if_neg (by omega), show fpL T L p u = u from if_neg (by omega)]; exact H119⟩) p116)
                · exfalso; omega
              · exfalso; omega
            · exfalso; omega
        · skip
          refine e_aload_n dX12_forgeLine_32 rfl ?_
          refine e_callV [] dX12_forgeLine_33 tm_12_155 rfl (Nat.le_of_ble_eq_true rfl) (rk_s hk) (Nat.le_of_ble_eq_true rfl) (Nat.le_refl _) (Nat.le_refl _) rfl (zp_X12_fails hk HP (by omega) (fun  h121 f122 p123 => ?_))
          have k124 := rk_q (frm_s f122) hk
          have H125 := rfT_c f122 (fun a k q => by omega) HT
          have H126 := rfP_c f122 (fun a k q => by omega) HP
          have H127 := rfF_c f122 (fun a k q => by omega) HF
          have H128 := rfC_c f122 (fun a k q => by omega) HC
          have H129 := rfD_c f122 (fun a k q => by omega) HD
          have FR130 := frm_t FR0 (frm_m (S' := (fun a j => (a = m ∧ (j = 9 ∨ (11 ≤ j ∧ j ≤ 17) ∨ (20 ≤ j ∧ j ≤ 22))) ∨ a = m + 9 ∨ a = m + 10)) f122 (fun a k q => by omega))
          skip
          refine z_bret dX12_forgeLine_36 rfl (bZ_01 _) ⟨rfl, ?_⟩
          exact kq 0 (Or.inl rfl) _ FR130 (ref_bad (fun z => by unfold knL at z; omega) p123)
theorem db_w {T : Int → Int} {L p v : Int} (H : dbR (tkW T L p) v) : v ≠ -1 → tkK T L p = 0 := fun z => Classical.byContradiction (fun n => by rw [tw_0 n] at H; unfold dbR at H; omega)
set_option maxHeartbeats 4000000 in
theorem zp_X12_yearLine {ad : mA} {dd : Nat} {h : mH} {Q : mQ} {m : Nat} {T C : Int → Int} {L p f q : Int} (hk : rk h m) (HT : rfT h m T L) (HP : rfP h m T L p) (HF : rfF h m f q) (HC : rfC h m C)   (pn : nqB f q (tkS T L p)) (py : 0 ≤ C 0 ∧ C 0 ≤ 40) (kq : ∀ v : Int, (v = 0 ∨ v = 1) → ∀ h1, frm (fun a j => (a = m ∧ (j = 9 ∨ (11 ≤ j ∧ j ≤ 17) ∨ j = 22)) ∨ a = m + 9 ∨ a = m + 10) h h1 → (rfO h1 m T L 1 p f q C v (rfC h1 m (lcL 1 T L p C))) → Q (some (.int (zI v))) h1) : mCal TB0 ad (dd + 5) M_X12_yearLine [.ref m, .long (zJ (tkW T L p)), .int (zI (tkS T L p))] h 0 0 Q := by
  refine ⟨Nat.le_of_ble_eq_true rfl, ?_⟩
  show mEv TB0 ad M_X12_yearLine (dd + 5) (0, 0) (mCal TB0 ad (dd + 4)) (fun v h' z => z.1 = 0 ∧ Q v h') 0 [some (.ref m), some (.long (zJ (tkW T L p))), none, some (.int (zI (tkS T L p))), none] [] h (0, 0)
  have FR0 : frm (fun a j => (a = m ∧ (j = 9 ∨ (11 ≤ j ∧ j ≤ 17) ∨ j = 22)) ∨ a = m + 9 ∨ a = m + 10) h h := frm_0 h
  have w1 := HT.1
  have p0 := HP.1
  have tb := tk_b (T := T) HP.1.1 HP.1.2
  have wb := tw_b (T := T) (L := L) (p := p)
  refine e_lload_n dX12_yearLine_0 rfl ?_
  refine e_callS [.long _] dX12_yearLine_1 tm_12_217 rfl (Nat.le_of_ble_eq_true rfl) (Nat.le_refl _) (Nat.le_refl _) rfl (zp_X12_deedBy (tkW T L p) (by omega) (fun v1 p2 => ?_))
  have dbb := db_b p2
  have kk := db_w p2
  refine e_istore (L' := [_, _, _, _, _]) dX12_yearLine_4 (Nat.le_of_ble_eq_true rfl) rfl ?_
  refine e_iload dX12_yearLine_6 rfl ?_
  refine z_iconst (-1) dX12_yearLine_8 rfl ?_
  refine z_icmp_ne 17 dX12_yearLine_9 rfl ⟨by omega, by omega⟩ ⟨by omega, by omega⟩ (fun c3 => ?_) (fun c3 => ?_)
  · skip
    refine e_aload_n dX12_yearLine_17 rfl ?_
    refine z_iconst (0) dX12_yearLine_18 rfl ?_
    refine z_bipush (40) dX12_yearLine_19 rfl ?_
    refine e_iload_n dX12_yearLine_21 rfl ?_
    refine e_callV [.int _, .int _, .int _] dX12_yearLine_22 tm_12_191 rfl (Nat.le_of_ble_eq_true rfl) (rk_s hk) (Nat.le_of_ble_eq_true rfl) (Nat.le_refl _) (Nat.le_refl _) rfl (zp_X12_full hk HF HC 0 ⟨by omega, by omega⟩ 40 ⟨by omega, by omega⟩ (tkS T L p) ⟨by omega, by omega⟩ (by omega) pn (fun  h4 f5 p6 => ?_))
    have k7 := rk_q (frm_s f5) hk
    have H8 := rfT_c f5 (fun a k q => by omega) HT
    have H9 := rfP_c f5 (fun a k q => by omega) HP
    have H10 := rfC_c f5 (fun a k q => by omega) HC
    have FR11 := frm_t FR0 (frm_m (S' := (fun a j => (a = m ∧ (j = 9 ∨ (11 ≤ j ∧ j ≤ 17) ∨ j = 22)) ∨ a = m + 9 ∨ a = m + 10)) f5 (fun a k q => by omega))
    refine e_aload_n dX12_yearLine_25 rfl ?_
    refine e_callV [] dX12_yearLine_26 tm_12_167 rfl (Nat.le_of_ble_eq_true rfl) (rk_s k7) (Nat.le_of_ble_eq_true rfl) (Nat.le_refl _) (Nat.le_refl _) rfl (zp_X12_token k7 H8 (tkE T L p) H9.2.1 (by omega) (fun  h12 f13 p14 => ?_))
    have k15 := rk_q (frm_s f13) k7
    have H16 := rfT_c f13 (fun a k q => by omega) H8
    have H17 := rfC_c f13 (fun a k q => by omega) H10
    have H18 := rfF_c f13 (fun a k q => by omega) p6
    have FR19 := frm_t FR11 (frm_m (S' := (fun a j => (a = m ∧ (j = 9 ∨ (11 ≤ j ∧ j ≤ 17) ∨ j = 22)) ∨ a = m + 9 ∨ a = m + 10)) f13 (fun a k q => by omega))
    have tk2 := tk_b (T := T) (L := L) (p := tkE T L p) (by omega) (by omega)
    have PN1 : nqB (ntF (C 0 = 40) 3 f) (ntQ (C 0 = 40) (tkS T L p) f q) (tkS T L (tkE T L p)) := nqB_t pn (by omega) (by omega) (by omega)
    refine e_aload_n dX12_yearLine_29 rfl ?_
    refine e_get (.ref (m + 10)) dX12_yearLine_30 tf_12_38 (rk_s k15) (congrArg va_rf (rk_r10 k15)) ?_
    refine z_iconst (1) dX12_yearLine_33 rfl ?_
    refine z_iconst (-1) dX12_yearLine_34 rfl ?_
    refine z_ist dX12_yearLine_35 (rk_a10 k15) (by decide) (by omega) (by omega) (fun h20 e21 => ?_)
    have f22 := frm_1 e21
    have k23 := rk_q (frm_s f22) k15
    have H24 := rfT_c f22 (fun a k q => by omega) H16
    have H25 := rfC_c f22 (fun a k q => by omega) H17
    have H26 := rfF_c f22 (fun a k q => by omega) H18
    have H27 := rfP_c f22 (fun a k q => by omega) p14
    have FR28 := frm_t FR19 (frm_m (S' := (fun a j => (a = m ∧ (j = 9 ∨ (11 ≤ j ∧ j ≤ 17) ∨ j = 22)) ∨ a = m + 9 ∨ a = m + 10)) f22 (fun a k q => by omega))
    refine e_aload_n dX12_yearLine_36 rfl ?_
    refine e_get (.ref (m + 10)) dX12_yearLine_37 tf_12_38 (rk_s k23) (congrArg va_rf (rk_r10 k23)) ?_
    refine z_iconst (2) dX12_yearLine_40 rfl ?_
    refine z_iconst (-1) dX12_yearLine_41 rfl ?_
    refine z_ist dX12_yearLine_42 (rk_a10 k23) (by decide) (by omega) (by omega) (fun h29 e30 => ?_)
    have f31 := frm_1 e30
    have k32 := rk_q (frm_s f31) k23
    have H33 := rfT_c f31 (fun a k q => by omega) H24
    have H34 := rfC_c f31 (fun a k q => by omega) H25
    have H35 := rfF_c f31 (fun a k q => by omega) H26
    have H36 := rfP_c f31 (fun a k q => by omega) H27
    have FR37 := frm_t FR28 (frm_m (S' := (fun a j => (a = m ∧ (j = 9 ∨ (11 ≤ j ∧ j ≤ 17) ∨ j = 22)) ∨ a = m + 9 ∨ a = m + 10)) f31 (fun a k q => by omega))
    refine e_iload dX12_yearLine_43 rfl ?_
    refine z_iconst (4) dX12_yearLine_45 rfl ?_
    refine z_icmp_ne 56 dX12_yearLine_46 rfl ⟨by omega, by omega⟩ ⟨by omega, by omega⟩ (fun c38 => ?_) (fun c38 => ?_)
    · skip
      refine e_iload dX12_yearLine_56 rfl ?_
      refine z_iconst (4) dX12_yearLine_58 rfl ?_
      refine z_icmp_eq 79 dX12_yearLine_59 rfl ⟨by omega, by omega⟩ ⟨by omega, by omega⟩ (fun c39 => ?_) (fun c39 => ?_)
      · exfalso; omega
      · skip
        refine e_iload dX12_yearLine_62 rfl ?_
        refine z_bipush (6) dX12_yearLine_64 rfl ?_
        refine z_icmp_eq 79 dX12_yearLine_66 rfl ⟨by omega, by omega⟩ ⟨by omega, by omega⟩ (fun c40 => ?_) (fun c40 => ?_)
        · skip
          skip
          refine e_iload dX12_yearLine_79 rfl ?_
          refine z_if_eq 90 dX12_yearLine_81 rfl ⟨by omega, by omega⟩ (fun c41 => ?_) (fun c41 => ?_)
          · exfalso; omega
          · skip
            refine e_iload dX12_yearLine_84 rfl ?_
            refine z_iconst (3) dX12_yearLine_86 rfl ?_
            refine z_icmp_ne 102 dX12_yearLine_87 rfl ⟨by omega, by omega⟩ ⟨by omega, by omega⟩ (fun c42 => ?_) (fun c42 => ?_)
            · skip
              refine e_aload_n dX12_yearLine_102 rfl ?_
              refine e_get (.ref (m + 10)) dX12_yearLine_103 tf_12_38 (rk_s k32) (congrArg va_rf (rk_r10 k32)) ?_
              refine z_iconst (0) dX12_yearLine_106 rfl ?_
              refine e_iload dX12_yearLine_107 rfl ?_
              refine z_ist dX12_yearLine_109 (rk_a10 k32) (by decide) (by omega) (by omega) (fun h43 e44 => ?_)
              have f45 := frm_1 e44
              have k46 := rk_q (frm_s f45) k32
              have H47 := rfT_c f45 (fun a k q => by omega) H33
              have H48 := rfC_c f45 (fun a k q => by omega) H34
              have H49 := rfF_c f45 (fun a k q => by omega) H35
              have H50 := rfP_c f45 (fun a k q => by omega) H36
              have FR51 := frm_t FR37 (frm_m (S' := (fun a j => (a = m ∧ (j = 9 ∨ (11 ≤ j ∧ j ≤ 17) ∨ j = 22)) ∨ a = m + 9 ∨ a = m + 10)) f45 (fun a k q => by omega))
              refine e_aload_n dX12_yearLine_110 rfl ?_
              refine z_bipush (40) dX12_yearLine_111 rfl ?_
              refine e_callV [.int _] dX12_yearLine_113 tm_12_224 rfl (Nat.le_of_ble_eq_true rfl) (rk_s k46) (Nat.le_of_ble_eq_true rfl) (Nat.le_refl _) (Nat.le_refl _) rfl (zp_X12_keep_40 k46 H48 v1 (-1) (-1) (rI_eq e44 ⟨by omega, by omega⟩) (((frm_r f45 (by omega)).trans (frm_r f31 (by omega))).trans (rI_eq e21 ⟨by omega, by omega⟩)) ((frm_r f45 (by omega)).trans (rI_eq e30 ⟨by omega, by omega⟩)) (by omega) (fun  h52 f53 p54 => ?_))
              have k55 := rk_q (frm_s f53) k46
              have H56 := rfT_c f53 (fun a k q => by omega) H47
              have H57 := rfF_c f53 (fun a k q => by omega) H49
              have H58 := rfP_c f53 (fun a k q => by omega) H50
              have FR59 := frm_t FR51 (frm_m (S' := (fun a j => (a = m ∧ (j = 9 ∨ (11 ≤ j ∧ j ≤ 17) ∨ j = 22)) ∨ a = m + 9 ∨ a = m + 10)) f53 (fun a k q => by omega))
              refine z_iconst (1) dX12_yearLine_116 rfl ?_
              refine z_bret dX12_yearLine_117 rfl (Or.inr rfl) ⟨rfl, ?_⟩
              have K := db_0 (C := C) p2 (by omega)
              exact kq 1 (Or.inr rfl) _ FR59 (ref_of K.1 (sd_o (by have := K.2.2.2.2.2; omega)) K.2.1 K.2.2.1 (f1_of (K.2.2.2.1.trans (show 40 ≤ C 0 ↔ C 0 = 40 by omega))) (fun x => x) (Or.inl ⟨rfl, trivial, H58, H57, by rw [K.2.2.2.2.1]; exact p54⟩))
            · exfalso; omega
        · skip
          skip
          refine e_aload_n dX12_yearLine_69 rfl ?_
          refine z_iconst (1) dX12_yearLine_70 rfl ?_
          refine z_iconst (0) dX12_yearLine_71 rfl ?_
          refine z_iconst (5) dX12_yearLine_72 rfl ?_
          have PN73 := PN1
          refine e_callV [.int _, .int _, .int _] dX12_yearLine_73 tm_12_170 rfl (Nat.le_of_ble_eq_true rfl) (rk_s k32) (Nat.le_of_ble_eq_true rfl) (Nat.le_refl _) (Nat.le_refl _) rfl (zp_X12_take k32 H33 H36 H35 1 ⟨by omega, by omega⟩ 0 ⟨by omega, by omega⟩ 5 ⟨by omega, by omega⟩ PN73 (by omega) (fun v60 p61 h62 f63 p64 => ?_))
          have k65 := rk_q (frm_s f63) k32
          have H66 := rfT_c f63 (fun a k q => by omega) H33
          have H67 := rfC_c f63 (fun a k q => by omega) H34
          have FR68 := frm_t FR37 (frm_m (S' := (fun a j => (a = m ∧ (j = 9 ∨ (11 ≤ j ∧ j ≤ 17) ∨ j = 22)) ∨ a = m + 9 ∨ a = m + 10)) f63 (fun a k q => by omega))
          skip
          refine z_if_eq 100 dX12_yearLine_76 rfl ⟨by omega, by omega⟩ (fun c69 => ?_) (fun c69 => ?_)
          · skip
            obtain ⟨k0, f0⟩ := tkr_0 p64 (by omega)
            refine z_iconst (0) dX12_yearLine_100 rfl ?_
            refine z_bret dX12_yearLine_101 rfl (Or.inl rfl) ⟨rfl, ?_⟩
            by_cases k2 : v1 = 0 ∨ v1 = 3
            · have K := db_2 (C := C) p2 k2
              exact kq 0 (Or.inl rfl) _ FR68 (ref_of K.1 (sd_o (by have := K.2.2.2.2.2; omega)) K.2.1 K.2.2.1 (f1_of (K.2.2.2.1.trans (show 40 ≤ C 0 ↔ C 0 = 40 by omega))) (fun x => x) (Or.inr ⟨rfl, fun z => k0 z.1, by rw [xp_n k0]; exact f0⟩))
            · have K := db_1 (C := C) p2 (by omega)
              exact kq 0 (Or.inl rfl) _ FR68 (ref_of K.1 (sd_o (by have := K.2.2.2.2.2; omega)) K.2.1 K.2.2.1 (f1_of (K.2.2.2.1.trans (show 40 ≤ C 0 ↔ C 0 = 40 by omega))) (fun x => x) (Or.inr ⟨rfl, fun z => k0 z.1, by rw [xp_n k0]; exact f0⟩))
          · skip
            obtain ⟨K70, K70p, K70f, K70n, K70g⟩ := tkr_1 p64 (by omega)
            have K70t := tk_b (T := T) K70p.1.1 K70p.1.2
            have K70v := tv_b K70
            have K70b : nqB (ntF (¬ (0 ≤ tkV T L (tkE T L p) ∧ tkV T L (tkE T L p) ≤ 5)) 2 (ntF (C 0 = 40) 3 f)) (ntQ (¬ (0 ≤ tkV T L (tkE T L p) ∧ tkV T L (tkE T L p) ≤ 5)) (tkS T L (tkE T L p)) (ntF (C 0 = 40) 3 f) (ntQ (C 0 = 40) (tkS T L p) f q)) (tkS T L (tkE T L (tkE T L p))) := nqB_t PN1 (by omega) (by omega) (by omega)
            refine e_iload dX12_yearLine_79 rfl ?_
            refine z_if_eq 90 dX12_yearLine_81 rfl ⟨by omega, by omega⟩ (fun c71 => ?_) (fun c71 => ?_)
            · skip
              refine e_aload_n dX12_yearLine_90 rfl ?_
              refine z_iconst (2) dX12_yearLine_91 rfl ?_
              refine z_iconst (0) dX12_yearLine_92 rfl ?_
              refine z_iconst (5) dX12_yearLine_93 rfl ?_
              have PN94 := K70b
              refine e_callV [.int _, .int _, .int _] dX12_yearLine_94 tm_12_170 rfl (Nat.le_of_ble_eq_true rfl) (rk_s k65) (Nat.le_of_ble_eq_true rfl) (Nat.le_refl _) (Nat.le_refl _) rfl (zp_X12_take k65 H66 K70p K70f 2 ⟨by omega, by omega⟩ 0 ⟨by omega, by omega⟩ 5 ⟨by omega, by omega⟩ PN94 (by omega) (fun v72 p73 h74 f75 p76 => ?_))
              have k77 := rk_q (frm_s f75) k65
              have H78 := rfT_c f75 (fun a k q => by omega) H66
              have H79 := rfC_c f75 (fun a k q => by omega) H67
              have FR80 := frm_t FR68 (frm_m (S' := (fun a j => (a = m ∧ (j = 9 ∨ (11 ≤ j ∧ j ≤ 17) ∨ j = 22)) ∨ a = m + 9 ∨ a = m + 10)) f75 (fun a k q => by omega))
              skip
              refine z_if_ne 102 dX12_yearLine_97 rfl ⟨by omega, by omega⟩ (fun c81 => ?_) (fun c81 => ?_)
              · skip
                obtain ⟨K82, K82p, K82f, K82n, K82g⟩ := tkr_1 p76 (by omega)
                have K82t := tk_b (T := T) K82p.1.1 K82p.1.2
                have K82v := tv_b K82
                have K82b : nqB (ntF (¬ (0 ≤ tkV T L (tkE T L (tkE T L p)) ∧ tkV T L (tkE T L (tkE T L p)) ≤ 5)) 2 (ntF (¬ (0 ≤ tkV T L (tkE T L p) ∧ tkV T L (tkE T L p) ≤ 5)) 2 (ntF (C 0 = 40) 3 f))) (ntQ (¬ (0 ≤ tkV T L (tkE T L (tkE T L p)) ∧ tkV T L (tkE T L (tkE T L p)) ≤ 5)) (tkS T L (tkE T L (tkE T L p))) (ntF (¬ (0 ≤ tkV T L (tkE T L p) ∧ tkV T L (tkE T L p) ≤ 5)) 2 (ntF (C 0 = 40) 3 f)) (ntQ (¬ (0 ≤ tkV T L (tkE T L p) ∧ tkV T L (tkE T L p) ≤ 5)) (tkS T L (tkE T L p)) (ntF (C 0 = 40) 3 f) (ntQ (C 0 = 40) (tkS T L p) f q))) (tkS T L (tkE T L (tkE T L (tkE T L p)))) := nqB_t K70b (by omega) (by omega) (by omega)
                refine e_aload_n dX12_yearLine_102 rfl ?_
                refine e_get (.ref (m + 10)) dX12_yearLine_103 tf_12_38 (rk_s k77) (congrArg va_rf (rk_r10 k77)) ?_
                refine z_iconst (0) dX12_yearLine_106 rfl ?_
                refine e_iload dX12_yearLine_107 rfl ?_
                refine z_ist dX12_yearLine_109 (rk_a10 k77) (by decide) (by omega) (by omega) (fun h83 e84 => ?_)
                have f85 := frm_1 e84
                have k86 := rk_q (frm_s f85) k77
                have H87 := rfT_c f85 (fun a k q => by omega) H78
                have H88 := rfC_c f85 (fun a k q => by omega) H79
                have H89 := rfP_c f85 (fun a k q => by omega) K82p
                have H90 := rfF_c f85 (fun a k q => by omega) K82f
                have FR91 := frm_t FR80 (frm_m (S' := (fun a j => (a = m ∧ (j = 9 ∨ (11 ≤ j ∧ j ≤ 17) ∨ j = 22)) ∨ a = m + 9 ∨ a = m + 10)) f85 (fun a k q => by omega))
                refine e_aload_n dX12_yearLine_110 rfl ?_
                refine z_bipush (40) dX12_yearLine_111 rfl ?_
                refine e_callV [.int _] dX12_yearLine_113 tm_12_224 rfl (Nat.le_of_ble_eq_true rfl) (rk_s k86) (Nat.le_of_ble_eq_true rfl) (Nat.le_refl _) (Nat.le_refl _) rfl (zp_X12_keep_40 k86 H88 v1 (tkV T L (tkE T L p)) (tkV T L (tkE T L (tkE T L p))) (rI_eq e84 ⟨by omega, by omega⟩) ((((frm_r f85 (by omega)).trans (frm_r f75 (by omega)))).trans K70n) (((frm_r f85 (by omega))).trans K82n) (by omega) (fun  h92 f93 p94 => ?_))
                have k95 := rk_q (frm_s f93) k86
                have H96 := rfT_c f93 (fun a k q => by omega) H87
                have H97 := rfP_c f93 (fun a k q => by omega) H89
                have H98 := rfF_c f93 (fun a k q => by omega) H90
                have FR99 := frm_t FR91 (frm_m (S' := (fun a j => (a = m ∧ (j = 9 ∨ (11 ≤ j ∧ j ≤ 17) ∨ j = 22)) ∨ a = m + 9 ∨ a = m + 10)) f93 (fun a k q => by omega))
                refine z_iconst (1) dX12_yearLine_116 rfl ?_
                refine z_bret dX12_yearLine_117 rfl (Or.inr rfl) ⟨rfl, ?_⟩
                have K := db_2 (C := C) p2 (by omega)
                exact kq 1 (Or.inr rfl) _ FR99 (ref_of K.1 (sd_o (by have := K.2.2.2.2.2; omega)) K.2.1 K.2.2.1 (f1_of (K.2.2.2.1.trans (show 40 ≤ C 0 ↔ C 0 = 40 by omega))) (fun x => x) (Or.inl ⟨rfl, ⟨K70, K82, trivial⟩, H97, H98, by rw [K.2.2.2.2.1]; exact p94⟩))
              · skip
                obtain ⟨k0, f0⟩ := tkr_0 p76 (by omega)
                refine z_iconst (0) dX12_yearLine_100 rfl ?_
                refine z_bret dX12_yearLine_101 rfl (Or.inl rfl) ⟨rfl, ?_⟩
                have K := db_2 (C := C) p2 (by omega)
                exact kq 0 (Or.inl rfl) _ FR80 (ref_of K.1 (sd_o (by have := K.2.2.2.2.2; omega)) K.2.1 K.2.2.1 (f1_of (K.2.2.2.1.trans (show 40 ≤ C 0 ↔ C 0 = 40 by omega))) (fun x => x) (Or.inr ⟨rfl, fun z => k0 z.2.1, by rw [xp_y K70, xp_n k0]; exact f0⟩))
            · skip
              refine e_iload dX12_yearLine_84 rfl ?_
              refine z_iconst (3) dX12_yearLine_86 rfl ?_
              refine z_icmp_ne 102 dX12_yearLine_87 rfl ⟨by omega, by omega⟩ ⟨by omega, by omega⟩ (fun c100 => ?_) (fun c100 => ?_)
              · skip
                refine e_aload_n dX12_yearLine_102 rfl ?_
                refine e_get (.ref (m + 10)) dX12_yearLine_103 tf_12_38 (rk_s k65) (congrArg va_rf (rk_r10 k65)) ?_
                refine z_iconst (0) dX12_yearLine_106 rfl ?_
                refine e_iload dX12_yearLine_107 rfl ?_
                refine z_ist dX12_yearLine_109 (rk_a10 k65) (by decide) (by omega) (by omega) (fun h101 e102 => ?_)
                have f103 := frm_1 e102
                have k104 := rk_q (frm_s f103) k65
                have H105 := rfT_c f103 (fun a k q => by omega) H66
                have H106 := rfC_c f103 (fun a k q => by omega) H67
                have H107 := rfP_c f103 (fun a k q => by omega) K70p
                have H108 := rfF_c f103 (fun a k q => by omega) K70f
                have FR109 := frm_t FR68 (frm_m (S' := (fun a j => (a = m ∧ (j = 9 ∨ (11 ≤ j ∧ j ≤ 17) ∨ j = 22)) ∨ a = m + 9 ∨ a = m + 10)) f103 (fun a k q => by omega))
                refine e_aload_n dX12_yearLine_110 rfl ?_
                refine z_bipush (40) dX12_yearLine_111 rfl ?_
                refine e_callV [.int _] dX12_yearLine_113 tm_12_224 rfl (Nat.le_of_ble_eq_true rfl) (rk_s k104) (Nat.le_of_ble_eq_true rfl) (Nat.le_refl _) (Nat.le_refl _) rfl (zp_X12_keep_40 k104 H106 v1 (tkV T L (tkE T L p)) (-1) (rI_eq e102 ⟨by omega, by omega⟩) (((frm_r f103 (by omega))).trans K70n) (((frm_r f103 (by omega)).trans (frm_r f63 (by omega))).trans (rI_eq e30 ⟨by omega, by omega⟩)) (by omega) (fun  h110 f111 p112 => ?_))
                have k113 := rk_q (frm_s f111) k104
                have H114 := rfT_c f111 (fun a k q => by omega) H105
                have H115 := rfP_c f111 (fun a k q => by omega) H107
                have H116 := rfF_c f111 (fun a k q => by omega) H108
                have FR117 := frm_t FR109 (frm_m (S' := (fun a j => (a = m ∧ (j = 9 ∨ (11 ≤ j ∧ j ≤ 17) ∨ j = 22)) ∨ a = m + 9 ∨ a = m + 10)) f111 (fun a k q => by omega))
                refine z_iconst (1) dX12_yearLine_116 rfl ?_
                refine z_bret dX12_yearLine_117 rfl (Or.inr rfl) ⟨rfl, ?_⟩
                have K := db_1 (C := C) p2 (by omega)
                exact kq 1 (Or.inr rfl) _ FR117 (ref_of K.1 (sd_o (by have := K.2.2.2.2.2; omega)) K.2.1 K.2.2.1 (f1_of (K.2.2.2.1.trans (show 40 ≤ C 0 ↔ C 0 = 40 by omega))) (fun x => x) (Or.inl ⟨rfl, ⟨K70, trivial⟩, H115, H116, by rw [K.2.2.2.2.1]; exact p112⟩))
              · skip
                refine e_aload_n dX12_yearLine_90 rfl ?_
                refine z_iconst (2) dX12_yearLine_91 rfl ?_
                refine z_iconst (0) dX12_yearLine_92 rfl ?_
                refine z_iconst (5) dX12_yearLine_93 rfl ?_
                have PN94 := K70b
                refine e_callV [.int _, .int _, .int _] dX12_yearLine_94 tm_12_170 rfl (Nat.le_of_ble_eq_true rfl) (rk_s k65) (Nat.le_of_ble_eq_true rfl) (Nat.le_refl _) (Nat.le_refl _) rfl (zp_X12_take k65 H66 K70p K70f 2 ⟨by omega, by omega⟩ 0 ⟨by omega, by omega⟩ 5 ⟨by omega, by omega⟩ PN94 (by omega) (fun v118 p119 h120 f121 p122 => ?_))
                have k123 := rk_q (frm_s f121) k65
                have H124 := rfT_c f121 (fun a k q => by omega) H66
                have H125 := rfC_c f121 (fun a k q => by omega) H67
                have FR126 := frm_t FR68 (frm_m (S' := (fun a j => (a = m ∧ (j = 9 ∨ (11 ≤ j ∧ j ≤ 17) ∨ j = 22)) ∨ a = m + 9 ∨ a = m + 10)) f121 (fun a k q => by omega))
                skip
                refine z_if_ne 102 dX12_yearLine_97 rfl ⟨by omega, by omega⟩ (fun c127 => ?_) (fun c127 => ?_)
                · skip
                  obtain ⟨K128, K128p, K128f, K128n, K128g⟩ := tkr_1 p122 (by omega)
                  have K128t := tk_b (T := T) K128p.1.1 K128p.1.2
                  have K128v := tv_b K128
                  have K128b : nqB (ntF (¬ (0 ≤ tkV T L (tkE T L (tkE T L p)) ∧ tkV T L (tkE T L (tkE T L p)) ≤ 5)) 2 (ntF (¬ (0 ≤ tkV T L (tkE T L p) ∧ tkV T L (tkE T L p) ≤ 5)) 2 (ntF (C 0 = 40) 3 f))) (ntQ (¬ (0 ≤ tkV T L (tkE T L (tkE T L p)) ∧ tkV T L (tkE T L (tkE T L p)) ≤ 5)) (tkS T L (tkE T L (tkE T L p))) (ntF (¬ (0 ≤ tkV T L (tkE T L p) ∧ tkV T L (tkE T L p) ≤ 5)) 2 (ntF (C 0 = 40) 3 f)) (ntQ (¬ (0 ≤ tkV T L (tkE T L p) ∧ tkV T L (tkE T L p) ≤ 5)) (tkS T L (tkE T L p)) (ntF (C 0 = 40) 3 f) (ntQ (C 0 = 40) (tkS T L p) f q))) (tkS T L (tkE T L (tkE T L (tkE T L p)))) := nqB_t K70b (by omega) (by omega) (by omega)
                  refine e_aload_n dX12_yearLine_102 rfl ?_
                  refine e_get (.ref (m + 10)) dX12_yearLine_103 tf_12_38 (rk_s k123) (congrArg va_rf (rk_r10 k123)) ?_
                  refine z_iconst (0) dX12_yearLine_106 rfl ?_
                  refine e_iload dX12_yearLine_107 rfl ?_
                  refine z_ist dX12_yearLine_109 (rk_a10 k123) (by decide) (by omega) (by omega) (fun h129 e130 => ?_)
                  have f131 := frm_1 e130
                  have k132 := rk_q (frm_s f131) k123
                  have H133 := rfT_c f131 (fun a k q => by omega) H124
                  have H134 := rfC_c f131 (fun a k q => by omega) H125
                  have H135 := rfP_c f131 (fun a k q => by omega) K128p
                  have H136 := rfF_c f131 (fun a k q => by omega) K128f
                  have FR137 := frm_t FR126 (frm_m (S' := (fun a j => (a = m ∧ (j = 9 ∨ (11 ≤ j ∧ j ≤ 17) ∨ j = 22)) ∨ a = m + 9 ∨ a = m + 10)) f131 (fun a k q => by omega))
                  refine e_aload_n dX12_yearLine_110 rfl ?_
                  refine z_bipush (40) dX12_yearLine_111 rfl ?_
                  refine e_callV [.int _] dX12_yearLine_113 tm_12_224 rfl (Nat.le_of_ble_eq_true rfl) (rk_s k132) (Nat.le_of_ble_eq_true rfl) (Nat.le_refl _) (Nat.le_refl _) rfl (zp_X12_keep_40 k132 H134 v1 (tkV T L (tkE T L p)) (tkV T L (tkE T L (tkE T L p))) (rI_eq e130 ⟨by omega, by omega⟩) ((((frm_r f131 (by omega)).trans (frm_r f121 (by omega)))).trans K70n) (((frm_r f131 (by omega))).trans K128n) (by omega) (fun  h138 f139 p140 => ?_))
                  have k141 := rk_q (frm_s f139) k132
                  have H142 := rfT_c f139 (fun a k q => by omega) H133
                  have H143 := rfP_c f139 (fun a k q => by omega) H135
                  have H144 := rfF_c f139 (fun a k q => by omega) H136
                  have FR145 := frm_t FR137 (frm_m (S' := (fun a j => (a = m ∧ (j = 9 ∨ (11 ≤ j ∧ j ≤ 17) ∨ j = 22)) ∨ a = m + 9 ∨ a = m + 10)) f139 (fun a k q => by omega))
                  refine z_iconst (1) dX12_yearLine_116 rfl ?_
                  refine z_bret dX12_yearLine_117 rfl (Or.inr rfl) ⟨rfl, ?_⟩
                  have K := db_2 (C := C) p2 (by omega)
                  exact kq 1 (Or.inr rfl) _ FR145 (ref_of K.1 (sd_o (by have := K.2.2.2.2.2; omega)) K.2.1 K.2.2.1 (f1_of (K.2.2.2.1.trans (show 40 ≤ C 0 ↔ C 0 = 40 by omega))) (fun x => x) (Or.inl ⟨rfl, ⟨K70, K128, trivial⟩, H143, H144, by rw [K.2.2.2.2.1]; exact p140⟩))
                · skip
                  obtain ⟨k0, f0⟩ := tkr_0 p122 (by omega)
                  refine z_iconst (0) dX12_yearLine_100 rfl ?_
                  refine z_bret dX12_yearLine_101 rfl (Or.inl rfl) ⟨rfl, ?_⟩
                  have K := db_2 (C := C) p2 (by omega)
                  exact kq 0 (Or.inl rfl) _ FR126 (ref_of K.1 (sd_o (by have := K.2.2.2.2.2; omega)) K.2.1 K.2.2.1 (f1_of (K.2.2.2.1.trans (show 40 ≤ C 0 ↔ C 0 = 40 by omega))) (fun x => x) (Or.inr ⟨rfl, fun z => k0 z.2.1, by rw [xp_y K70, xp_n k0]; exact f0⟩))
    · skip
      skip
      refine e_aload_n dX12_yearLine_49 rfl ?_
      refine e_callV [] dX12_yearLine_50 tm_12_221 rfl (Nat.le_of_ble_eq_true rfl) (rk_s k32) (Nat.le_of_ble_eq_true rfl) (Nat.le_refl _) (Nat.le_refl _) rfl (zp_X12_takeSide k32 H33 H36 H35 PN1 (fun v146 p147 h148 f149 p150 => ?_))
      have k151 := rk_q (frm_s f149) k32
      have H152 := rfT_c f149 (fun a k q => by omega) H33
      have H153 := rfC_c f149 (fun a k q => by omega) H34
      have FR154 := frm_t FR37 (frm_m (S' := (fun a j => (a = m ∧ (j = 9 ∨ (11 ≤ j ∧ j ≤ 17) ∨ j = 22)) ∨ a = m + 9 ∨ a = m + 10)) f149 (fun a k q => by omega))
      skip
      refine z_if_eq 100 dX12_yearLine_53 rfl ⟨by omega, by omega⟩ (fun c155 => ?_) (fun c155 => ?_)
      · skip
        have sn := sdr_0 p150 (by omega)
        refine z_iconst (0) dX12_yearLine_100 rfl ?_
        refine z_bret dX12_yearLine_101 rfl (Or.inl rfl) ⟨rfl, ?_⟩
        have K := db_g (C := C) p2 (by omega)
        rcases sn with ⟨s1, s2⟩ | ⟨s1, s2, s3⟩
        · exact kq 0 (Or.inl rfl) _ FR154 (ref_side K.1 (fun z => by unfold sdL at z; have := K.2.2.2.2.2; omega) s2)
        · exact kq 0 (Or.inl rfl) _ FR154 (ref_of K.1 (Or.inr s1) K.2.1 K.2.2.1 (f1_of (K.2.2.2.1.trans (show 40 ≤ C 0 ↔ C 0 = 40 by omega))) (fun x => x) (Or.inr ⟨rfl, fun z => s2 z.1, by rw [xp_n s2]; exact s3⟩))
      · skip
        obtain ⟨gs, gk, GP, GF, g1, g2⟩ := sdr_1 p150 (by omega)
        have gv := tv_b gk
        refine e_iload dX12_yearLine_56 rfl ?_
        refine z_iconst (4) dX12_yearLine_58 rfl ?_
        refine z_icmp_eq 79 dX12_yearLine_59 rfl ⟨by omega, by omega⟩ ⟨by omega, by omega⟩ (fun c156 => ?_) (fun c156 => ?_)
        · skip
          refine e_iload dX12_yearLine_79 rfl ?_
          refine z_if_eq 90 dX12_yearLine_81 rfl ⟨by omega, by omega⟩ (fun c157 => ?_) (fun c157 => ?_)
          · exfalso; omega
          · skip
            refine e_iload dX12_yearLine_84 rfl ?_
            refine z_iconst (3) dX12_yearLine_86 rfl ?_
            refine z_icmp_ne 102 dX12_yearLine_87 rfl ⟨by omega, by omega⟩ ⟨by omega, by omega⟩ (fun c158 => ?_) (fun c158 => ?_)
            · skip
              refine e_aload_n dX12_yearLine_102 rfl ?_
              refine e_get (.ref (m + 10)) dX12_yearLine_103 tf_12_38 (rk_s k151) (congrArg va_rf (rk_r10 k151)) ?_
              refine z_iconst (0) dX12_yearLine_106 rfl ?_
              refine e_iload dX12_yearLine_107 rfl ?_
              refine z_ist dX12_yearLine_109 (rk_a10 k151) (by decide) (by omega) (by omega) (fun h159 e160 => ?_)
              have f161 := frm_1 e160
              have k162 := rk_q (frm_s f161) k151
              have H163 := rfT_c f161 (fun a k q => by omega) H152
              have H164 := rfC_c f161 (fun a k q => by omega) H153
              have H165 := rfP_c f161 (fun a k q => by omega) GP
              have H166 := rfF_c f161 (fun a k q => by omega) GF
              have FR167 := frm_t FR154 (frm_m (S' := (fun a j => (a = m ∧ (j = 9 ∨ (11 ≤ j ∧ j ≤ 17) ∨ j = 22)) ∨ a = m + 9 ∨ a = m + 10)) f161 (fun a k q => by omega))
              refine e_aload_n dX12_yearLine_110 rfl ?_
              refine z_bipush (40) dX12_yearLine_111 rfl ?_
              refine e_callV [.int _] dX12_yearLine_113 tm_12_224 rfl (Nat.le_of_ble_eq_true rfl) (rk_s k162) (Nat.le_of_ble_eq_true rfl) (Nat.le_refl _) (Nat.le_refl _) rfl (zp_X12_keep_40 k162 H164 v1 (if tkW T L (tkE T L p) = 30064 then 1 else 0) (tkV T L (tkE T L (tkE T L p))) (rI_eq e160 ⟨by omega, by omega⟩) (((frm_r f161 (by omega))).trans g1) (((frm_r f161 (by omega))).trans g2) (by omega) (fun  h168 f169 p170 => ?_))
              have k171 := rk_q (frm_s f169) k162
              have H172 := rfT_c f169 (fun a k q => by omega) H163
              have H173 := rfP_c f169 (fun a k q => by omega) H165
              have H174 := rfF_c f169 (fun a k q => by omega) H166
              have FR175 := frm_t FR167 (frm_m (S' := (fun a j => (a = m ∧ (j = 9 ∨ (11 ≤ j ∧ j ≤ 17) ∨ j = 22)) ∨ a = m + 9 ∨ a = m + 10)) f169 (fun a k q => by omega))
              refine z_iconst (1) dX12_yearLine_116 rfl ?_
              refine z_bret dX12_yearLine_117 rfl (Or.inr rfl) ⟨rfl, ?_⟩
              have K := db_g (C := C) p2 (by omega)
              exact kq 1 (Or.inr rfl) _ FR175 (ref_of K.1 (Or.inr gs) K.2.1 K.2.2.1 (f1_of (K.2.2.2.1.trans (show 40 ≤ C 0 ↔ C 0 = 40 by omega))) (fun x => x) (Or.inl ⟨rfl, ⟨gk, trivial⟩, H173, H174, by rw [K.2.2.2.2.1]; exact p170⟩))
            · exfalso; omega
        · exfalso; omega
  · skip
    refine e_aload_n dX12_yearLine_12 rfl ?_
    refine e_callV [] dX12_yearLine_13 tm_12_155 rfl (Nat.le_of_ble_eq_true rfl) (rk_s hk) (Nat.le_of_ble_eq_true rfl) (Nat.le_refl _) (Nat.le_refl _) rfl (zp_X12_fails hk HP (by omega) (fun  h176 f177 p178 => ?_))
    have k179 := rk_q (frm_s f177) hk
    have H180 := rfT_c f177 (fun a k q => by omega) HT
    have H181 := rfP_c f177 (fun a k q => by omega) HP
    have H182 := rfF_c f177 (fun a k q => by omega) HF
    have H183 := rfC_c f177 (fun a k q => by omega) HC
    have FR184 := frm_t FR0 (frm_m (S' := (fun a j => (a = m ∧ (j = 9 ∨ (11 ≤ j ∧ j ≤ 17) ∨ j = 22)) ∨ a = m + 9 ∨ a = m + 10)) f177 (fun a k q => by omega))
    skip
    refine z_bret dX12_yearLine_16 rfl (bZ_01 _) ⟨rfl, ?_⟩
    exact kq 0 (Or.inl rfl) _ FR184 (ref_bad (db_n p2 (by omega)) p178)
set_option maxHeartbeats 4000000 in
theorem zp_X12_clueLine {ad : mA} {dd : Nat} {h : mH} {Q : mQ} {m : Nat} {T C : Int → Int} {L p f q : Int} (hk : rk h m) (HT : rfT h m T L) (HP : rfP h m T L p) (HF : rfF h m f q) (HC : rfC h m C)   (pn : nqB f q (tkS T L p)) (py : 0 ≤ C 0 ∧ C 0 ≤ 8) (kq : ∀ v : Int, (v = 0 ∨ v = 1) → ∀ h1, frm (fun a j => (a = m ∧ (j = 9 ∨ (11 ≤ j ∧ j ≤ 17) ∨ j = 22)) ∨ a = m + 9 ∨ a = m + 10) h h1 → (rfO h1 m T L 2 p f q C v (rfC h1 m (lcL 2 T L p C))) → Q (some (.int (zI v))) h1) : mCal TB0 ad (dd + 4) M_X12_clueLine [.ref m, .long (zJ (tkW T L p)), .int (zI (tkS T L p))] h 0 0 Q := by
  refine ⟨Nat.le_of_ble_eq_true rfl, ?_⟩
  show mEv TB0 ad M_X12_clueLine (dd + 4) (0, 0) (mCal TB0 ad (dd + 3)) (fun v h' z => z.1 = 0 ∧ Q v h') 0 [some (.ref m), some (.long (zJ (tkW T L p))), none, some (.int (zI (tkS T L p))), none] [] h (0, 0)
  have FR0 : frm (fun a j => (a = m ∧ (j = 9 ∨ (11 ≤ j ∧ j ≤ 17) ∨ j = 22)) ∨ a = m + 9 ∨ a = m + 10) h h := frm_0 h
  have w1 := HT.1
  have p0 := HP.1
  have tb := tk_b (T := T) HP.1.1 HP.1.2
  have wb := tw_b (T := T) (L := L) (p := p)
  have wk : tkW T L p ≠ 0 → tkK T L p = 0 := fun z => Classical.byContradiction (fun n => z (tw_0 n))
  refine e_lload_n dX12_clueLine_0 rfl ?_
  refine z_ldc2 (1819242087) dX12_clueLine_1 tl_12_227 rfl ?_
  refine z_lcmp dX12_clueLine_4 ⟨by omega, by omega⟩ ⟨by omega, by omega⟩ ?_
  refine z_ifl_ne 12 dX12_clueLine_5 rfl (fun c1 => ?_) (fun c1 => ?_)
  · skip
    refine e_lload_n dX12_clueLine_12 rfl ?_
    refine z_ldc2 (418497262196) dX12_clueLine_13 tl_12_229 rfl ?_
    refine z_lcmp dX12_clueLine_16 ⟨by omega, by omega⟩ ⟨by omega, by omega⟩ ?_
    refine z_ifl_ne 24 dX12_clueLine_17 rfl (fun c2 => ?_) (fun c2 => ?_)
    · skip
      refine e_lload_n dX12_clueLine_24 rfl ?_
      refine z_ldc2 (491496236904) dX12_clueLine_25 tl_12_231 rfl ?_
      refine z_lcmp dX12_clueLine_28 ⟨by omega, by omega⟩ ⟨by omega, by omega⟩ ?_
      refine z_ifl_ne 36 dX12_clueLine_29 rfl (fun c3 => ?_) (fun c3 => ?_)
      · skip
        refine e_lload_n dX12_clueLine_36 rfl ?_
        refine z_ldc2 (1818584692) dX12_clueLine_37 tl_12_233 rfl ?_
        refine z_lcmp dX12_clueLine_40 ⟨by omega, by omega⟩ ⟨by omega, by omega⟩ ?_
        refine z_ifl_ne 48 dX12_clueLine_41 rfl (fun c4 => ?_) (fun c4 => ?_)
        · skip
          refine z_iconst (-1) dX12_clueLine_48 rfl ?_
          refine e_istore (L' := [_, _, _, _, _]) dX12_clueLine_49 (Nat.le_of_ble_eq_true rfl) rfl ?_
          refine e_iload dX12_clueLine_51 rfl ?_
          refine z_iconst (-1) dX12_clueLine_53 rfl ?_
          refine z_icmp_ne 62 dX12_clueLine_54 rfl ⟨by omega, by omega⟩ ⟨by omega, by omega⟩ (fun c5 => ?_) (fun c5 => ?_)
          · exfalso; omega
          · skip
            refine e_aload_n dX12_clueLine_57 rfl ?_
            refine e_callV [] dX12_clueLine_58 tm_12_155 rfl (Nat.le_of_ble_eq_true rfl) (rk_s hk) (Nat.le_of_ble_eq_true rfl) (Nat.le_refl _) (Nat.le_refl _) rfl (zp_X12_fails hk HP (by omega) (fun  h6 f7 p8 => ?_))
            have k9 := rk_q (frm_s f7) hk
            have H10 := rfT_c f7 (fun a k q => by omega) HT
            have H11 := rfP_c f7 (fun a k q => by omega) HP
            have H12 := rfF_c f7 (fun a k q => by omega) HF
            have H13 := rfC_c f7 (fun a k q => by omega) HC
            have FR14 := frm_t FR0 (frm_m (S' := (fun a j => (a = m ∧ (j = 9 ∨ (11 ≤ j ∧ j ≤ 17) ∨ j = 22)) ∨ a = m + 9 ∨ a = m + 10)) f7 (fun a k q => by omega))
            skip
            refine z_bret dX12_clueLine_61 rfl (bZ_01 _) ⟨rfl, ?_⟩
            exact kq 0 (Or.inl rfl) _ FR14 (ref_bad (fun z => by unfold knL at z; omega) p8)
        · skip
          refine z_iconst (3) dX12_clueLine_44 rfl ?_
          refine e_goto 49 dX12_clueLine_45 rfl ?_
          refine e_istore (L' := [_, _, _, _, _]) dX12_clueLine_49 (Nat.le_of_ble_eq_true rfl) rfl ?_
          refine e_iload dX12_clueLine_51 rfl ?_
          refine z_iconst (-1) dX12_clueLine_53 rfl ?_
          refine z_icmp_ne 62 dX12_clueLine_54 rfl ⟨by omega, by omega⟩ ⟨by omega, by omega⟩ (fun c15 => ?_) (fun c15 => ?_)
          · skip
            refine e_aload_n dX12_clueLine_62 rfl ?_
            refine z_iconst (0) dX12_clueLine_63 rfl ?_
            refine z_bipush (8) dX12_clueLine_64 rfl ?_
            refine e_iload_n dX12_clueLine_66 rfl ?_
            refine e_callV [.int _, .int _, .int _] dX12_clueLine_67 tm_12_191 rfl (Nat.le_of_ble_eq_true rfl) (rk_s hk) (Nat.le_of_ble_eq_true rfl) (Nat.le_refl _) (Nat.le_refl _) rfl (zp_X12_full hk HF HC 0 ⟨by omega, by omega⟩ 8 ⟨by omega, by omega⟩ (tkS T L p) ⟨by omega, by omega⟩ (by omega) pn (fun  h16 f17 p18 => ?_))
            have k19 := rk_q (frm_s f17) hk
            have H20 := rfT_c f17 (fun a k q => by omega) HT
            have H21 := rfP_c f17 (fun a k q => by omega) HP
            have H22 := rfC_c f17 (fun a k q => by omega) HC
            have FR23 := frm_t FR0 (frm_m (S' := (fun a j => (a = m ∧ (j = 9 ∨ (11 ≤ j ∧ j ≤ 17) ∨ j = 22)) ∨ a = m + 9 ∨ a = m + 10)) f17 (fun a k q => by omega))
            refine e_aload_n dX12_clueLine_70 rfl ?_
            refine e_callV [] dX12_clueLine_71 tm_12_167 rfl (Nat.le_of_ble_eq_true rfl) (rk_s k19) (Nat.le_of_ble_eq_true rfl) (Nat.le_refl _) (Nat.le_refl _) rfl (zp_X12_token k19 H20 (tkE T L p) H21.2.1 (by omega) (fun  h24 f25 p26 => ?_))
            have k27 := rk_q (frm_s f25) k19
            have H28 := rfT_c f25 (fun a k q => by omega) H20
            have H29 := rfC_c f25 (fun a k q => by omega) H22
            have H30 := rfF_c f25 (fun a k q => by omega) p18
            have FR31 := frm_t FR23 (frm_m (S' := (fun a j => (a = m ∧ (j = 9 ∨ (11 ≤ j ∧ j ≤ 17) ∨ j = 22)) ∨ a = m + 9 ∨ a = m + 10)) f25 (fun a k q => by omega))
            have tk2 := tk_b (T := T) (L := L) (p := tkE T L p) (by omega) (by omega)
            have PN1 : nqB (ntF (C 0 = 8) 3 f) (ntQ (C 0 = 8) (tkS T L p) f q) (tkS T L (tkE T L p)) := nqB_t pn (by omega) (by omega) (by omega)
            refine e_aload_n dX12_clueLine_74 rfl ?_
            refine e_get (.ref (m + 10)) dX12_clueLine_75 tf_12_38 (rk_s k27) (congrArg va_rf (rk_r10 k27)) ?_
            refine z_iconst (2) dX12_clueLine_78 rfl ?_
            refine z_iconst (1) dX12_clueLine_79 rfl ?_
            refine z_ist dX12_clueLine_80 (rk_a10 k27) (by decide) (by omega) (by omega) (fun h32 e33 => ?_)
            have f34 := frm_1 e33
            have k35 := rk_q (frm_s f34) k27
            have H36 := rfT_c f34 (fun a k q => by omega) H28
            have H37 := rfC_c f34 (fun a k q => by omega) H29
            have H38 := rfF_c f34 (fun a k q => by omega) H30
            have H39 := rfP_c f34 (fun a k q => by omega) p26
            have FR40 := frm_t FR31 (frm_m (S' := (fun a j => (a = m ∧ (j = 9 ∨ (11 ≤ j ∧ j ≤ 17) ∨ j = 22)) ∨ a = m + 9 ∨ a = m + 10)) f34 (fun a k q => by omega))
            refine e_aload_n dX12_clueLine_81 rfl ?_
            refine z_get (ksZ (tkK T L (tkE T L p))) dX12_clueLine_82 tf_12_140 (rk_s k35) (Or.inl rfl) H39.2.2.1 ?_
            have y41 := tk_b (T := T) H39.1.1 H39.1.2
            have y42 := H39.1
            have y43 := ks_p (tkK T L (tkE T L p))
            refine z_iconst (2) dX12_clueLine_85 rfl ?_
            refine z_icmp_ne 111 dX12_clueLine_86 rfl ⟨by omega, by omega⟩ ⟨by omega, by omega⟩ (fun c44 => ?_) (fun c44 => ?_)
            · skip
              have zn : tkW T L (tkE T L p) ≠ 28271 := by have w0 := tw_0 (T := T) (L := L) (p := (tkE T L p)); omega
              refine e_aload_n dX12_clueLine_111 rfl ?_
              refine z_iconst (1) dX12_clueLine_112 rfl ?_
              refine z_iconst (0) dX12_clueLine_113 rfl ?_
              refine e_iload dX12_clueLine_114 rfl ?_
              refine z_iconst (1) dX12_clueLine_116 rfl ?_
              refine z_icmp_ne 125 dX12_clueLine_117 rfl ⟨by omega, by omega⟩ ⟨by omega, by omega⟩ (fun c45 => ?_) (fun c45 => ?_)
              · skip
                refine e_iload dX12_clueLine_125 rfl ?_
                refine z_iconst (3) dX12_clueLine_127 rfl ?_
                refine z_icmp_ne 135 dX12_clueLine_128 rfl ⟨by omega, by omega⟩ ⟨by omega, by omega⟩ (fun c46 => ?_) (fun c46 => ?_)
                · exfalso; omega
                · skip
                  refine z_iconst (2) dX12_clueLine_131 rfl ?_
                  refine e_goto 137 dX12_clueLine_132 rfl ?_
                  have PN137 := PN1
                  refine e_callV [.int _, .int _, .int _] dX12_clueLine_137 tm_12_170 rfl (Nat.le_of_ble_eq_true rfl) (rk_s k35) (Nat.le_of_ble_eq_true rfl) (Nat.le_refl _) (Nat.le_refl _) rfl (zp_X12_take k35 H36 H39 H38 1 ⟨by omega, by omega⟩ 0 ⟨by omega, by omega⟩ 2 ⟨by omega, by omega⟩ PN137 (by omega) (fun v47 p48 h49 f50 p51 => ?_))
                  have k52 := rk_q (frm_s f50) k35
                  have H53 := rfT_c f50 (fun a k q => by omega) H36
                  have H54 := rfC_c f50 (fun a k q => by omega) H37
                  have FR55 := frm_t FR40 (frm_m (S' := (fun a j => (a = m ∧ (j = 9 ∨ (11 ≤ j ∧ j ≤ 17) ∨ j = 22)) ∨ a = m + 9 ∨ a = m + 10)) f50 (fun a k q => by omega))
                  skip
                  refine z_if_ne 145 dX12_clueLine_140 rfl ⟨by omega, by omega⟩ (fun c56 => ?_) (fun c56 => ?_)
                  · skip
                    obtain ⟨K57, K57p, K57f, K57n, K57g⟩ := tkr_1 p51 (by omega)
                    have K57t := tk_b (T := T) K57p.1.1 K57p.1.2
                    have K57v := tv_b K57
                    have K57b : nqB (ntF (¬ (0 ≤ tkV T L (tkE T L p) ∧ tkV T L (tkE T L p) ≤ 2)) 2 (ntF (C 0 = 8) 3 f)) (ntQ (¬ (0 ≤ tkV T L (tkE T L p) ∧ tkV T L (tkE T L p) ≤ 2)) (tkS T L (tkE T L p)) (ntF (C 0 = 8) 3 f) (ntQ (C 0 = 8) (tkS T L p) f q)) (tkS T L (tkE T L (tkE T L p))) := nqB_t PN1 (by omega) (by omega) (by omega)
                    refine e_aload_n dX12_clueLine_145 rfl ?_
                    refine e_get (.ref (m + 10)) dX12_clueLine_146 tf_12_38 (rk_s k52) (congrArg va_rf (rk_r10 k52)) ?_
                    refine z_iconst (0) dX12_clueLine_149 rfl ?_
                    refine e_iload dX12_clueLine_150 rfl ?_
                    refine z_ist dX12_clueLine_152 (rk_a10 k52) (by decide) (by omega) (by omega) (fun h58 e59 => ?_)
                    have f60 := frm_1 e59
                    have k61 := rk_q (frm_s f60) k52
                    have H62 := rfT_c f60 (fun a k q => by omega) H53
                    have H63 := rfC_c f60 (fun a k q => by omega) H54
                    have H64 := rfP_c f60 (fun a k q => by omega) K57p
                    have H65 := rfF_c f60 (fun a k q => by omega) K57f
                    have FR66 := frm_t FR55 (frm_m (S' := (fun a j => (a = m ∧ (j = 9 ∨ (11 ≤ j ∧ j ≤ 17) ∨ j = 22)) ∨ a = m + 9 ∨ a = m + 10)) f60 (fun a k q => by omega))
                    refine e_aload_n dX12_clueLine_153 rfl ?_
                    refine z_bipush (8) dX12_clueLine_154 rfl ?_
                    refine e_callV [.int _] dX12_clueLine_156 tm_12_224 rfl (Nat.le_of_ble_eq_true rfl) (rk_s k61) (Nat.le_of_ble_eq_true rfl) (Nat.le_refl _) (Nat.le_refl _) rfl (zp_X12_keep_8 k61 H63 3 (tkV T L (tkE T L p)) 1 (rI_eq e59 ⟨by omega, by omega⟩) (((frm_r f60 (by omega))).trans K57n) (((frm_r f60 (by omega)).trans (frm_r f50 (by omega))).trans (rI_eq e33 ⟨by omega, by omega⟩)) (by omega) (fun  h67 f68 p69 => ?_))
                    have k70 := rk_q (frm_s f68) k61
                    have H71 := rfT_c f68 (fun a k q => by omega) H62
                    have H72 := rfP_c f68 (fun a k q => by omega) H64
                    have H73 := rfF_c f68 (fun a k q => by omega) H65
                    have FR74 := frm_t FR66 (frm_m (S' := (fun a j => (a = m ∧ (j = 9 ∨ (11 ≤ j ∧ j ≤ 17) ∨ j = 22)) ∨ a = m + 9 ∨ a = m + 10)) f68 (fun a k q => by omega))
                    refine z_iconst (1) dX12_clueLine_159 rfl ?_
                    refine z_bret dX12_clueLine_160 rfl (Or.inr rfl) ⟨rfl, ?_⟩
                    have K := kn_2left_so (T := T) (C := C) (L := L) (p := p) (by omega) (by omega)
                    exact kq 1 (Or.inr rfl) _ FR74 (ref_of K.1 (sd_o (by omega)) K.2.1 K.2.2.1 (f1_of (K.2.2.2.1.trans (show 8 ≤ C 0 ↔ C 0 = 8 by omega))) (fun x => x) (Or.inl ⟨rfl, ⟨K57, trivial⟩, H72, H73, by rw [K.2.2.2.2]; exact p69⟩))
                  · skip
                    obtain ⟨k0, f0⟩ := tkr_0 p51 (by omega)
                    refine z_iconst (0) dX12_clueLine_143 rfl ?_
                    refine z_bret dX12_clueLine_144 rfl (Or.inl rfl) ⟨rfl, ?_⟩
                    have K := kn_2left_so (T := T) (C := C) (L := L) (p := p) (by omega) (by omega)
                    exact kq 0 (Or.inl rfl) _ FR55 (ref_of K.1 (sd_o (by omega)) K.2.1 K.2.2.1 (f1_of (K.2.2.2.1.trans (show 8 ≤ C 0 ↔ C 0 = 8 by omega))) (fun x => x) (Or.inr ⟨rfl, fun z => k0 z.1, by rw [xp_n k0]; exact f0⟩))
              · exfalso; omega
            · skip
              refine e_aload_n dX12_clueLine_89 rfl ?_
              refine z_getJ (tkW T L (tkE T L p)) dX12_clueLine_90 tf_12_136 (rk_s k35) rfl (H39.2.2.2.2.2) ?_
              have y75 := tw_b (T := T) (L := L) (p := (tkE T L p))
              refine z_ldc2 (28271) dX12_clueLine_93 tl_12_235 rfl ?_
              refine z_lcmp dX12_clueLine_96 ⟨by omega, by omega⟩ ⟨by omega, by omega⟩ ?_
              refine z_ifl_ne 111 dX12_clueLine_97 rfl (fun c76 => ?_) (fun c76 => ?_)
              · skip
                have zn : tkW T L (tkE T L p) ≠ 28271 := by have w0 := tw_0 (T := T) (L := L) (p := (tkE T L p)); omega
                refine e_aload_n dX12_clueLine_111 rfl ?_
                refine z_iconst (1) dX12_clueLine_112 rfl ?_
                refine z_iconst (0) dX12_clueLine_113 rfl ?_
                refine e_iload dX12_clueLine_114 rfl ?_
                refine z_iconst (1) dX12_clueLine_116 rfl ?_
                refine z_icmp_ne 125 dX12_clueLine_117 rfl ⟨by omega, by omega⟩ ⟨by omega, by omega⟩ (fun c77 => ?_) (fun c77 => ?_)
                · skip
                  refine e_iload dX12_clueLine_125 rfl ?_
                  refine z_iconst (3) dX12_clueLine_127 rfl ?_
                  refine z_icmp_ne 135 dX12_clueLine_128 rfl ⟨by omega, by omega⟩ ⟨by omega, by omega⟩ (fun c78 => ?_) (fun c78 => ?_)
                  · exfalso; omega
                  · skip
                    refine z_iconst (2) dX12_clueLine_131 rfl ?_
                    refine e_goto 137 dX12_clueLine_132 rfl ?_
                    have PN137 := PN1
                    refine e_callV [.int _, .int _, .int _] dX12_clueLine_137 tm_12_170 rfl (Nat.le_of_ble_eq_true rfl) (rk_s k35) (Nat.le_of_ble_eq_true rfl) (Nat.le_refl _) (Nat.le_refl _) rfl (zp_X12_take k35 H36 H39 H38 1 ⟨by omega, by omega⟩ 0 ⟨by omega, by omega⟩ 2 ⟨by omega, by omega⟩ PN137 (by omega) (fun v79 p80 h81 f82 p83 => ?_))
                    have k84 := rk_q (frm_s f82) k35
                    have H85 := rfT_c f82 (fun a k q => by omega) H36
                    have H86 := rfC_c f82 (fun a k q => by omega) H37
                    have FR87 := frm_t FR40 (frm_m (S' := (fun a j => (a = m ∧ (j = 9 ∨ (11 ≤ j ∧ j ≤ 17) ∨ j = 22)) ∨ a = m + 9 ∨ a = m + 10)) f82 (fun a k q => by omega))
                    skip
                    refine z_if_ne 145 dX12_clueLine_140 rfl ⟨by omega, by omega⟩ (fun c88 => ?_) (fun c88 => ?_)
                    · skip
                      obtain ⟨K89, K89p, K89f, K89n, K89g⟩ := tkr_1 p83 (by omega)
                      have K89t := tk_b (T := T) K89p.1.1 K89p.1.2
                      have K89v := tv_b K89
                      have K89b : nqB (ntF (¬ (0 ≤ tkV T L (tkE T L p) ∧ tkV T L (tkE T L p) ≤ 2)) 2 (ntF (C 0 = 8) 3 f)) (ntQ (¬ (0 ≤ tkV T L (tkE T L p) ∧ tkV T L (tkE T L p) ≤ 2)) (tkS T L (tkE T L p)) (ntF (C 0 = 8) 3 f) (ntQ (C 0 = 8) (tkS T L p) f q)) (tkS T L (tkE T L (tkE T L p))) := nqB_t PN1 (by omega) (by omega) (by omega)
                      refine e_aload_n dX12_clueLine_145 rfl ?_
                      refine e_get (.ref (m + 10)) dX12_clueLine_146 tf_12_38 (rk_s k84) (congrArg va_rf (rk_r10 k84)) ?_
                      refine z_iconst (0) dX12_clueLine_149 rfl ?_
                      refine e_iload dX12_clueLine_150 rfl ?_
                      refine z_ist dX12_clueLine_152 (rk_a10 k84) (by decide) (by omega) (by omega) (fun h90 e91 => ?_)
                      have f92 := frm_1 e91
                      have k93 := rk_q (frm_s f92) k84
                      have H94 := rfT_c f92 (fun a k q => by omega) H85
                      have H95 := rfC_c f92 (fun a k q => by omega) H86
                      have H96 := rfP_c f92 (fun a k q => by omega) K89p
                      have H97 := rfF_c f92 (fun a k q => by omega) K89f
                      have FR98 := frm_t FR87 (frm_m (S' := (fun a j => (a = m ∧ (j = 9 ∨ (11 ≤ j ∧ j ≤ 17) ∨ j = 22)) ∨ a = m + 9 ∨ a = m + 10)) f92 (fun a k q => by omega))
                      refine e_aload_n dX12_clueLine_153 rfl ?_
                      refine z_bipush (8) dX12_clueLine_154 rfl ?_
                      refine e_callV [.int _] dX12_clueLine_156 tm_12_224 rfl (Nat.le_of_ble_eq_true rfl) (rk_s k93) (Nat.le_of_ble_eq_true rfl) (Nat.le_refl _) (Nat.le_refl _) rfl (zp_X12_keep_8 k93 H95 3 (tkV T L (tkE T L p)) 1 (rI_eq e91 ⟨by omega, by omega⟩) (((frm_r f92 (by omega))).trans K89n) (((frm_r f92 (by omega)).trans (frm_r f82 (by omega))).trans (rI_eq e33 ⟨by omega, by omega⟩)) (by omega) (fun  h99 f100 p101 => ?_))
                      have k102 := rk_q (frm_s f100) k93
                      have H103 := rfT_c f100 (fun a k q => by omega) H94
                      have H104 := rfP_c f100 (fun a k q => by omega) H96
                      have H105 := rfF_c f100 (fun a k q => by omega) H97
                      have FR106 := frm_t FR98 (frm_m (S' := (fun a j => (a = m ∧ (j = 9 ∨ (11 ≤ j ∧ j ≤ 17) ∨ j = 22)) ∨ a = m + 9 ∨ a = m + 10)) f100 (fun a k q => by omega))
                      refine z_iconst (1) dX12_clueLine_159 rfl ?_
                      refine z_bret dX12_clueLine_160 rfl (Or.inr rfl) ⟨rfl, ?_⟩
                      have K := kn_2left_so (T := T) (C := C) (L := L) (p := p) (by omega) (by omega)
                      exact kq 1 (Or.inr rfl) _ FR106 (ref_of K.1 (sd_o (by omega)) K.2.1 K.2.2.1 (f1_of (K.2.2.2.1.trans (show 8 ≤ C 0 ↔ C 0 = 8 by omega))) (fun x => x) (Or.inl ⟨rfl, ⟨K89, trivial⟩, H104, H105, by rw [K.2.2.2.2]; exact p101⟩))
                    · skip
                      obtain ⟨k0, f0⟩ := tkr_0 p83 (by omega)
                      refine z_iconst (0) dX12_clueLine_143 rfl ?_
                      refine z_bret dX12_clueLine_144 rfl (Or.inl rfl) ⟨rfl, ?_⟩
                      have K := kn_2left_so (T := T) (C := C) (L := L) (p := p) (by omega) (by omega)
                      exact kq 0 (Or.inl rfl) _ FR87 (ref_of K.1 (sd_o (by omega)) K.2.1 K.2.2.1 (f1_of (K.2.2.2.1.trans (show 8 ≤ C 0 ↔ C 0 = 8 by omega))) (fun x => x) (Or.inr ⟨rfl, fun z => k0 z.1, by rw [xp_n k0]; exact f0⟩))
                · exfalso; omega
              · skip
                skip
                refine e_aload_n dX12_clueLine_100 rfl ?_
                refine e_get (.ref (m + 10)) dX12_clueLine_101 tf_12_38 (rk_s k35) (congrArg va_rf (rk_r10 k35)) ?_
                refine z_iconst (2) dX12_clueLine_104 rfl ?_
                refine z_iconst (0) dX12_clueLine_105 rfl ?_
                refine z_ist dX12_clueLine_106 (rk_a10 k35) (by decide) (by omega) (by omega) (fun h107 e108 => ?_)
                have f109 := frm_1 e108
                have k110 := rk_q (frm_s f109) k35
                have H111 := rfT_c f109 (fun a k q => by omega) H36
                have H112 := rfC_c f109 (fun a k q => by omega) H37
                have H113 := rfF_c f109 (fun a k q => by omega) H38
                have H114 := rfP_c f109 (fun a k q => by omega) H39
                have FR115 := frm_t FR40 (frm_m (S' := (fun a j => (a = m ∧ (j = 9 ∨ (11 ≤ j ∧ j ≤ 17) ∨ j = 22)) ∨ a = m + 9 ∨ a = m + 10)) f109 (fun a k q => by omega))
                refine e_aload_n dX12_clueLine_107 rfl ?_
                refine e_callV [] dX12_clueLine_108 tm_12_167 rfl (Nat.le_of_ble_eq_true rfl) (rk_s k110) (Nat.le_of_ble_eq_true rfl) (Nat.le_refl _) (Nat.le_refl _) rfl (zp_X12_token k110 H111 (tkE T L (tkE T L p)) H114.2.1 (by omega) (fun  h116 f117 p118 => ?_))
                have k119 := rk_q (frm_s f117) k110
                have H120 := rfT_c f117 (fun a k q => by omega) H111
                have H121 := rfC_c f117 (fun a k q => by omega) H112
                have H122 := rfF_c f117 (fun a k q => by omega) H113
                have FR123 := frm_t FR115 (frm_m (S' := (fun a j => (a = m ∧ (j = 9 ∨ (11 ≤ j ∧ j ≤ 17) ∨ j = 22)) ∨ a = m + 9 ∨ a = m + 10)) f117 (fun a k q => by omega))
                have tk3 := tk_b (T := T) (L := L) (p := (tkE T L (tkE T L p))) (by omega) (by omega)
                have PN2 : nqB (ntF (C 0 = 8) 3 f) (ntQ (C 0 = 8) (tkS T L p) f q) (tkS T L (tkE T L (tkE T L p))) := nqB_m PN1 (by omega)
                refine e_aload_n dX12_clueLine_111 rfl ?_
                refine z_iconst (1) dX12_clueLine_112 rfl ?_
                refine z_iconst (0) dX12_clueLine_113 rfl ?_
                refine e_iload dX12_clueLine_114 rfl ?_
                refine z_iconst (1) dX12_clueLine_116 rfl ?_
                refine z_icmp_ne 125 dX12_clueLine_117 rfl ⟨by omega, by omega⟩ ⟨by omega, by omega⟩ (fun c124 => ?_) (fun c124 => ?_)
                · skip
                  refine e_iload dX12_clueLine_125 rfl ?_
                  refine z_iconst (3) dX12_clueLine_127 rfl ?_
                  refine z_icmp_ne 135 dX12_clueLine_128 rfl ⟨by omega, by omega⟩ ⟨by omega, by omega⟩ (fun c125 => ?_) (fun c125 => ?_)
                  · exfalso; omega
                  · skip
                    refine z_iconst (2) dX12_clueLine_131 rfl ?_
                    refine e_goto 137 dX12_clueLine_132 rfl ?_
                    have PN137 := PN2
                    refine e_callV [.int _, .int _, .int _] dX12_clueLine_137 tm_12_170 rfl (Nat.le_of_ble_eq_true rfl) (rk_s k119) (Nat.le_of_ble_eq_true rfl) (Nat.le_refl _) (Nat.le_refl _) rfl (zp_X12_take k119 H120 p118 H122 1 ⟨by omega, by omega⟩ 0 ⟨by omega, by omega⟩ 2 ⟨by omega, by omega⟩ PN137 (by omega) (fun v126 p127 h128 f129 p130 => ?_))
                    have k131 := rk_q (frm_s f129) k119
                    have H132 := rfT_c f129 (fun a k q => by omega) H120
                    have H133 := rfC_c f129 (fun a k q => by omega) H121
                    have FR134 := frm_t FR123 (frm_m (S' := (fun a j => (a = m ∧ (j = 9 ∨ (11 ≤ j ∧ j ≤ 17) ∨ j = 22)) ∨ a = m + 9 ∨ a = m + 10)) f129 (fun a k q => by omega))
                    skip
                    refine z_if_ne 145 dX12_clueLine_140 rfl ⟨by omega, by omega⟩ (fun c135 => ?_) (fun c135 => ?_)
                    · skip
                      obtain ⟨K136, K136p, K136f, K136n, K136g⟩ := tkr_1 p130 (by omega)
                      have K136t := tk_b (T := T) K136p.1.1 K136p.1.2
                      have K136v := tv_b K136
                      have K136b : nqB (ntF (¬ (0 ≤ tkV T L (tkE T L (tkE T L p)) ∧ tkV T L (tkE T L (tkE T L p)) ≤ 2)) 2 (ntF (C 0 = 8) 3 f)) (ntQ (¬ (0 ≤ tkV T L (tkE T L (tkE T L p)) ∧ tkV T L (tkE T L (tkE T L p)) ≤ 2)) (tkS T L (tkE T L (tkE T L p))) (ntF (C 0 = 8) 3 f) (ntQ (C 0 = 8) (tkS T L p) f q)) (tkS T L (tkE T L (tkE T L (tkE T L p)))) := nqB_t PN2 (by omega) (by omega) (by omega)
                      refine e_aload_n dX12_clueLine_145 rfl ?_
                      refine e_get (.ref (m + 10)) dX12_clueLine_146 tf_12_38 (rk_s k131) (congrArg va_rf (rk_r10 k131)) ?_
                      refine z_iconst (0) dX12_clueLine_149 rfl ?_
                      refine e_iload dX12_clueLine_150 rfl ?_
                      refine z_ist dX12_clueLine_152 (rk_a10 k131) (by decide) (by omega) (by omega) (fun h137 e138 => ?_)
                      have f139 := frm_1 e138
                      have k140 := rk_q (frm_s f139) k131
                      have H141 := rfT_c f139 (fun a k q => by omega) H132
                      have H142 := rfC_c f139 (fun a k q => by omega) H133
                      have H143 := rfP_c f139 (fun a k q => by omega) K136p
                      have H144 := rfF_c f139 (fun a k q => by omega) K136f
                      have FR145 := frm_t FR134 (frm_m (S' := (fun a j => (a = m ∧ (j = 9 ∨ (11 ≤ j ∧ j ≤ 17) ∨ j = 22)) ∨ a = m + 9 ∨ a = m + 10)) f139 (fun a k q => by omega))
                      refine e_aload_n dX12_clueLine_153 rfl ?_
                      refine z_bipush (8) dX12_clueLine_154 rfl ?_
                      refine e_callV [.int _] dX12_clueLine_156 tm_12_224 rfl (Nat.le_of_ble_eq_true rfl) (rk_s k140) (Nat.le_of_ble_eq_true rfl) (Nat.le_refl _) (Nat.le_refl _) rfl (zp_X12_keep_8 k140 H142 3 (tkV T L (tkE T L (tkE T L p))) 0 (rI_eq e138 ⟨by omega, by omega⟩) (((frm_r f139 (by omega))).trans K136n) (((frm_r f139 (by omega)).trans ((frm_r f129 (by omega)).trans (frm_r f117 (by omega)))).trans (rI_eq e108 ⟨by omega, by omega⟩)) (by omega) (fun  h146 f147 p148 => ?_))
                      have k149 := rk_q (frm_s f147) k140
                      have H150 := rfT_c f147 (fun a k q => by omega) H141
                      have H151 := rfP_c f147 (fun a k q => by omega) H143
                      have H152 := rfF_c f147 (fun a k q => by omega) H144
                      have FR153 := frm_t FR145 (frm_m (S' := (fun a j => (a = m ∧ (j = 9 ∨ (11 ≤ j ∧ j ≤ 17) ∨ j = 22)) ∨ a = m + 9 ∨ a = m + 10)) f147 (fun a k q => by omega))
                      refine z_iconst (1) dX12_clueLine_159 rfl ?_
                      refine z_bret dX12_clueLine_160 rfl (Or.inr rfl) ⟨rfl, ?_⟩
                      have K := kn_2left_no (T := T) (C := C) (L := L) (p := p) (by omega) (by omega)
                      exact kq 1 (Or.inr rfl) _ FR153 (ref_of K.1 (sd_o (by omega)) K.2.1 K.2.2.1 (f1_of (K.2.2.2.1.trans (show 8 ≤ C 0 ↔ C 0 = 8 by omega))) (fun x => x) (Or.inl ⟨rfl, ⟨K136, trivial⟩, H151, H152, by rw [K.2.2.2.2]; exact p148⟩))
                    · skip
                      obtain ⟨k0, f0⟩ := tkr_0 p130 (by omega)
                      refine z_iconst (0) dX12_clueLine_143 rfl ?_
                      refine z_bret dX12_clueLine_144 rfl (Or.inl rfl) ⟨rfl, ?_⟩
                      have K := kn_2left_no (T := T) (C := C) (L := L) (p := p) (by omega) (by omega)
                      exact kq 0 (Or.inl rfl) _ FR134 (ref_of K.1 (sd_o (by omega)) K.2.1 K.2.2.1 (f1_of (K.2.2.2.1.trans (show 8 ≤ C 0 ↔ C 0 = 8 by omega))) (fun x => x) (Or.inr ⟨rfl, fun z => k0 z.1, by rw [xp_n k0]; exact f0⟩))
                · exfalso; omega
          · exfalso; omega
      · skip
        refine z_iconst (2) dX12_clueLine_32 rfl ?_
        refine e_goto 49 dX12_clueLine_33 rfl ?_
        refine e_istore (L' := [_, _, _, _, _]) dX12_clueLine_49 (Nat.le_of_ble_eq_true rfl) rfl ?_
        refine e_iload dX12_clueLine_51 rfl ?_
        refine z_iconst (-1) dX12_clueLine_53 rfl ?_
        refine z_icmp_ne 62 dX12_clueLine_54 rfl ⟨by omega, by omega⟩ ⟨by omega, by omega⟩ (fun c154 => ?_) (fun c154 => ?_)
        · skip
          refine e_aload_n dX12_clueLine_62 rfl ?_
          refine z_iconst (0) dX12_clueLine_63 rfl ?_
          refine z_bipush (8) dX12_clueLine_64 rfl ?_
          refine e_iload_n dX12_clueLine_66 rfl ?_
          refine e_callV [.int _, .int _, .int _] dX12_clueLine_67 tm_12_191 rfl (Nat.le_of_ble_eq_true rfl) (rk_s hk) (Nat.le_of_ble_eq_true rfl) (Nat.le_refl _) (Nat.le_refl _) rfl (zp_X12_full hk HF HC 0 ⟨by omega, by omega⟩ 8 ⟨by omega, by omega⟩ (tkS T L p) ⟨by omega, by omega⟩ (by omega) pn (fun  h155 f156 p157 => ?_))
          have k158 := rk_q (frm_s f156) hk
          have H159 := rfT_c f156 (fun a k q => by omega) HT
          have H160 := rfP_c f156 (fun a k q => by omega) HP
          have H161 := rfC_c f156 (fun a k q => by omega) HC
          have FR162 := frm_t FR0 (frm_m (S' := (fun a j => (a = m ∧ (j = 9 ∨ (11 ≤ j ∧ j ≤ 17) ∨ j = 22)) ∨ a = m + 9 ∨ a = m + 10)) f156 (fun a k q => by omega))
          refine e_aload_n dX12_clueLine_70 rfl ?_
          refine e_callV [] dX12_clueLine_71 tm_12_167 rfl (Nat.le_of_ble_eq_true rfl) (rk_s k158) (Nat.le_of_ble_eq_true rfl) (Nat.le_refl _) (Nat.le_refl _) rfl (zp_X12_token k158 H159 (tkE T L p) H160.2.1 (by omega) (fun  h163 f164 p165 => ?_))
          have k166 := rk_q (frm_s f164) k158
          have H167 := rfT_c f164 (fun a k q => by omega) H159
          have H168 := rfC_c f164 (fun a k q => by omega) H161
          have H169 := rfF_c f164 (fun a k q => by omega) p157
          have FR170 := frm_t FR162 (frm_m (S' := (fun a j => (a = m ∧ (j = 9 ∨ (11 ≤ j ∧ j ≤ 17) ∨ j = 22)) ∨ a = m + 9 ∨ a = m + 10)) f164 (fun a k q => by omega))
          have tk2 := tk_b (T := T) (L := L) (p := tkE T L p) (by omega) (by omega)
          have PN1 : nqB (ntF (C 0 = 8) 3 f) (ntQ (C 0 = 8) (tkS T L p) f q) (tkS T L (tkE T L p)) := nqB_t pn (by omega) (by omega) (by omega)
          refine e_aload_n dX12_clueLine_74 rfl ?_
          refine e_get (.ref (m + 10)) dX12_clueLine_75 tf_12_38 (rk_s k166) (congrArg va_rf (rk_r10 k166)) ?_
          refine z_iconst (2) dX12_clueLine_78 rfl ?_
          refine z_iconst (1) dX12_clueLine_79 rfl ?_
          refine z_ist dX12_clueLine_80 (rk_a10 k166) (by decide) (by omega) (by omega) (fun h171 e172 => ?_)
          have f173 := frm_1 e172
          have k174 := rk_q (frm_s f173) k166
          have H175 := rfT_c f173 (fun a k q => by omega) H167
          have H176 := rfC_c f173 (fun a k q => by omega) H168
          have H177 := rfF_c f173 (fun a k q => by omega) H169
          have H178 := rfP_c f173 (fun a k q => by omega) p165
          have FR179 := frm_t FR170 (frm_m (S' := (fun a j => (a = m ∧ (j = 9 ∨ (11 ≤ j ∧ j ≤ 17) ∨ j = 22)) ∨ a = m + 9 ∨ a = m + 10)) f173 (fun a k q => by omega))
          refine e_aload_n dX12_clueLine_81 rfl ?_
          refine z_get (ksZ (tkK T L (tkE T L p))) dX12_clueLine_82 tf_12_140 (rk_s k174) (Or.inl rfl) H178.2.2.1 ?_
          have y180 := tk_b (T := T) H178.1.1 H178.1.2
          have y181 := H178.1
          have y182 := ks_p (tkK T L (tkE T L p))
          refine z_iconst (2) dX12_clueLine_85 rfl ?_
          refine z_icmp_ne 111 dX12_clueLine_86 rfl ⟨by omega, by omega⟩ ⟨by omega, by omega⟩ (fun c183 => ?_) (fun c183 => ?_)
          · skip
            have zn : tkW T L (tkE T L p) ≠ 28271 := by have w0 := tw_0 (T := T) (L := L) (p := (tkE T L p)); omega
            refine e_aload_n dX12_clueLine_111 rfl ?_
            refine z_iconst (1) dX12_clueLine_112 rfl ?_
            refine z_iconst (0) dX12_clueLine_113 rfl ?_
            refine e_iload dX12_clueLine_114 rfl ?_
            refine z_iconst (1) dX12_clueLine_116 rfl ?_
            refine z_icmp_ne 125 dX12_clueLine_117 rfl ⟨by omega, by omega⟩ ⟨by omega, by omega⟩ (fun c184 => ?_) (fun c184 => ?_)
            · skip
              refine e_iload dX12_clueLine_125 rfl ?_
              refine z_iconst (3) dX12_clueLine_127 rfl ?_
              refine z_icmp_ne 135 dX12_clueLine_128 rfl ⟨by omega, by omega⟩ ⟨by omega, by omega⟩ (fun c185 => ?_) (fun c185 => ?_)
              · skip
                refine z_bipush (40) dX12_clueLine_135 rfl ?_
                have PN137 := PN1
                refine e_callV [.int _, .int _, .int _] dX12_clueLine_137 tm_12_170 rfl (Nat.le_of_ble_eq_true rfl) (rk_s k174) (Nat.le_of_ble_eq_true rfl) (Nat.le_refl _) (Nat.le_refl _) rfl (zp_X12_take k174 H175 H178 H177 1 ⟨by omega, by omega⟩ 0 ⟨by omega, by omega⟩ 40 ⟨by omega, by omega⟩ PN137 (by omega) (fun v186 p187 h188 f189 p190 => ?_))
                have k191 := rk_q (frm_s f189) k174
                have H192 := rfT_c f189 (fun a k q => by omega) H175
                have H193 := rfC_c f189 (fun a k q => by omega) H176
                have FR194 := frm_t FR179 (frm_m (S' := (fun a j => (a = m ∧ (j = 9 ∨ (11 ≤ j ∧ j ≤ 17) ∨ j = 22)) ∨ a = m + 9 ∨ a = m + 10)) f189 (fun a k q => by omega))
                skip
                refine z_if_ne 145 dX12_clueLine_140 rfl ⟨by omega, by omega⟩ (fun c195 => ?_) (fun c195 => ?_)
                · skip
                  obtain ⟨K196, K196p, K196f, K196n, K196g⟩ := tkr_1 p190 (by omega)
                  have K196t := tk_b (T := T) K196p.1.1 K196p.1.2
                  have K196v := tv_b K196
                  have K196b : nqB (ntF (¬ (0 ≤ tkV T L (tkE T L p) ∧ tkV T L (tkE T L p) ≤ 40)) 2 (ntF (C 0 = 8) 3 f)) (ntQ (¬ (0 ≤ tkV T L (tkE T L p) ∧ tkV T L (tkE T L p) ≤ 40)) (tkS T L (tkE T L p)) (ntF (C 0 = 8) 3 f) (ntQ (C 0 = 8) (tkS T L p) f q)) (tkS T L (tkE T L (tkE T L p))) := nqB_t PN1 (by omega) (by omega) (by omega)
                  refine e_aload_n dX12_clueLine_145 rfl ?_
                  refine e_get (.ref (m + 10)) dX12_clueLine_146 tf_12_38 (rk_s k191) (congrArg va_rf (rk_r10 k191)) ?_
                  refine z_iconst (0) dX12_clueLine_149 rfl ?_
                  refine e_iload dX12_clueLine_150 rfl ?_
                  refine z_ist dX12_clueLine_152 (rk_a10 k191) (by decide) (by omega) (by omega) (fun h197 e198 => ?_)
                  have f199 := frm_1 e198
                  have k200 := rk_q (frm_s f199) k191
                  have H201 := rfT_c f199 (fun a k q => by omega) H192
                  have H202 := rfC_c f199 (fun a k q => by omega) H193
                  have H203 := rfP_c f199 (fun a k q => by omega) K196p
                  have H204 := rfF_c f199 (fun a k q => by omega) K196f
                  have FR205 := frm_t FR194 (frm_m (S' := (fun a j => (a = m ∧ (j = 9 ∨ (11 ≤ j ∧ j ≤ 17) ∨ j = 22)) ∨ a = m + 9 ∨ a = m + 10)) f199 (fun a k q => by omega))
                  refine e_aload_n dX12_clueLine_153 rfl ?_
                  refine z_bipush (8) dX12_clueLine_154 rfl ?_
                  refine e_callV [.int _] dX12_clueLine_156 tm_12_224 rfl (Nat.le_of_ble_eq_true rfl) (rk_s k200) (Nat.le_of_ble_eq_true rfl) (Nat.le_refl _) (Nat.le_refl _) rfl (zp_X12_keep_8 k200 H202 2 (tkV T L (tkE T L p)) 1 (rI_eq e198 ⟨by omega, by omega⟩) (((frm_r f199 (by omega))).trans K196n) (((frm_r f199 (by omega)).trans (frm_r f189 (by omega))).trans (rI_eq e172 ⟨by omega, by omega⟩)) (by omega) (fun  h206 f207 p208 => ?_))
                  have k209 := rk_q (frm_s f207) k200
                  have H210 := rfT_c f207 (fun a k q => by omega) H201
                  have H211 := rfP_c f207 (fun a k q => by omega) H203
                  have H212 := rfF_c f207 (fun a k q => by omega) H204
                  have FR213 := frm_t FR205 (frm_m (S' := (fun a j => (a = m ∧ (j = 9 ∨ (11 ≤ j ∧ j ≤ 17) ∨ j = 22)) ∨ a = m + 9 ∨ a = m + 10)) f207 (fun a k q => by omega))
                  refine z_iconst (1) dX12_clueLine_159 rfl ?_
                  refine z_bret dX12_clueLine_160 rfl (Or.inr rfl) ⟨rfl, ?_⟩
                  have K := kn_2rough_so (T := T) (C := C) (L := L) (p := p) (by omega) (by omega)
                  exact kq 1 (Or.inr rfl) _ FR213 (ref_of K.1 (sd_o (by omega)) K.2.1 K.2.2.1 (f1_of (K.2.2.2.1.trans (show 8 ≤ C 0 ↔ C 0 = 8 by omega))) (fun x => x) (Or.inl ⟨rfl, ⟨K196, trivial⟩, H211, H212, by rw [K.2.2.2.2]; exact p208⟩))
                · skip
                  obtain ⟨k0, f0⟩ := tkr_0 p190 (by omega)
                  refine z_iconst (0) dX12_clueLine_143 rfl ?_
                  refine z_bret dX12_clueLine_144 rfl (Or.inl rfl) ⟨rfl, ?_⟩
                  have K := kn_2rough_so (T := T) (C := C) (L := L) (p := p) (by omega) (by omega)
                  exact kq 0 (Or.inl rfl) _ FR194 (ref_of K.1 (sd_o (by omega)) K.2.1 K.2.2.1 (f1_of (K.2.2.2.1.trans (show 8 ≤ C 0 ↔ C 0 = 8 by omega))) (fun x => x) (Or.inr ⟨rfl, fun z => k0 z.1, by rw [xp_n k0]; exact f0⟩))
              · exfalso; omega
            · exfalso; omega
          · skip
            refine e_aload_n dX12_clueLine_89 rfl ?_
            refine z_getJ (tkW T L (tkE T L p)) dX12_clueLine_90 tf_12_136 (rk_s k174) rfl (H178.2.2.2.2.2) ?_
            have y214 := tw_b (T := T) (L := L) (p := (tkE T L p))
            refine z_ldc2 (28271) dX12_clueLine_93 tl_12_235 rfl ?_
            refine z_lcmp dX12_clueLine_96 ⟨by omega, by omega⟩ ⟨by omega, by omega⟩ ?_
            refine z_ifl_ne 111 dX12_clueLine_97 rfl (fun c215 => ?_) (fun c215 => ?_)
            · skip
              have zn : tkW T L (tkE T L p) ≠ 28271 := by have w0 := tw_0 (T := T) (L := L) (p := (tkE T L p)); omega
              refine e_aload_n dX12_clueLine_111 rfl ?_
              refine z_iconst (1) dX12_clueLine_112 rfl ?_
              refine z_iconst (0) dX12_clueLine_113 rfl ?_
              refine e_iload dX12_clueLine_114 rfl ?_
              refine z_iconst (1) dX12_clueLine_116 rfl ?_
              refine z_icmp_ne 125 dX12_clueLine_117 rfl ⟨by omega, by omega⟩ ⟨by omega, by omega⟩ (fun c216 => ?_) (fun c216 => ?_)
              · skip
                refine e_iload dX12_clueLine_125 rfl ?_
                refine z_iconst (3) dX12_clueLine_127 rfl ?_
                refine z_icmp_ne 135 dX12_clueLine_128 rfl ⟨by omega, by omega⟩ ⟨by omega, by omega⟩ (fun c217 => ?_) (fun c217 => ?_)
                · skip
                  refine z_bipush (40) dX12_clueLine_135 rfl ?_
                  have PN137 := PN1
                  refine e_callV [.int _, .int _, .int _] dX12_clueLine_137 tm_12_170 rfl (Nat.le_of_ble_eq_true rfl) (rk_s k174) (Nat.le_of_ble_eq_true rfl) (Nat.le_refl _) (Nat.le_refl _) rfl (zp_X12_take k174 H175 H178 H177 1 ⟨by omega, by omega⟩ 0 ⟨by omega, by omega⟩ 40 ⟨by omega, by omega⟩ PN137 (by omega) (fun v218 p219 h220 f221 p222 => ?_))
                  have k223 := rk_q (frm_s f221) k174
                  have H224 := rfT_c f221 (fun a k q => by omega) H175
                  have H225 := rfC_c f221 (fun a k q => by omega) H176
                  have FR226 := frm_t FR179 (frm_m (S' := (fun a j => (a = m ∧ (j = 9 ∨ (11 ≤ j ∧ j ≤ 17) ∨ j = 22)) ∨ a = m + 9 ∨ a = m + 10)) f221 (fun a k q => by omega))
                  skip
                  refine z_if_ne 145 dX12_clueLine_140 rfl ⟨by omega, by omega⟩ (fun c227 => ?_) (fun c227 => ?_)
                  · skip
                    obtain ⟨K228, K228p, K228f, K228n, K228g⟩ := tkr_1 p222 (by omega)
                    have K228t := tk_b (T := T) K228p.1.1 K228p.1.2
                    have K228v := tv_b K228
                    have K228b : nqB (ntF (¬ (0 ≤ tkV T L (tkE T L p) ∧ tkV T L (tkE T L p) ≤ 40)) 2 (ntF (C 0 = 8) 3 f)) (ntQ (¬ (0 ≤ tkV T L (tkE T L p) ∧ tkV T L (tkE T L p) ≤ 40)) (tkS T L (tkE T L p)) (ntF (C 0 = 8) 3 f) (ntQ (C 0 = 8) (tkS T L p) f q)) (tkS T L (tkE T L (tkE T L p))) := nqB_t PN1 (by omega) (by omega) (by omega)
                    refine e_aload_n dX12_clueLine_145 rfl ?_
                    refine e_get (.ref (m + 10)) dX12_clueLine_146 tf_12_38 (rk_s k223) (congrArg va_rf (rk_r10 k223)) ?_
                    refine z_iconst (0) dX12_clueLine_149 rfl ?_
                    refine e_iload dX12_clueLine_150 rfl ?_
                    refine z_ist dX12_clueLine_152 (rk_a10 k223) (by decide) (by omega) (by omega) (fun h229 e230 => ?_)
                    have f231 := frm_1 e230
                    have k232 := rk_q (frm_s f231) k223
                    have H233 := rfT_c f231 (fun a k q => by omega) H224
                    have H234 := rfC_c f231 (fun a k q => by omega) H225
                    have H235 := rfP_c f231 (fun a k q => by omega) K228p
                    have H236 := rfF_c f231 (fun a k q => by omega) K228f
                    have FR237 := frm_t FR226 (frm_m (S' := (fun a j => (a = m ∧ (j = 9 ∨ (11 ≤ j ∧ j ≤ 17) ∨ j = 22)) ∨ a = m + 9 ∨ a = m + 10)) f231 (fun a k q => by omega))
                    refine e_aload_n dX12_clueLine_153 rfl ?_
                    refine z_bipush (8) dX12_clueLine_154 rfl ?_
                    refine e_callV [.int _] dX12_clueLine_156 tm_12_224 rfl (Nat.le_of_ble_eq_true rfl) (rk_s k232) (Nat.le_of_ble_eq_true rfl) (Nat.le_refl _) (Nat.le_refl _) rfl (zp_X12_keep_8 k232 H234 2 (tkV T L (tkE T L p)) 1 (rI_eq e230 ⟨by omega, by omega⟩) (((frm_r f231 (by omega))).trans K228n) (((frm_r f231 (by omega)).trans (frm_r f221 (by omega))).trans (rI_eq e172 ⟨by omega, by omega⟩)) (by omega) (fun  h238 f239 p240 => ?_))
                    have k241 := rk_q (frm_s f239) k232
                    have H242 := rfT_c f239 (fun a k q => by omega) H233
                    have H243 := rfP_c f239 (fun a k q => by omega) H235
                    have H244 := rfF_c f239 (fun a k q => by omega) H236
                    have FR245 := frm_t FR237 (frm_m (S' := (fun a j => (a = m ∧ (j = 9 ∨ (11 ≤ j ∧ j ≤ 17) ∨ j = 22)) ∨ a = m + 9 ∨ a = m + 10)) f239 (fun a k q => by omega))
                    refine z_iconst (1) dX12_clueLine_159 rfl ?_
                    refine z_bret dX12_clueLine_160 rfl (Or.inr rfl) ⟨rfl, ?_⟩
                    have K := kn_2rough_so (T := T) (C := C) (L := L) (p := p) (by omega) (by omega)
                    exact kq 1 (Or.inr rfl) _ FR245 (ref_of K.1 (sd_o (by omega)) K.2.1 K.2.2.1 (f1_of (K.2.2.2.1.trans (show 8 ≤ C 0 ↔ C 0 = 8 by omega))) (fun x => x) (Or.inl ⟨rfl, ⟨K228, trivial⟩, H243, H244, by rw [K.2.2.2.2]; exact p240⟩))
                  · skip
                    obtain ⟨k0, f0⟩ := tkr_0 p222 (by omega)
                    refine z_iconst (0) dX12_clueLine_143 rfl ?_
                    refine z_bret dX12_clueLine_144 rfl (Or.inl rfl) ⟨rfl, ?_⟩
                    have K := kn_2rough_so (T := T) (C := C) (L := L) (p := p) (by omega) (by omega)
                    exact kq 0 (Or.inl rfl) _ FR226 (ref_of K.1 (sd_o (by omega)) K.2.1 K.2.2.1 (f1_of (K.2.2.2.1.trans (show 8 ≤ C 0 ↔ C 0 = 8 by omega))) (fun x => x) (Or.inr ⟨rfl, fun z => k0 z.1, by rw [xp_n k0]; exact f0⟩))
                · exfalso; omega
              · exfalso; omega
            · skip
              skip
              refine e_aload_n dX12_clueLine_100 rfl ?_
              refine e_get (.ref (m + 10)) dX12_clueLine_101 tf_12_38 (rk_s k174) (congrArg va_rf (rk_r10 k174)) ?_
              refine z_iconst (2) dX12_clueLine_104 rfl ?_
              refine z_iconst (0) dX12_clueLine_105 rfl ?_
              refine z_ist dX12_clueLine_106 (rk_a10 k174) (by decide) (by omega) (by omega) (fun h246 e247 => ?_)
              have f248 := frm_1 e247
              have k249 := rk_q (frm_s f248) k174
              have H250 := rfT_c f248 (fun a k q => by omega) H175
              have H251 := rfC_c f248 (fun a k q => by omega) H176
              have H252 := rfF_c f248 (fun a k q => by omega) H177
              have H253 := rfP_c f248 (fun a k q => by omega) H178
              have FR254 := frm_t FR179 (frm_m (S' := (fun a j => (a = m ∧ (j = 9 ∨ (11 ≤ j ∧ j ≤ 17) ∨ j = 22)) ∨ a = m + 9 ∨ a = m + 10)) f248 (fun a k q => by omega))
              refine e_aload_n dX12_clueLine_107 rfl ?_
              refine e_callV [] dX12_clueLine_108 tm_12_167 rfl (Nat.le_of_ble_eq_true rfl) (rk_s k249) (Nat.le_of_ble_eq_true rfl) (Nat.le_refl _) (Nat.le_refl _) rfl (zp_X12_token k249 H250 (tkE T L (tkE T L p)) H253.2.1 (by omega) (fun  h255 f256 p257 => ?_))
              have k258 := rk_q (frm_s f256) k249
              have H259 := rfT_c f256 (fun a k q => by omega) H250
              have H260 := rfC_c f256 (fun a k q => by omega) H251
              have H261 := rfF_c f256 (fun a k q => by omega) H252
              have FR262 := frm_t FR254 (frm_m (S' := (fun a j => (a = m ∧ (j = 9 ∨ (11 ≤ j ∧ j ≤ 17) ∨ j = 22)) ∨ a = m + 9 ∨ a = m + 10)) f256 (fun a k q => by omega))
              have tk3 := tk_b (T := T) (L := L) (p := (tkE T L (tkE T L p))) (by omega) (by omega)
              have PN2 : nqB (ntF (C 0 = 8) 3 f) (ntQ (C 0 = 8) (tkS T L p) f q) (tkS T L (tkE T L (tkE T L p))) := nqB_m PN1 (by omega)
              refine e_aload_n dX12_clueLine_111 rfl ?_
              refine z_iconst (1) dX12_clueLine_112 rfl ?_
              refine z_iconst (0) dX12_clueLine_113 rfl ?_
              refine e_iload dX12_clueLine_114 rfl ?_
              refine z_iconst (1) dX12_clueLine_116 rfl ?_
              refine z_icmp_ne 125 dX12_clueLine_117 rfl ⟨by omega, by omega⟩ ⟨by omega, by omega⟩ (fun c263 => ?_) (fun c263 => ?_)
              · skip
                refine e_iload dX12_clueLine_125 rfl ?_
                refine z_iconst (3) dX12_clueLine_127 rfl ?_
                refine z_icmp_ne 135 dX12_clueLine_128 rfl ⟨by omega, by omega⟩ ⟨by omega, by omega⟩ (fun c264 => ?_) (fun c264 => ?_)
                · skip
                  refine z_bipush (40) dX12_clueLine_135 rfl ?_
                  have PN137 := PN2
                  refine e_callV [.int _, .int _, .int _] dX12_clueLine_137 tm_12_170 rfl (Nat.le_of_ble_eq_true rfl) (rk_s k258) (Nat.le_of_ble_eq_true rfl) (Nat.le_refl _) (Nat.le_refl _) rfl (zp_X12_take k258 H259 p257 H261 1 ⟨by omega, by omega⟩ 0 ⟨by omega, by omega⟩ 40 ⟨by omega, by omega⟩ PN137 (by omega) (fun v265 p266 h267 f268 p269 => ?_))
                  have k270 := rk_q (frm_s f268) k258
                  have H271 := rfT_c f268 (fun a k q => by omega) H259
                  have H272 := rfC_c f268 (fun a k q => by omega) H260
                  have FR273 := frm_t FR262 (frm_m (S' := (fun a j => (a = m ∧ (j = 9 ∨ (11 ≤ j ∧ j ≤ 17) ∨ j = 22)) ∨ a = m + 9 ∨ a = m + 10)) f268 (fun a k q => by omega))
                  skip
                  refine z_if_ne 145 dX12_clueLine_140 rfl ⟨by omega, by omega⟩ (fun c274 => ?_) (fun c274 => ?_)
                  · skip
                    obtain ⟨K275, K275p, K275f, K275n, K275g⟩ := tkr_1 p269 (by omega)
                    have K275t := tk_b (T := T) K275p.1.1 K275p.1.2
                    have K275v := tv_b K275
                    have K275b : nqB (ntF (¬ (0 ≤ tkV T L (tkE T L (tkE T L p)) ∧ tkV T L (tkE T L (tkE T L p)) ≤ 40)) 2 (ntF (C 0 = 8) 3 f)) (ntQ (¬ (0 ≤ tkV T L (tkE T L (tkE T L p)) ∧ tkV T L (tkE T L (tkE T L p)) ≤ 40)) (tkS T L (tkE T L (tkE T L p))) (ntF (C 0 = 8) 3 f) (ntQ (C 0 = 8) (tkS T L p) f q)) (tkS T L (tkE T L (tkE T L (tkE T L p)))) := nqB_t PN2 (by omega) (by omega) (by omega)
                    refine e_aload_n dX12_clueLine_145 rfl ?_
                    refine e_get (.ref (m + 10)) dX12_clueLine_146 tf_12_38 (rk_s k270) (congrArg va_rf (rk_r10 k270)) ?_
                    refine z_iconst (0) dX12_clueLine_149 rfl ?_
                    refine e_iload dX12_clueLine_150 rfl ?_
                    refine z_ist dX12_clueLine_152 (rk_a10 k270) (by decide) (by omega) (by omega) (fun h276 e277 => ?_)
                    have f278 := frm_1 e277
                    have k279 := rk_q (frm_s f278) k270
                    have H280 := rfT_c f278 (fun a k q => by omega) H271
                    have H281 := rfC_c f278 (fun a k q => by omega) H272
                    have H282 := rfP_c f278 (fun a k q => by omega) K275p
                    have H283 := rfF_c f278 (fun a k q => by omega) K275f
                    have FR284 := frm_t FR273 (frm_m (S' := (fun a j => (a = m ∧ (j = 9 ∨ (11 ≤ j ∧ j ≤ 17) ∨ j = 22)) ∨ a = m + 9 ∨ a = m + 10)) f278 (fun a k q => by omega))
                    refine e_aload_n dX12_clueLine_153 rfl ?_
                    refine z_bipush (8) dX12_clueLine_154 rfl ?_
                    refine e_callV [.int _] dX12_clueLine_156 tm_12_224 rfl (Nat.le_of_ble_eq_true rfl) (rk_s k279) (Nat.le_of_ble_eq_true rfl) (Nat.le_refl _) (Nat.le_refl _) rfl (zp_X12_keep_8 k279 H281 2 (tkV T L (tkE T L (tkE T L p))) 0 (rI_eq e277 ⟨by omega, by omega⟩) (((frm_r f278 (by omega))).trans K275n) (((frm_r f278 (by omega)).trans ((frm_r f268 (by omega)).trans (frm_r f256 (by omega)))).trans (rI_eq e247 ⟨by omega, by omega⟩)) (by omega) (fun  h285 f286 p287 => ?_))
                    have k288 := rk_q (frm_s f286) k279
                    have H289 := rfT_c f286 (fun a k q => by omega) H280
                    have H290 := rfP_c f286 (fun a k q => by omega) H282
                    have H291 := rfF_c f286 (fun a k q => by omega) H283
                    have FR292 := frm_t FR284 (frm_m (S' := (fun a j => (a = m ∧ (j = 9 ∨ (11 ≤ j ∧ j ≤ 17) ∨ j = 22)) ∨ a = m + 9 ∨ a = m + 10)) f286 (fun a k q => by omega))
                    refine z_iconst (1) dX12_clueLine_159 rfl ?_
                    refine z_bret dX12_clueLine_160 rfl (Or.inr rfl) ⟨rfl, ?_⟩
                    have K := kn_2rough_no (T := T) (C := C) (L := L) (p := p) (by omega) (by omega)
                    exact kq 1 (Or.inr rfl) _ FR292 (ref_of K.1 (sd_o (by omega)) K.2.1 K.2.2.1 (f1_of (K.2.2.2.1.trans (show 8 ≤ C 0 ↔ C 0 = 8 by omega))) (fun x => x) (Or.inl ⟨rfl, ⟨K275, trivial⟩, H290, H291, by rw [K.2.2.2.2]; exact p287⟩))
                  · skip
                    obtain ⟨k0, f0⟩ := tkr_0 p269 (by omega)
                    refine z_iconst (0) dX12_clueLine_143 rfl ?_
                    refine z_bret dX12_clueLine_144 rfl (Or.inl rfl) ⟨rfl, ?_⟩
                    have K := kn_2rough_no (T := T) (C := C) (L := L) (p := p) (by omega) (by omega)
                    exact kq 0 (Or.inl rfl) _ FR273 (ref_of K.1 (sd_o (by omega)) K.2.1 K.2.2.1 (f1_of (K.2.2.2.1.trans (show 8 ≤ C 0 ↔ C 0 = 8 by omega))) (fun x => x) (Or.inr ⟨rfl, fun z => k0 z.1, by rw [xp_n k0]; exact f0⟩))
                · exfalso; omega
              · exfalso; omega
        · exfalso; omega
    · skip
      refine z_iconst (1) dX12_clueLine_20 rfl ?_
      refine e_goto 49 dX12_clueLine_21 rfl ?_
      refine e_istore (L' := [_, _, _, _, _]) dX12_clueLine_49 (Nat.le_of_ble_eq_true rfl) rfl ?_
      refine e_iload dX12_clueLine_51 rfl ?_
      refine z_iconst (-1) dX12_clueLine_53 rfl ?_
      refine z_icmp_ne 62 dX12_clueLine_54 rfl ⟨by omega, by omega⟩ ⟨by omega, by omega⟩ (fun c293 => ?_) (fun c293 => ?_)
      · skip
        refine e_aload_n dX12_clueLine_62 rfl ?_
        refine z_iconst (0) dX12_clueLine_63 rfl ?_
        refine z_bipush (8) dX12_clueLine_64 rfl ?_
        refine e_iload_n dX12_clueLine_66 rfl ?_
        refine e_callV [.int _, .int _, .int _] dX12_clueLine_67 tm_12_191 rfl (Nat.le_of_ble_eq_true rfl) (rk_s hk) (Nat.le_of_ble_eq_true rfl) (Nat.le_refl _) (Nat.le_refl _) rfl (zp_X12_full hk HF HC 0 ⟨by omega, by omega⟩ 8 ⟨by omega, by omega⟩ (tkS T L p) ⟨by omega, by omega⟩ (by omega) pn (fun  h294 f295 p296 => ?_))
        have k297 := rk_q (frm_s f295) hk
        have H298 := rfT_c f295 (fun a k q => by omega) HT
        have H299 := rfP_c f295 (fun a k q => by omega) HP
        have H300 := rfC_c f295 (fun a k q => by omega) HC
        have FR301 := frm_t FR0 (frm_m (S' := (fun a j => (a = m ∧ (j = 9 ∨ (11 ≤ j ∧ j ≤ 17) ∨ j = 22)) ∨ a = m + 9 ∨ a = m + 10)) f295 (fun a k q => by omega))
        refine e_aload_n dX12_clueLine_70 rfl ?_
        refine e_callV [] dX12_clueLine_71 tm_12_167 rfl (Nat.le_of_ble_eq_true rfl) (rk_s k297) (Nat.le_of_ble_eq_true rfl) (Nat.le_refl _) (Nat.le_refl _) rfl (zp_X12_token k297 H298 (tkE T L p) H299.2.1 (by omega) (fun  h302 f303 p304 => ?_))
        have k305 := rk_q (frm_s f303) k297
        have H306 := rfT_c f303 (fun a k q => by omega) H298
        have H307 := rfC_c f303 (fun a k q => by omega) H300
        have H308 := rfF_c f303 (fun a k q => by omega) p296
        have FR309 := frm_t FR301 (frm_m (S' := (fun a j => (a = m ∧ (j = 9 ∨ (11 ≤ j ∧ j ≤ 17) ∨ j = 22)) ∨ a = m + 9 ∨ a = m + 10)) f303 (fun a k q => by omega))
        have tk2 := tk_b (T := T) (L := L) (p := tkE T L p) (by omega) (by omega)
        have PN1 : nqB (ntF (C 0 = 8) 3 f) (ntQ (C 0 = 8) (tkS T L p) f q) (tkS T L (tkE T L p)) := nqB_t pn (by omega) (by omega) (by omega)
        refine e_aload_n dX12_clueLine_74 rfl ?_
        refine e_get (.ref (m + 10)) dX12_clueLine_75 tf_12_38 (rk_s k305) (congrArg va_rf (rk_r10 k305)) ?_
        refine z_iconst (2) dX12_clueLine_78 rfl ?_
        refine z_iconst (1) dX12_clueLine_79 rfl ?_
        refine z_ist dX12_clueLine_80 (rk_a10 k305) (by decide) (by omega) (by omega) (fun h310 e311 => ?_)
        have f312 := frm_1 e311
        have k313 := rk_q (frm_s f312) k305
        have H314 := rfT_c f312 (fun a k q => by omega) H306
        have H315 := rfC_c f312 (fun a k q => by omega) H307
        have H316 := rfF_c f312 (fun a k q => by omega) H308
        have H317 := rfP_c f312 (fun a k q => by omega) p304
        have FR318 := frm_t FR309 (frm_m (S' := (fun a j => (a = m ∧ (j = 9 ∨ (11 ≤ j ∧ j ≤ 17) ∨ j = 22)) ∨ a = m + 9 ∨ a = m + 10)) f312 (fun a k q => by omega))
        refine e_aload_n dX12_clueLine_81 rfl ?_
        refine z_get (ksZ (tkK T L (tkE T L p))) dX12_clueLine_82 tf_12_140 (rk_s k313) (Or.inl rfl) H317.2.2.1 ?_
        have y319 := tk_b (T := T) H317.1.1 H317.1.2
        have y320 := H317.1
        have y321 := ks_p (tkK T L (tkE T L p))
        refine z_iconst (2) dX12_clueLine_85 rfl ?_
        refine z_icmp_ne 111 dX12_clueLine_86 rfl ⟨by omega, by omega⟩ ⟨by omega, by omega⟩ (fun c322 => ?_) (fun c322 => ?_)
        · skip
          have zn : tkW T L (tkE T L p) ≠ 28271 := by have w0 := tw_0 (T := T) (L := L) (p := (tkE T L p)); omega
          refine e_aload_n dX12_clueLine_111 rfl ?_
          refine z_iconst (1) dX12_clueLine_112 rfl ?_
          refine z_iconst (0) dX12_clueLine_113 rfl ?_
          refine e_iload dX12_clueLine_114 rfl ?_
          refine z_iconst (1) dX12_clueLine_116 rfl ?_
          refine z_icmp_ne 125 dX12_clueLine_117 rfl ⟨by omega, by omega⟩ ⟨by omega, by omega⟩ (fun c323 => ?_) (fun c323 => ?_)
          · exfalso; omega
          · skip
            refine z_bipush (20) dX12_clueLine_120 rfl ?_
            refine e_goto 137 dX12_clueLine_122 rfl ?_
            have PN137 := PN1
            refine e_callV [.int _, .int _, .int _] dX12_clueLine_137 tm_12_170 rfl (Nat.le_of_ble_eq_true rfl) (rk_s k313) (Nat.le_of_ble_eq_true rfl) (Nat.le_refl _) (Nat.le_refl _) rfl (zp_X12_take k313 H314 H317 H316 1 ⟨by omega, by omega⟩ 0 ⟨by omega, by omega⟩ 20 ⟨by omega, by omega⟩ PN137 (by omega) (fun v324 p325 h326 f327 p328 => ?_))
            have k329 := rk_q (frm_s f327) k313
            have H330 := rfT_c f327 (fun a k q => by omega) H314
            have H331 := rfC_c f327 (fun a k q => by omega) H315
            have FR332 := frm_t FR318 (frm_m (S' := (fun a j => (a = m ∧ (j = 9 ∨ (11 ≤ j ∧ j ≤ 17) ∨ j = 22)) ∨ a = m + 9 ∨ a = m + 10)) f327 (fun a k q => by omega))
            skip
            refine z_if_ne 145 dX12_clueLine_140 rfl ⟨by omega, by omega⟩ (fun c333 => ?_) (fun c333 => ?_)
            · skip
              obtain ⟨K334, K334p, K334f, K334n, K334g⟩ := tkr_1 p328 (by omega)
              have K334t := tk_b (T := T) K334p.1.1 K334p.1.2
              have K334v := tv_b K334
              have K334b : nqB (ntF (¬ (0 ≤ tkV T L (tkE T L p) ∧ tkV T L (tkE T L p) ≤ 20)) 2 (ntF (C 0 = 8) 3 f)) (ntQ (¬ (0 ≤ tkV T L (tkE T L p) ∧ tkV T L (tkE T L p) ≤ 20)) (tkS T L (tkE T L p)) (ntF (C 0 = 8) 3 f) (ntQ (C 0 = 8) (tkS T L p) f q)) (tkS T L (tkE T L (tkE T L p))) := nqB_t PN1 (by omega) (by omega) (by omega)
              refine e_aload_n dX12_clueLine_145 rfl ?_
              refine e_get (.ref (m + 10)) dX12_clueLine_146 tf_12_38 (rk_s k329) (congrArg va_rf (rk_r10 k329)) ?_
              refine z_iconst (0) dX12_clueLine_149 rfl ?_
              refine e_iload dX12_clueLine_150 rfl ?_
              refine z_ist dX12_clueLine_152 (rk_a10 k329) (by decide) (by omega) (by omega) (fun h335 e336 => ?_)
              have f337 := frm_1 e336
              have k338 := rk_q (frm_s f337) k329
              have H339 := rfT_c f337 (fun a k q => by omega) H330
              have H340 := rfC_c f337 (fun a k q => by omega) H331
              have H341 := rfP_c f337 (fun a k q => by omega) K334p
              have H342 := rfF_c f337 (fun a k q => by omega) K334f
              have FR343 := frm_t FR332 (frm_m (S' := (fun a j => (a = m ∧ (j = 9 ∨ (11 ≤ j ∧ j ≤ 17) ∨ j = 22)) ∨ a = m + 9 ∨ a = m + 10)) f337 (fun a k q => by omega))
              refine e_aload_n dX12_clueLine_153 rfl ?_
              refine z_bipush (8) dX12_clueLine_154 rfl ?_
              refine e_callV [.int _] dX12_clueLine_156 tm_12_224 rfl (Nat.le_of_ble_eq_true rfl) (rk_s k338) (Nat.le_of_ble_eq_true rfl) (Nat.le_refl _) (Nat.le_refl _) rfl (zp_X12_keep_8 k338 H340 1 (tkV T L (tkE T L p)) 1 (rI_eq e336 ⟨by omega, by omega⟩) (((frm_r f337 (by omega))).trans K334n) (((frm_r f337 (by omega)).trans (frm_r f327 (by omega))).trans (rI_eq e311 ⟨by omega, by omega⟩)) (by omega) (fun  h344 f345 p346 => ?_))
              have k347 := rk_q (frm_s f345) k338
              have H348 := rfT_c f345 (fun a k q => by omega) H339
              have H349 := rfP_c f345 (fun a k q => by omega) H341
              have H350 := rfF_c f345 (fun a k q => by omega) H342
              have FR351 := frm_t FR343 (frm_m (S' := (fun a j => (a = m ∧ (j = 9 ∨ (11 ≤ j ∧ j ≤ 17) ∨ j = 22)) ∨ a = m + 9 ∨ a = m + 10)) f345 (fun a k q => by omega))
              refine z_iconst (1) dX12_clueLine_159 rfl ?_
              refine z_bret dX12_clueLine_160 rfl (Or.inr rfl) ⟨rfl, ?_⟩
              have K := kn_2apart_so (T := T) (C := C) (L := L) (p := p) (by omega) (by omega)
              exact kq 1 (Or.inr rfl) _ FR351 (ref_of K.1 (sd_o (by omega)) K.2.1 K.2.2.1 (f1_of (K.2.2.2.1.trans (show 8 ≤ C 0 ↔ C 0 = 8 by omega))) (fun x => x) (Or.inl ⟨rfl, ⟨K334, trivial⟩, H349, H350, by rw [K.2.2.2.2]; exact p346⟩))
            · skip
              obtain ⟨k0, f0⟩ := tkr_0 p328 (by omega)
              refine z_iconst (0) dX12_clueLine_143 rfl ?_
              refine z_bret dX12_clueLine_144 rfl (Or.inl rfl) ⟨rfl, ?_⟩
              have K := kn_2apart_so (T := T) (C := C) (L := L) (p := p) (by omega) (by omega)
              exact kq 0 (Or.inl rfl) _ FR332 (ref_of K.1 (sd_o (by omega)) K.2.1 K.2.2.1 (f1_of (K.2.2.2.1.trans (show 8 ≤ C 0 ↔ C 0 = 8 by omega))) (fun x => x) (Or.inr ⟨rfl, fun z => k0 z.1, by rw [xp_n k0]; exact f0⟩))
        · skip
          refine e_aload_n dX12_clueLine_89 rfl ?_
          refine z_getJ (tkW T L (tkE T L p)) dX12_clueLine_90 tf_12_136 (rk_s k313) rfl (H317.2.2.2.2.2) ?_
          have y352 := tw_b (T := T) (L := L) (p := (tkE T L p))
          refine z_ldc2 (28271) dX12_clueLine_93 tl_12_235 rfl ?_
          refine z_lcmp dX12_clueLine_96 ⟨by omega, by omega⟩ ⟨by omega, by omega⟩ ?_
          refine z_ifl_ne 111 dX12_clueLine_97 rfl (fun c353 => ?_) (fun c353 => ?_)
          · skip
            have zn : tkW T L (tkE T L p) ≠ 28271 := by have w0 := tw_0 (T := T) (L := L) (p := (tkE T L p)); omega
            refine e_aload_n dX12_clueLine_111 rfl ?_
            refine z_iconst (1) dX12_clueLine_112 rfl ?_
            refine z_iconst (0) dX12_clueLine_113 rfl ?_
            refine e_iload dX12_clueLine_114 rfl ?_
            refine z_iconst (1) dX12_clueLine_116 rfl ?_
            refine z_icmp_ne 125 dX12_clueLine_117 rfl ⟨by omega, by omega⟩ ⟨by omega, by omega⟩ (fun c354 => ?_) (fun c354 => ?_)
            · exfalso; omega
            · skip
              refine z_bipush (20) dX12_clueLine_120 rfl ?_
              refine e_goto 137 dX12_clueLine_122 rfl ?_
              have PN137 := PN1
              refine e_callV [.int _, .int _, .int _] dX12_clueLine_137 tm_12_170 rfl (Nat.le_of_ble_eq_true rfl) (rk_s k313) (Nat.le_of_ble_eq_true rfl) (Nat.le_refl _) (Nat.le_refl _) rfl (zp_X12_take k313 H314 H317 H316 1 ⟨by omega, by omega⟩ 0 ⟨by omega, by omega⟩ 20 ⟨by omega, by omega⟩ PN137 (by omega) (fun v355 p356 h357 f358 p359 => ?_))
              have k360 := rk_q (frm_s f358) k313
              have H361 := rfT_c f358 (fun a k q => by omega) H314
              have H362 := rfC_c f358 (fun a k q => by omega) H315
              have FR363 := frm_t FR318 (frm_m (S' := (fun a j => (a = m ∧ (j = 9 ∨ (11 ≤ j ∧ j ≤ 17) ∨ j = 22)) ∨ a = m + 9 ∨ a = m + 10)) f358 (fun a k q => by omega))
              skip
              refine z_if_ne 145 dX12_clueLine_140 rfl ⟨by omega, by omega⟩ (fun c364 => ?_) (fun c364 => ?_)
              · skip
                obtain ⟨K365, K365p, K365f, K365n, K365g⟩ := tkr_1 p359 (by omega)
                have K365t := tk_b (T := T) K365p.1.1 K365p.1.2
                have K365v := tv_b K365
                have K365b : nqB (ntF (¬ (0 ≤ tkV T L (tkE T L p) ∧ tkV T L (tkE T L p) ≤ 20)) 2 (ntF (C 0 = 8) 3 f)) (ntQ (¬ (0 ≤ tkV T L (tkE T L p) ∧ tkV T L (tkE T L p) ≤ 20)) (tkS T L (tkE T L p)) (ntF (C 0 = 8) 3 f) (ntQ (C 0 = 8) (tkS T L p) f q)) (tkS T L (tkE T L (tkE T L p))) := nqB_t PN1 (by omega) (by omega) (by omega)
                refine e_aload_n dX12_clueLine_145 rfl ?_
                refine e_get (.ref (m + 10)) dX12_clueLine_146 tf_12_38 (rk_s k360) (congrArg va_rf (rk_r10 k360)) ?_
                refine z_iconst (0) dX12_clueLine_149 rfl ?_
                refine e_iload dX12_clueLine_150 rfl ?_
                refine z_ist dX12_clueLine_152 (rk_a10 k360) (by decide) (by omega) (by omega) (fun h366 e367 => ?_)
                have f368 := frm_1 e367
                have k369 := rk_q (frm_s f368) k360
                have H370 := rfT_c f368 (fun a k q => by omega) H361
                have H371 := rfC_c f368 (fun a k q => by omega) H362
                have H372 := rfP_c f368 (fun a k q => by omega) K365p
                have H373 := rfF_c f368 (fun a k q => by omega) K365f
                have FR374 := frm_t FR363 (frm_m (S' := (fun a j => (a = m ∧ (j = 9 ∨ (11 ≤ j ∧ j ≤ 17) ∨ j = 22)) ∨ a = m + 9 ∨ a = m + 10)) f368 (fun a k q => by omega))
                refine e_aload_n dX12_clueLine_153 rfl ?_
                refine z_bipush (8) dX12_clueLine_154 rfl ?_
                refine e_callV [.int _] dX12_clueLine_156 tm_12_224 rfl (Nat.le_of_ble_eq_true rfl) (rk_s k369) (Nat.le_of_ble_eq_true rfl) (Nat.le_refl _) (Nat.le_refl _) rfl (zp_X12_keep_8 k369 H371 1 (tkV T L (tkE T L p)) 1 (rI_eq e367 ⟨by omega, by omega⟩) (((frm_r f368 (by omega))).trans K365n) (((frm_r f368 (by omega)).trans (frm_r f358 (by omega))).trans (rI_eq e311 ⟨by omega, by omega⟩)) (by omega) (fun  h375 f376 p377 => ?_))
                have k378 := rk_q (frm_s f376) k369
                have H379 := rfT_c f376 (fun a k q => by omega) H370
                have H380 := rfP_c f376 (fun a k q => by omega) H372
                have H381 := rfF_c f376 (fun a k q => by omega) H373
                have FR382 := frm_t FR374 (frm_m (S' := (fun a j => (a = m ∧ (j = 9 ∨ (11 ≤ j ∧ j ≤ 17) ∨ j = 22)) ∨ a = m + 9 ∨ a = m + 10)) f376 (fun a k q => by omega))
                refine z_iconst (1) dX12_clueLine_159 rfl ?_
                refine z_bret dX12_clueLine_160 rfl (Or.inr rfl) ⟨rfl, ?_⟩
                have K := kn_2apart_so (T := T) (C := C) (L := L) (p := p) (by omega) (by omega)
                exact kq 1 (Or.inr rfl) _ FR382 (ref_of K.1 (sd_o (by omega)) K.2.1 K.2.2.1 (f1_of (K.2.2.2.1.trans (show 8 ≤ C 0 ↔ C 0 = 8 by omega))) (fun x => x) (Or.inl ⟨rfl, ⟨K365, trivial⟩, H380, H381, by rw [K.2.2.2.2]; exact p377⟩))
              · skip
                obtain ⟨k0, f0⟩ := tkr_0 p359 (by omega)
                refine z_iconst (0) dX12_clueLine_143 rfl ?_
                refine z_bret dX12_clueLine_144 rfl (Or.inl rfl) ⟨rfl, ?_⟩
                have K := kn_2apart_so (T := T) (C := C) (L := L) (p := p) (by omega) (by omega)
                exact kq 0 (Or.inl rfl) _ FR363 (ref_of K.1 (sd_o (by omega)) K.2.1 K.2.2.1 (f1_of (K.2.2.2.1.trans (show 8 ≤ C 0 ↔ C 0 = 8 by omega))) (fun x => x) (Or.inr ⟨rfl, fun z => k0 z.1, by rw [xp_n k0]; exact f0⟩))
          · skip
            skip
            refine e_aload_n dX12_clueLine_100 rfl ?_
            refine e_get (.ref (m + 10)) dX12_clueLine_101 tf_12_38 (rk_s k313) (congrArg va_rf (rk_r10 k313)) ?_
            refine z_iconst (2) dX12_clueLine_104 rfl ?_
            refine z_iconst (0) dX12_clueLine_105 rfl ?_
            refine z_ist dX12_clueLine_106 (rk_a10 k313) (by decide) (by omega) (by omega) (fun h383 e384 => ?_)
            have f385 := frm_1 e384
            have k386 := rk_q (frm_s f385) k313
            have H387 := rfT_c f385 (fun a k q => by omega) H314
            have H388 := rfC_c f385 (fun a k q => by omega) H315
            have H389 := rfF_c f385 (fun a k q => by omega) H316
            have H390 := rfP_c f385 (fun a k q => by omega) H317
            have FR391 := frm_t FR318 (frm_m (S' := (fun a j => (a = m ∧ (j = 9 ∨ (11 ≤ j ∧ j ≤ 17) ∨ j = 22)) ∨ a = m + 9 ∨ a = m + 10)) f385 (fun a k q => by omega))
            refine e_aload_n dX12_clueLine_107 rfl ?_
            refine e_callV [] dX12_clueLine_108 tm_12_167 rfl (Nat.le_of_ble_eq_true rfl) (rk_s k386) (Nat.le_of_ble_eq_true rfl) (Nat.le_refl _) (Nat.le_refl _) rfl (zp_X12_token k386 H387 (tkE T L (tkE T L p)) H390.2.1 (by omega) (fun  h392 f393 p394 => ?_))
            have k395 := rk_q (frm_s f393) k386
            have H396 := rfT_c f393 (fun a k q => by omega) H387
            have H397 := rfC_c f393 (fun a k q => by omega) H388
            have H398 := rfF_c f393 (fun a k q => by omega) H389
            have FR399 := frm_t FR391 (frm_m (S' := (fun a j => (a = m ∧ (j = 9 ∨ (11 ≤ j ∧ j ≤ 17) ∨ j = 22)) ∨ a = m + 9 ∨ a = m + 10)) f393 (fun a k q => by omega))
            have tk3 := tk_b (T := T) (L := L) (p := (tkE T L (tkE T L p))) (by omega) (by omega)
            have PN2 : nqB (ntF (C 0 = 8) 3 f) (ntQ (C 0 = 8) (tkS T L p) f q) (tkS T L (tkE T L (tkE T L p))) := nqB_m PN1 (by omega)
            refine e_aload_n dX12_clueLine_111 rfl ?_
            refine z_iconst (1) dX12_clueLine_112 rfl ?_
            refine z_iconst (0) dX12_clueLine_113 rfl ?_
            refine e_iload dX12_clueLine_114 rfl ?_
            refine z_iconst (1) dX12_clueLine_116 rfl ?_
            refine z_icmp_ne 125 dX12_clueLine_117 rfl ⟨by omega, by omega⟩ ⟨by omega, by omega⟩ (fun c400 => ?_) (fun c400 => ?_)
            · exfalso; omega
            · skip
              refine z_bipush (20) dX12_clueLine_120 rfl ?_
              refine e_goto 137 dX12_clueLine_122 rfl ?_
              have PN137 := PN2
              refine e_callV [.int _, .int _, .int _] dX12_clueLine_137 tm_12_170 rfl (Nat.le_of_ble_eq_true rfl) (rk_s k395) (Nat.le_of_ble_eq_true rfl) (Nat.le_refl _) (Nat.le_refl _) rfl (zp_X12_take k395 H396 p394 H398 1 ⟨by omega, by omega⟩ 0 ⟨by omega, by omega⟩ 20 ⟨by omega, by omega⟩ PN137 (by omega) (fun v401 p402 h403 f404 p405 => ?_))
              have k406 := rk_q (frm_s f404) k395
              have H407 := rfT_c f404 (fun a k q => by omega) H396
              have H408 := rfC_c f404 (fun a k q => by omega) H397
              have FR409 := frm_t FR399 (frm_m (S' := (fun a j => (a = m ∧ (j = 9 ∨ (11 ≤ j ∧ j ≤ 17) ∨ j = 22)) ∨ a = m + 9 ∨ a = m + 10)) f404 (fun a k q => by omega))
              skip
              refine z_if_ne 145 dX12_clueLine_140 rfl ⟨by omega, by omega⟩ (fun c410 => ?_) (fun c410 => ?_)
              · skip
                obtain ⟨K411, K411p, K411f, K411n, K411g⟩ := tkr_1 p405 (by omega)
                have K411t := tk_b (T := T) K411p.1.1 K411p.1.2
                have K411v := tv_b K411
                have K411b : nqB (ntF (¬ (0 ≤ tkV T L (tkE T L (tkE T L p)) ∧ tkV T L (tkE T L (tkE T L p)) ≤ 20)) 2 (ntF (C 0 = 8) 3 f)) (ntQ (¬ (0 ≤ tkV T L (tkE T L (tkE T L p)) ∧ tkV T L (tkE T L (tkE T L p)) ≤ 20)) (tkS T L (tkE T L (tkE T L p))) (ntF (C 0 = 8) 3 f) (ntQ (C 0 = 8) (tkS T L p) f q)) (tkS T L (tkE T L (tkE T L (tkE T L p)))) := nqB_t PN2 (by omega) (by omega) (by omega)
                refine e_aload_n dX12_clueLine_145 rfl ?_
                refine e_get (.ref (m + 10)) dX12_clueLine_146 tf_12_38 (rk_s k406) (congrArg va_rf (rk_r10 k406)) ?_
                refine z_iconst (0) dX12_clueLine_149 rfl ?_
                refine e_iload dX12_clueLine_150 rfl ?_
                refine z_ist dX12_clueLine_152 (rk_a10 k406) (by decide) (by omega) (by omega) (fun h412 e413 => ?_)
                have f414 := frm_1 e413
                have k415 := rk_q (frm_s f414) k406
                have H416 := rfT_c f414 (fun a k q => by omega) H407
                have H417 := rfC_c f414 (fun a k q => by omega) H408
                have H418 := rfP_c f414 (fun a k q => by omega) K411p
                have H419 := rfF_c f414 (fun a k q => by omega) K411f
                have FR420 := frm_t FR409 (frm_m (S' := (fun a j => (a = m ∧ (j = 9 ∨ (11 ≤ j ∧ j ≤ 17) ∨ j = 22)) ∨ a = m + 9 ∨ a = m + 10)) f414 (fun a k q => by omega))
                refine e_aload_n dX12_clueLine_153 rfl ?_
                refine z_bipush (8) dX12_clueLine_154 rfl ?_
                refine e_callV [.int _] dX12_clueLine_156 tm_12_224 rfl (Nat.le_of_ble_eq_true rfl) (rk_s k415) (Nat.le_of_ble_eq_true rfl) (Nat.le_refl _) (Nat.le_refl _) rfl (zp_X12_keep_8 k415 H417 1 (tkV T L (tkE T L (tkE T L p))) 0 (rI_eq e413 ⟨by omega, by omega⟩) (((frm_r f414 (by omega))).trans K411n) (((frm_r f414 (by omega)).trans ((frm_r f404 (by omega)).trans (frm_r f393 (by omega)))).trans (rI_eq e384 ⟨by omega, by omega⟩)) (by omega) (fun  h421 f422 p423 => ?_))
                have k424 := rk_q (frm_s f422) k415
                have H425 := rfT_c f422 (fun a k q => by omega) H416
                have H426 := rfP_c f422 (fun a k q => by omega) H418
                have H427 := rfF_c f422 (fun a k q => by omega) H419
                have FR428 := frm_t FR420 (frm_m (S' := (fun a j => (a = m ∧ (j = 9 ∨ (11 ≤ j ∧ j ≤ 17) ∨ j = 22)) ∨ a = m + 9 ∨ a = m + 10)) f422 (fun a k q => by omega))
                refine z_iconst (1) dX12_clueLine_159 rfl ?_
                refine z_bret dX12_clueLine_160 rfl (Or.inr rfl) ⟨rfl, ?_⟩
                have K := kn_2apart_no (T := T) (C := C) (L := L) (p := p) (by omega) (by omega)
                exact kq 1 (Or.inr rfl) _ FR428 (ref_of K.1 (sd_o (by omega)) K.2.1 K.2.2.1 (f1_of (K.2.2.2.1.trans (show 8 ≤ C 0 ↔ C 0 = 8 by omega))) (fun x => x) (Or.inl ⟨rfl, ⟨K411, trivial⟩, H426, H427, by rw [K.2.2.2.2]; exact p423⟩))
              · skip
                obtain ⟨k0, f0⟩ := tkr_0 p405 (by omega)
                refine z_iconst (0) dX12_clueLine_143 rfl ?_
                refine z_bret dX12_clueLine_144 rfl (Or.inl rfl) ⟨rfl, ?_⟩
                have K := kn_2apart_no (T := T) (C := C) (L := L) (p := p) (by omega) (by omega)
                exact kq 0 (Or.inl rfl) _ FR409 (ref_of K.1 (sd_o (by omega)) K.2.1 K.2.2.1 (f1_of (K.2.2.2.1.trans (show 8 ≤ C 0 ↔ C 0 = 8 by omega))) (fun x => x) (Or.inr ⟨rfl, fun z => k0 z.1, by rw [xp_n k0]; exact f0⟩))
      · exfalso; omega
  · skip
    refine z_iconst (0) dX12_clueLine_8 rfl ?_
    refine e_goto 49 dX12_clueLine_9 rfl ?_
    refine e_istore (L' := [_, _, _, _, _]) dX12_clueLine_49 (Nat.le_of_ble_eq_true rfl) rfl ?_
    refine e_iload dX12_clueLine_51 rfl ?_
    refine z_iconst (-1) dX12_clueLine_53 rfl ?_
    refine z_icmp_ne 62 dX12_clueLine_54 rfl ⟨by omega, by omega⟩ ⟨by omega, by omega⟩ (fun c429 => ?_) (fun c429 => ?_)
    · skip
      refine e_aload_n dX12_clueLine_62 rfl ?_
      refine z_iconst (0) dX12_clueLine_63 rfl ?_
      refine z_bipush (8) dX12_clueLine_64 rfl ?_
      refine e_iload_n dX12_clueLine_66 rfl ?_
      refine e_callV [.int _, .int _, .int _] dX12_clueLine_67 tm_12_191 rfl (Nat.le_of_ble_eq_true rfl) (rk_s hk) (Nat.le_of_ble_eq_true rfl) (Nat.le_refl _) (Nat.le_refl _) rfl (zp_X12_full hk HF HC 0 ⟨by omega, by omega⟩ 8 ⟨by omega, by omega⟩ (tkS T L p) ⟨by omega, by omega⟩ (by omega) pn (fun  h430 f431 p432 => ?_))
      have k433 := rk_q (frm_s f431) hk
      have H434 := rfT_c f431 (fun a k q => by omega) HT
      have H435 := rfP_c f431 (fun a k q => by omega) HP
      have H436 := rfC_c f431 (fun a k q => by omega) HC
      have FR437 := frm_t FR0 (frm_m (S' := (fun a j => (a = m ∧ (j = 9 ∨ (11 ≤ j ∧ j ≤ 17) ∨ j = 22)) ∨ a = m + 9 ∨ a = m + 10)) f431 (fun a k q => by omega))
      refine e_aload_n dX12_clueLine_70 rfl ?_
      refine e_callV [] dX12_clueLine_71 tm_12_167 rfl (Nat.le_of_ble_eq_true rfl) (rk_s k433) (Nat.le_of_ble_eq_true rfl) (Nat.le_refl _) (Nat.le_refl _) rfl (zp_X12_token k433 H434 (tkE T L p) H435.2.1 (by omega) (fun  h438 f439 p440 => ?_))
      have k441 := rk_q (frm_s f439) k433
      have H442 := rfT_c f439 (fun a k q => by omega) H434
      have H443 := rfC_c f439 (fun a k q => by omega) H436
      have H444 := rfF_c f439 (fun a k q => by omega) p432
      have FR445 := frm_t FR437 (frm_m (S' := (fun a j => (a = m ∧ (j = 9 ∨ (11 ≤ j ∧ j ≤ 17) ∨ j = 22)) ∨ a = m + 9 ∨ a = m + 10)) f439 (fun a k q => by omega))
      have tk2 := tk_b (T := T) (L := L) (p := tkE T L p) (by omega) (by omega)
      have PN1 : nqB (ntF (C 0 = 8) 3 f) (ntQ (C 0 = 8) (tkS T L p) f q) (tkS T L (tkE T L p)) := nqB_t pn (by omega) (by omega) (by omega)
      refine e_aload_n dX12_clueLine_74 rfl ?_
      refine e_get (.ref (m + 10)) dX12_clueLine_75 tf_12_38 (rk_s k441) (congrArg va_rf (rk_r10 k441)) ?_
      refine z_iconst (2) dX12_clueLine_78 rfl ?_
      refine z_iconst (1) dX12_clueLine_79 rfl ?_
      refine z_ist dX12_clueLine_80 (rk_a10 k441) (by decide) (by omega) (by omega) (fun h446 e447 => ?_)
      have f448 := frm_1 e447
      have k449 := rk_q (frm_s f448) k441
      have H450 := rfT_c f448 (fun a k q => by omega) H442
      have H451 := rfC_c f448 (fun a k q => by omega) H443
      have H452 := rfF_c f448 (fun a k q => by omega) H444
      have H453 := rfP_c f448 (fun a k q => by omega) p440
      have FR454 := frm_t FR445 (frm_m (S' := (fun a j => (a = m ∧ (j = 9 ∨ (11 ≤ j ∧ j ≤ 17) ∨ j = 22)) ∨ a = m + 9 ∨ a = m + 10)) f448 (fun a k q => by omega))
      refine e_aload_n dX12_clueLine_81 rfl ?_
      refine z_get (ksZ (tkK T L (tkE T L p))) dX12_clueLine_82 tf_12_140 (rk_s k449) (Or.inl rfl) H453.2.2.1 ?_
      have y455 := tk_b (T := T) H453.1.1 H453.1.2
      have y456 := H453.1
      have y457 := ks_p (tkK T L (tkE T L p))
      refine z_iconst (2) dX12_clueLine_85 rfl ?_
      refine z_icmp_ne 111 dX12_clueLine_86 rfl ⟨by omega, by omega⟩ ⟨by omega, by omega⟩ (fun c458 => ?_) (fun c458 => ?_)
      · skip
        have zn : tkW T L (tkE T L p) ≠ 28271 := by have w0 := tw_0 (T := T) (L := L) (p := (tkE T L p)); omega
        refine e_aload_n dX12_clueLine_111 rfl ?_
        refine z_iconst (1) dX12_clueLine_112 rfl ?_
        refine z_iconst (0) dX12_clueLine_113 rfl ?_
        refine e_iload dX12_clueLine_114 rfl ?_
        refine z_iconst (1) dX12_clueLine_116 rfl ?_
        refine z_icmp_ne 125 dX12_clueLine_117 rfl ⟨by omega, by omega⟩ ⟨by omega, by omega⟩ (fun c459 => ?_) (fun c459 => ?_)
        · skip
          refine e_iload dX12_clueLine_125 rfl ?_
          refine z_iconst (3) dX12_clueLine_127 rfl ?_
          refine z_icmp_ne 135 dX12_clueLine_128 rfl ⟨by omega, by omega⟩ ⟨by omega, by omega⟩ (fun c460 => ?_) (fun c460 => ?_)
          · skip
            refine z_bipush (40) dX12_clueLine_135 rfl ?_
            have PN137 := PN1
            refine e_callV [.int _, .int _, .int _] dX12_clueLine_137 tm_12_170 rfl (Nat.le_of_ble_eq_true rfl) (rk_s k449) (Nat.le_of_ble_eq_true rfl) (Nat.le_refl _) (Nat.le_refl _) rfl (zp_X12_take k449 H450 H453 H452 1 ⟨by omega, by omega⟩ 0 ⟨by omega, by omega⟩ 40 ⟨by omega, by omega⟩ PN137 (by omega) (fun v461 p462 h463 f464 p465 => ?_))
            have k466 := rk_q (frm_s f464) k449
            have H467 := rfT_c f464 (fun a k q => by omega) H450
            have H468 := rfC_c f464 (fun a k q => by omega) H451
            have FR469 := frm_t FR454 (frm_m (S' := (fun a j => (a = m ∧ (j = 9 ∨ (11 ≤ j ∧ j ≤ 17) ∨ j = 22)) ∨ a = m + 9 ∨ a = m + 10)) f464 (fun a k q => by omega))
            skip
            refine z_if_ne 145 dX12_clueLine_140 rfl ⟨by omega, by omega⟩ (fun c470 => ?_) (fun c470 => ?_)
            · skip
              obtain ⟨K471, K471p, K471f, K471n, K471g⟩ := tkr_1 p465 (by omega)
              have K471t := tk_b (T := T) K471p.1.1 K471p.1.2
              have K471v := tv_b K471
              have K471b : nqB (ntF (¬ (0 ≤ tkV T L (tkE T L p) ∧ tkV T L (tkE T L p) ≤ 40)) 2 (ntF (C 0 = 8) 3 f)) (ntQ (¬ (0 ≤ tkV T L (tkE T L p) ∧ tkV T L (tkE T L p) ≤ 40)) (tkS T L (tkE T L p)) (ntF (C 0 = 8) 3 f) (ntQ (C 0 = 8) (tkS T L p) f q)) (tkS T L (tkE T L (tkE T L p))) := nqB_t PN1 (by omega) (by omega) (by omega)
              refine e_aload_n dX12_clueLine_145 rfl ?_
              refine e_get (.ref (m + 10)) dX12_clueLine_146 tf_12_38 (rk_s k466) (congrArg va_rf (rk_r10 k466)) ?_
              refine z_iconst (0) dX12_clueLine_149 rfl ?_
              refine e_iload dX12_clueLine_150 rfl ?_
              refine z_ist dX12_clueLine_152 (rk_a10 k466) (by decide) (by omega) (by omega) (fun h472 e473 => ?_)
              have f474 := frm_1 e473
              have k475 := rk_q (frm_s f474) k466
              have H476 := rfT_c f474 (fun a k q => by omega) H467
              have H477 := rfC_c f474 (fun a k q => by omega) H468
              have H478 := rfP_c f474 (fun a k q => by omega) K471p
              have H479 := rfF_c f474 (fun a k q => by omega) K471f
              have FR480 := frm_t FR469 (frm_m (S' := (fun a j => (a = m ∧ (j = 9 ∨ (11 ≤ j ∧ j ≤ 17) ∨ j = 22)) ∨ a = m + 9 ∨ a = m + 10)) f474 (fun a k q => by omega))
              refine e_aload_n dX12_clueLine_153 rfl ?_
              refine z_bipush (8) dX12_clueLine_154 rfl ?_
              refine e_callV [.int _] dX12_clueLine_156 tm_12_224 rfl (Nat.le_of_ble_eq_true rfl) (rk_s k475) (Nat.le_of_ble_eq_true rfl) (Nat.le_refl _) (Nat.le_refl _) rfl (zp_X12_keep_8 k475 H477 0 (tkV T L (tkE T L p)) 1 (rI_eq e473 ⟨by omega, by omega⟩) (((frm_r f474 (by omega))).trans K471n) (((frm_r f474 (by omega)).trans (frm_r f464 (by omega))).trans (rI_eq e447 ⟨by omega, by omega⟩)) (by omega) (fun  h481 f482 p483 => ?_))
              have k484 := rk_q (frm_s f482) k475
              have H485 := rfT_c f482 (fun a k q => by omega) H476
              have H486 := rfP_c f482 (fun a k q => by omega) H478
              have H487 := rfF_c f482 (fun a k q => by omega) H479
              have FR488 := frm_t FR480 (frm_m (S' := (fun a j => (a = m ∧ (j = 9 ∨ (11 ≤ j ∧ j ≤ 17) ∨ j = 22)) ∨ a = m + 9 ∨ a = m + 10)) f482 (fun a k q => by omega))
              refine z_iconst (1) dX12_clueLine_159 rfl ?_
              refine z_bret dX12_clueLine_160 rfl (Or.inr rfl) ⟨rfl, ?_⟩
              have K := kn_2long_so (T := T) (C := C) (L := L) (p := p) (by omega) (by omega)
              exact kq 1 (Or.inr rfl) _ FR488 (ref_of K.1 (sd_o (by omega)) K.2.1 K.2.2.1 (f1_of (K.2.2.2.1.trans (show 8 ≤ C 0 ↔ C 0 = 8 by omega))) (fun x => x) (Or.inl ⟨rfl, ⟨K471, trivial⟩, H486, H487, by rw [K.2.2.2.2]; exact p483⟩))
            · skip
              obtain ⟨k0, f0⟩ := tkr_0 p465 (by omega)
              refine z_iconst (0) dX12_clueLine_143 rfl ?_
              refine z_bret dX12_clueLine_144 rfl (Or.inl rfl) ⟨rfl, ?_⟩
              have K := kn_2long_so (T := T) (C := C) (L := L) (p := p) (by omega) (by omega)
              exact kq 0 (Or.inl rfl) _ FR469 (ref_of K.1 (sd_o (by omega)) K.2.1 K.2.2.1 (f1_of (K.2.2.2.1.trans (show 8 ≤ C 0 ↔ C 0 = 8 by omega))) (fun x => x) (Or.inr ⟨rfl, fun z => k0 z.1, by rw [xp_n k0]; exact f0⟩))
          · exfalso; omega
        · exfalso; omega
      · skip
        refine e_aload_n dX12_clueLine_89 rfl ?_
        refine z_getJ (tkW T L (tkE T L p)) dX12_clueLine_90 tf_12_136 (rk_s k449) rfl (H453.2.2.2.2.2) ?_
        have y489 := tw_b (T := T) (L := L) (p := (tkE T L p))
        refine z_ldc2 (28271) dX12_clueLine_93 tl_12_235 rfl ?_
        refine z_lcmp dX12_clueLine_96 ⟨by omega, by omega⟩ ⟨by omega, by omega⟩ ?_
        refine z_ifl_ne 111 dX12_clueLine_97 rfl (fun c490 => ?_) (fun c490 => ?_)
        · skip
          have zn : tkW T L (tkE T L p) ≠ 28271 := by have w0 := tw_0 (T := T) (L := L) (p := (tkE T L p)); omega
          refine e_aload_n dX12_clueLine_111 rfl ?_
          refine z_iconst (1) dX12_clueLine_112 rfl ?_
          refine z_iconst (0) dX12_clueLine_113 rfl ?_
          refine e_iload dX12_clueLine_114 rfl ?_
          refine z_iconst (1) dX12_clueLine_116 rfl ?_
          refine z_icmp_ne 125 dX12_clueLine_117 rfl ⟨by omega, by omega⟩ ⟨by omega, by omega⟩ (fun c491 => ?_) (fun c491 => ?_)
          · skip
            refine e_iload dX12_clueLine_125 rfl ?_
            refine z_iconst (3) dX12_clueLine_127 rfl ?_
            refine z_icmp_ne 135 dX12_clueLine_128 rfl ⟨by omega, by omega⟩ ⟨by omega, by omega⟩ (fun c492 => ?_) (fun c492 => ?_)
            · skip
              refine z_bipush (40) dX12_clueLine_135 rfl ?_
              have PN137 := PN1
              refine e_callV [.int _, .int _, .int _] dX12_clueLine_137 tm_12_170 rfl (Nat.le_of_ble_eq_true rfl) (rk_s k449) (Nat.le_of_ble_eq_true rfl) (Nat.le_refl _) (Nat.le_refl _) rfl (zp_X12_take k449 H450 H453 H452 1 ⟨by omega, by omega⟩ 0 ⟨by omega, by omega⟩ 40 ⟨by omega, by omega⟩ PN137 (by omega) (fun v493 p494 h495 f496 p497 => ?_))
              have k498 := rk_q (frm_s f496) k449
              have H499 := rfT_c f496 (fun a k q => by omega) H450
              have H500 := rfC_c f496 (fun a k q => by omega) H451
              have FR501 := frm_t FR454 (frm_m (S' := (fun a j => (a = m ∧ (j = 9 ∨ (11 ≤ j ∧ j ≤ 17) ∨ j = 22)) ∨ a = m + 9 ∨ a = m + 10)) f496 (fun a k q => by omega))
              skip
              refine z_if_ne 145 dX12_clueLine_140 rfl ⟨by omega, by omega⟩ (fun c502 => ?_) (fun c502 => ?_)
              · skip
                obtain ⟨K503, K503p, K503f, K503n, K503g⟩ := tkr_1 p497 (by omega)
                have K503t := tk_b (T := T) K503p.1.1 K503p.1.2
                have K503v := tv_b K503
                have K503b : nqB (ntF (¬ (0 ≤ tkV T L (tkE T L p) ∧ tkV T L (tkE T L p) ≤ 40)) 2 (ntF (C 0 = 8) 3 f)) (ntQ (¬ (0 ≤ tkV T L (tkE T L p) ∧ tkV T L (tkE T L p) ≤ 40)) (tkS T L (tkE T L p)) (ntF (C 0 = 8) 3 f) (ntQ (C 0 = 8) (tkS T L p) f q)) (tkS T L (tkE T L (tkE T L p))) := nqB_t PN1 (by omega) (by omega) (by omega)
                refine e_aload_n dX12_clueLine_145 rfl ?_
                refine e_get (.ref (m + 10)) dX12_clueLine_146 tf_12_38 (rk_s k498) (congrArg va_rf (rk_r10 k498)) ?_
                refine z_iconst (0) dX12_clueLine_149 rfl ?_
                refine e_iload dX12_clueLine_150 rfl ?_
                refine z_ist dX12_clueLine_152 (rk_a10 k498) (by decide) (by omega) (by omega) (fun h504 e505 => ?_)
                have f506 := frm_1 e505
                have k507 := rk_q (frm_s f506) k498
                have H508 := rfT_c f506 (fun a k q => by omega) H499
                have H509 := rfC_c f506 (fun a k q => by omega) H500
                have H510 := rfP_c f506 (fun a k q => by omega) K503p
                have H511 := rfF_c f506 (fun a k q => by omega) K503f
                have FR512 := frm_t FR501 (frm_m (S' := (fun a j => (a = m ∧ (j = 9 ∨ (11 ≤ j ∧ j ≤ 17) ∨ j = 22)) ∨ a = m + 9 ∨ a = m + 10)) f506 (fun a k q => by omega))
                refine e_aload_n dX12_clueLine_153 rfl ?_
                refine z_bipush (8) dX12_clueLine_154 rfl ?_
                refine e_callV [.int _] dX12_clueLine_156 tm_12_224 rfl (Nat.le_of_ble_eq_true rfl) (rk_s k507) (Nat.le_of_ble_eq_true rfl) (Nat.le_refl _) (Nat.le_refl _) rfl (zp_X12_keep_8 k507 H509 0 (tkV T L (tkE T L p)) 1 (rI_eq e505 ⟨by omega, by omega⟩) (((frm_r f506 (by omega))).trans K503n) (((frm_r f506 (by omega)).trans (frm_r f496 (by omega))).trans (rI_eq e447 ⟨by omega, by omega⟩)) (by omega) (fun  h513 f514 p515 => ?_))
                have k516 := rk_q (frm_s f514) k507
                have H517 := rfT_c f514 (fun a k q => by omega) H508
                have H518 := rfP_c f514 (fun a k q => by omega) H510
                have H519 := rfF_c f514 (fun a k q => by omega) H511
                have FR520 := frm_t FR512 (frm_m (S' := (fun a j => (a = m ∧ (j = 9 ∨ (11 ≤ j ∧ j ≤ 17) ∨ j = 22)) ∨ a = m + 9 ∨ a = m + 10)) f514 (fun a k q => by omega))
                refine z_iconst (1) dX12_clueLine_159 rfl ?_
                refine z_bret dX12_clueLine_160 rfl (Or.inr rfl) ⟨rfl, ?_⟩
                have K := kn_2long_so (T := T) (C := C) (L := L) (p := p) (by omega) (by omega)
                exact kq 1 (Or.inr rfl) _ FR520 (ref_of K.1 (sd_o (by omega)) K.2.1 K.2.2.1 (f1_of (K.2.2.2.1.trans (show 8 ≤ C 0 ↔ C 0 = 8 by omega))) (fun x => x) (Or.inl ⟨rfl, ⟨K503, trivial⟩, H518, H519, by rw [K.2.2.2.2]; exact p515⟩))
              · skip
                obtain ⟨k0, f0⟩ := tkr_0 p497 (by omega)
                refine z_iconst (0) dX12_clueLine_143 rfl ?_
                refine z_bret dX12_clueLine_144 rfl (Or.inl rfl) ⟨rfl, ?_⟩
                have K := kn_2long_so (T := T) (C := C) (L := L) (p := p) (by omega) (by omega)
                exact kq 0 (Or.inl rfl) _ FR501 (ref_of K.1 (sd_o (by omega)) K.2.1 K.2.2.1 (f1_of (K.2.2.2.1.trans (show 8 ≤ C 0 ↔ C 0 = 8 by omega))) (fun x => x) (Or.inr ⟨rfl, fun z => k0 z.1, by rw [xp_n k0]; exact f0⟩))
            · exfalso; omega
          · exfalso; omega
        · skip
          skip
          refine e_aload_n dX12_clueLine_100 rfl ?_
          refine e_get (.ref (m + 10)) dX12_clueLine_101 tf_12_38 (rk_s k449) (congrArg va_rf (rk_r10 k449)) ?_
          refine z_iconst (2) dX12_clueLine_104 rfl ?_
          refine z_iconst (0) dX12_clueLine_105 rfl ?_
          refine z_ist dX12_clueLine_106 (rk_a10 k449) (by decide) (by omega) (by omega) (fun h521 e522 => ?_)
          have f523 := frm_1 e522
          have k524 := rk_q (frm_s f523) k449
          have H525 := rfT_c f523 (fun a k q => by omega) H450
          have H526 := rfC_c f523 (fun a k q => by omega) H451
          have H527 := rfF_c f523 (fun a k q => by omega) H452
          have H528 := rfP_c f523 (fun a k q => by omega) H453
          have FR529 := frm_t FR454 (frm_m (S' := (fun a j => (a = m ∧ (j = 9 ∨ (11 ≤ j ∧ j ≤ 17) ∨ j = 22)) ∨ a = m + 9 ∨ a = m + 10)) f523 (fun a k q => by omega))
          refine e_aload_n dX12_clueLine_107 rfl ?_
          refine e_callV [] dX12_clueLine_108 tm_12_167 rfl (Nat.le_of_ble_eq_true rfl) (rk_s k524) (Nat.le_of_ble_eq_true rfl) (Nat.le_refl _) (Nat.le_refl _) rfl (zp_X12_token k524 H525 (tkE T L (tkE T L p)) H528.2.1 (by omega) (fun  h530 f531 p532 => ?_))
          have k533 := rk_q (frm_s f531) k524
          have H534 := rfT_c f531 (fun a k q => by omega) H525
          have H535 := rfC_c f531 (fun a k q => by omega) H526
          have H536 := rfF_c f531 (fun a k q => by omega) H527
          have FR537 := frm_t FR529 (frm_m (S' := (fun a j => (a = m ∧ (j = 9 ∨ (11 ≤ j ∧ j ≤ 17) ∨ j = 22)) ∨ a = m + 9 ∨ a = m + 10)) f531 (fun a k q => by omega))
          have tk3 := tk_b (T := T) (L := L) (p := (tkE T L (tkE T L p))) (by omega) (by omega)
          have PN2 : nqB (ntF (C 0 = 8) 3 f) (ntQ (C 0 = 8) (tkS T L p) f q) (tkS T L (tkE T L (tkE T L p))) := nqB_m PN1 (by omega)
          refine e_aload_n dX12_clueLine_111 rfl ?_
          refine z_iconst (1) dX12_clueLine_112 rfl ?_
          refine z_iconst (0) dX12_clueLine_113 rfl ?_
          refine e_iload dX12_clueLine_114 rfl ?_
          refine z_iconst (1) dX12_clueLine_116 rfl ?_
          refine z_icmp_ne 125 dX12_clueLine_117 rfl ⟨by omega, by omega⟩ ⟨by omega, by omega⟩ (fun c538 => ?_) (fun c538 => ?_)
          · skip
            refine e_iload dX12_clueLine_125 rfl ?_
            refine z_iconst (3) dX12_clueLine_127 rfl ?_
            refine z_icmp_ne 135 dX12_clueLine_128 rfl ⟨by omega, by omega⟩ ⟨by omega, by omega⟩ (fun c539 => ?_) (fun c539 => ?_)
            · skip
              refine z_bipush (40) dX12_clueLine_135 rfl ?_
              have PN137 := PN2
              refine e_callV [.int _, .int _, .int _] dX12_clueLine_137 tm_12_170 rfl (Nat.le_of_ble_eq_true rfl) (rk_s k533) (Nat.le_of_ble_eq_true rfl) (Nat.le_refl _) (Nat.le_refl _) rfl (zp_X12_take k533 H534 p532 H536 1 ⟨by omega, by omega⟩ 0 ⟨by omega, by omega⟩ 40 ⟨by omega, by omega⟩ PN137 (by omega) (fun v540 p541 h542 f543 p544 => ?_))
              have k545 := rk_q (frm_s f543) k533
              have H546 := rfT_c f543 (fun a k q => by omega) H534
              have H547 := rfC_c f543 (fun a k q => by omega) H535
              have FR548 := frm_t FR537 (frm_m (S' := (fun a j => (a = m ∧ (j = 9 ∨ (11 ≤ j ∧ j ≤ 17) ∨ j = 22)) ∨ a = m + 9 ∨ a = m + 10)) f543 (fun a k q => by omega))
              skip
              refine z_if_ne 145 dX12_clueLine_140 rfl ⟨by omega, by omega⟩ (fun c549 => ?_) (fun c549 => ?_)
              · skip
                obtain ⟨K550, K550p, K550f, K550n, K550g⟩ := tkr_1 p544 (by omega)
                have K550t := tk_b (T := T) K550p.1.1 K550p.1.2
                have K550v := tv_b K550
                have K550b : nqB (ntF (¬ (0 ≤ tkV T L (tkE T L (tkE T L p)) ∧ tkV T L (tkE T L (tkE T L p)) ≤ 40)) 2 (ntF (C 0 = 8) 3 f)) (ntQ (¬ (0 ≤ tkV T L (tkE T L (tkE T L p)) ∧ tkV T L (tkE T L (tkE T L p)) ≤ 40)) (tkS T L (tkE T L (tkE T L p))) (ntF (C 0 = 8) 3 f) (ntQ (C 0 = 8) (tkS T L p) f q)) (tkS T L (tkE T L (tkE T L (tkE T L p)))) := nqB_t PN2 (by omega) (by omega) (by omega)
                refine e_aload_n dX12_clueLine_145 rfl ?_
                refine e_get (.ref (m + 10)) dX12_clueLine_146 tf_12_38 (rk_s k545) (congrArg va_rf (rk_r10 k545)) ?_
                refine z_iconst (0) dX12_clueLine_149 rfl ?_
                refine e_iload dX12_clueLine_150 rfl ?_
                refine z_ist dX12_clueLine_152 (rk_a10 k545) (by decide) (by omega) (by omega) (fun h551 e552 => ?_)
                have f553 := frm_1 e552
                have k554 := rk_q (frm_s f553) k545
                have H555 := rfT_c f553 (fun a k q => by omega) H546
                have H556 := rfC_c f553 (fun a k q => by omega) H547
                have H557 := rfP_c f553 (fun a k q => by omega) K550p
                have H558 := rfF_c f553 (fun a k q => by omega) K550f
                have FR559 := frm_t FR548 (frm_m (S' := (fun a j => (a = m ∧ (j = 9 ∨ (11 ≤ j ∧ j ≤ 17) ∨ j = 22)) ∨ a = m + 9 ∨ a = m + 10)) f553 (fun a k q => by omega))
                refine e_aload_n dX12_clueLine_153 rfl ?_
                refine z_bipush (8) dX12_clueLine_154 rfl ?_
                refine e_callV [.int _] dX12_clueLine_156 tm_12_224 rfl (Nat.le_of_ble_eq_true rfl) (rk_s k554) (Nat.le_of_ble_eq_true rfl) (Nat.le_refl _) (Nat.le_refl _) rfl (zp_X12_keep_8 k554 H556 0 (tkV T L (tkE T L (tkE T L p))) 0 (rI_eq e552 ⟨by omega, by omega⟩) (((frm_r f553 (by omega))).trans K550n) (((frm_r f553 (by omega)).trans ((frm_r f543 (by omega)).trans (frm_r f531 (by omega)))).trans (rI_eq e522 ⟨by omega, by omega⟩)) (by omega) (fun  h560 f561 p562 => ?_))
                have k563 := rk_q (frm_s f561) k554
                have H564 := rfT_c f561 (fun a k q => by omega) H555
                have H565 := rfP_c f561 (fun a k q => by omega) H557
                have H566 := rfF_c f561 (fun a k q => by omega) H558
                have FR567 := frm_t FR559 (frm_m (S' := (fun a j => (a = m ∧ (j = 9 ∨ (11 ≤ j ∧ j ≤ 17) ∨ j = 22)) ∨ a = m + 9 ∨ a = m + 10)) f561 (fun a k q => by omega))
                refine z_iconst (1) dX12_clueLine_159 rfl ?_
                refine z_bret dX12_clueLine_160 rfl (Or.inr rfl) ⟨rfl, ?_⟩
                have K := kn_2long_no (T := T) (C := C) (L := L) (p := p) (by omega) (by omega)
                exact kq 1 (Or.inr rfl) _ FR567 (ref_of K.1 (sd_o (by omega)) K.2.1 K.2.2.1 (f1_of (K.2.2.2.1.trans (show 8 ≤ C 0 ↔ C 0 = 8 by omega))) (fun x => x) (Or.inl ⟨rfl, ⟨K550, trivial⟩, H565, H566, by rw [K.2.2.2.2]; exact p562⟩))
              · skip
                obtain ⟨k0, f0⟩ := tkr_0 p544 (by omega)
                refine z_iconst (0) dX12_clueLine_143 rfl ?_
                refine z_bret dX12_clueLine_144 rfl (Or.inl rfl) ⟨rfl, ?_⟩
                have K := kn_2long_no (T := T) (C := C) (L := L) (p := p) (by omega) (by omega)
                exact kq 0 (Or.inl rfl) _ FR548 (ref_of K.1 (sd_o (by omega)) K.2.1 K.2.2.1 (f1_of (K.2.2.2.1.trans (show 8 ≤ C 0 ↔ C 0 = 8 by omega))) (fun x => x) (Or.inr ⟨rfl, fun z => k0 z.1, by rw [xp_n k0]; exact f0⟩))
            · exfalso; omega
          · exfalso; omega
    · exfalso; omega

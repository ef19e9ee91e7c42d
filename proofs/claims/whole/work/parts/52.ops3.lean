/-! QUESTIONS: fit, forge, deed, clue, count, fault, trued; first ops closed -/
theorem dX11_fault_0 : decode cX11_fault 0 = .ok (.iload_n 1, 1) := by decide +kernel
theorem dX11_fault_1 : decode cX11_fault 1 = .ok (.ifCond .ne 11, 3) := by decide +kernel
theorem dX11_fault_4 : decode cX11_fault 4 = .ok (.aload_n 0, 1) := by decide +kernel
theorem dX11_fault_5 : decode cX11_fault 5 = .ok (.getfield 10, 3) := by decide +kernel
theorem dX11_fault_8 : decode cX11_fault 8 = .ok (.getfield 70, 3) := by decide +kernel
theorem dX11_fault_11 : decode cX11_fault 11 = .ok (.ireturn, 1) := by decide +kernel
theorem dX11_fault_12 : decode cX11_fault 12 = .ok (.iload_n 1, 1) := by decide +kernel
theorem dX11_fault_13 : decode cX11_fault 13 = .ok (.iconst 1, 1) := by decide +kernel
theorem dX11_fault_14 : decode cX11_fault 14 = .ok (.if_icmp .ne 13, 3) := by decide +kernel
theorem dX11_fault_17 : decode cX11_fault 17 = .ok (.aload_n 0, 1) := by decide +kernel
theorem dX11_fault_18 : decode cX11_fault 18 = .ok (.getfield 10, 3) := by decide +kernel
theorem dX11_fault_21 : decode cX11_fault 21 = .ok (.getfield 73, 3) := by decide +kernel
theorem dX11_fault_24 : decode cX11_fault 24 = .ok (.goto 4, 3) := by decide +kernel
theorem dX11_fault_27 : decode cX11_fault 27 = .ok (.iconst (-1), 1) := by decide +kernel
theorem dX11_fault_28 : decode cX11_fault 28 = .ok (.ireturn, 1) := by decide +kernel
theorem dX11_forge_0 : decode cX11_forge 0 = .ok (.aload_n 0, 1) := by decide +kernel
theorem dX11_forge_1 : decode cX11_forge 1 = .ok (.getfield 10, 3) := by decide +kernel
theorem dX11_forge_4 : decode cX11_forge 4 = .ok (.iload_n 1, 1) := by decide +kernel
theorem dX11_forge_5 : decode cX11_forge 5 = .ok (.invokevirtual 94, 3) := by decide +kernel
theorem dX11_forge_8 : decode cX11_forge 8 = .ok (.astore_n 3, 1) := by decide +kernel
theorem dX11_forge_9 : decode cX11_forge 9 = .ok (.aload_n 3, 1) := by decide +kernel
theorem dX11_forge_10 : decode cX11_forge 10 = .ok (.ifnonnull 8, 3) := by decide +kernel
theorem dX11_forge_13 : decode cX11_forge 13 = .ok (.bipush (-2), 2) := by decide +kernel
theorem dX11_forge_15 : decode cX11_forge 15 = .ok (.goto 8, 3) := by decide +kernel
theorem dX11_forge_18 : decode cX11_forge 18 = .ok (.aload_n 3, 1) := by decide +kernel
theorem dX11_forge_19 : decode cX11_forge 19 = .ok (.iload_n 2, 1) := by decide +kernel
theorem dX11_forge_20 : decode cX11_forge 20 = .ok (.invokevirtual 98, 3) := by decide +kernel
theorem dX11_forge_23 : decode cX11_forge 23 = .ok (.ireturn, 1) := by decide +kernel
theorem dX11_fit_0 : decode cX11_fit 0 = .ok (.aload_n 0, 1) := by decide +kernel
theorem dX11_fit_1 : decode cX11_fit 1 = .ok (.getfield 10, 3) := by decide +kernel
theorem dX11_fit_4 : decode cX11_fit 4 = .ok (.iload_n 1, 1) := by decide +kernel
theorem dX11_fit_5 : decode cX11_fit 5 = .ok (.invokevirtual 94, 3) := by decide +kernel
theorem dX11_fit_8 : decode cX11_fit 8 = .ok (.astore 5, 2) := by decide +kernel
theorem dX11_fit_10 : decode cX11_fit 10 = .ok (.aload 5, 2) := by decide +kernel
theorem dX11_fit_12 : decode cX11_fit 12 = .ok (.ifnonnull 5, 3) := by decide +kernel
theorem dX11_fit_15 : decode cX11_fit 15 = .ok (.iconst (-1), 1) := by decide +kernel
theorem dX11_fit_16 : decode cX11_fit 16 = .ok (.ireturn, 1) := by decide +kernel
theorem dX11_fit_17 : decode cX11_fit 17 = .ok (.iload 4, 2) := by decide +kernel
theorem dX11_fit_19 : decode cX11_fit 19 = .ok (.ifCond .eq 14, 3) := by decide +kernel
theorem dX11_fit_22 : decode cX11_fit 22 = .ok (.aload 5, 2) := by decide +kernel
theorem dX11_fit_24 : decode cX11_fit 24 = .ok (.iload_n 2, 1) := by decide +kernel
theorem dX11_fit_25 : decode cX11_fit 25 = .ok (.iload_n 3, 1) := by decide +kernel
theorem dX11_fit_26 : decode cX11_fit 26 = .ok (.iconst 0, 1) := by decide +kernel
theorem dX11_fit_27 : decode cX11_fit 27 = .ok (.invokevirtual 104, 3) := by decide +kernel
theorem dX11_fit_30 : decode cX11_fit 30 = .ok (.goto 10, 3) := by decide +kernel
theorem dX11_fit_33 : decode cX11_fit 33 = .ok (.aload 5, 2) := by decide +kernel
theorem dX11_fit_35 : decode cX11_fit 35 = .ok (.iload_n 2, 1) := by decide +kernel
theorem dX11_fit_36 : decode cX11_fit 36 = .ok (.iload_n 3, 1) := by decide +kernel
theorem dX11_fit_37 : decode cX11_fit 37 = .ok (.invokevirtual 108, 3) := by decide +kernel
theorem dX11_fit_40 : decode cX11_fit 40 = .ok (.ireturn, 1) := by decide +kernel
theorem dX11_deed_0 : decode cX11_deed 0 = .ok (.aload_n 0, 1) := by decide +kernel
theorem dX11_deed_1 : decode cX11_deed 1 = .ok (.getfield 10, 3) := by decide +kernel
theorem dX11_deed_4 : decode cX11_deed 4 = .ok (.iload_n 1, 1) := by decide +kernel
theorem dX11_deed_5 : decode cX11_deed 5 = .ok (.invokevirtual 111, 3) := by decide +kernel
theorem dX11_deed_8 : decode cX11_deed 8 = .ok (.astore 4, 2) := by decide +kernel
theorem dX11_deed_10 : decode cX11_deed 10 = .ok (.aload 4, 2) := by decide +kernel
theorem dX11_deed_12 : decode cX11_deed 12 = .ok (.ifnonnull 8, 3) := by decide +kernel
theorem dX11_deed_15 : decode cX11_deed 15 = .ok (.bipush (-2), 2) := by decide +kernel
theorem dX11_deed_17 : decode cX11_deed 17 = .ok (.goto 10, 3) := by decide +kernel
theorem dX11_deed_20 : decode cX11_deed 20 = .ok (.aload 4, 2) := by decide +kernel
theorem dX11_deed_22 : decode cX11_deed 22 = .ok (.iload_n 2, 1) := by decide +kernel
theorem dX11_deed_23 : decode cX11_deed 23 = .ok (.iload_n 3, 1) := by decide +kernel
theorem dX11_deed_24 : decode cX11_deed 24 = .ok (.invokevirtual 115, 3) := by decide +kernel
theorem dX11_deed_27 : decode cX11_deed 27 = .ok (.ireturn, 1) := by decide +kernel
theorem dX11_clue_0 : decode cX11_clue 0 = .ok (.aload_n 0, 1) := by decide +kernel
theorem dX11_clue_1 : decode cX11_clue 1 = .ok (.getfield 10, 3) := by decide +kernel
theorem dX11_clue_4 : decode cX11_clue 4 = .ok (.iload_n 1, 1) := by decide +kernel
theorem dX11_clue_5 : decode cX11_clue 5 = .ok (.invokevirtual 223, 3) := by decide +kernel
theorem dX11_clue_8 : decode cX11_clue 8 = .ok (.astore 4, 2) := by decide +kernel
theorem dX11_clue_10 : decode cX11_clue 10 = .ok (.aload 4, 2) := by decide +kernel
theorem dX11_clue_12 : decode cX11_clue 12 = .ok (.ifnonnull 8, 3) := by decide +kernel
theorem dX11_clue_15 : decode cX11_clue 15 = .ok (.bipush (-2), 2) := by decide +kernel
theorem dX11_clue_17 : decode cX11_clue 17 = .ok (.goto 10, 3) := by decide +kernel
theorem dX11_clue_20 : decode cX11_clue 20 = .ok (.aload 4, 2) := by decide +kernel
theorem dX11_clue_22 : decode cX11_clue 22 = .ok (.iload_n 2, 1) := by decide +kernel
theorem dX11_clue_23 : decode cX11_clue 23 = .ok (.iload_n 3, 1) := by decide +kernel
theorem dX11_clue_24 : decode cX11_clue 24 = .ok (.invokevirtual 227, 3) := by decide +kernel
theorem dX11_clue_27 : decode cX11_clue 27 = .ok (.ireturn, 1) := by decide +kernel
theorem dX11_trued_0 : decode cX11_trued 0 = .ok (.aload_n 0, 1) := by decide +kernel
theorem dX11_trued_1 : decode cX11_trued 1 = .ok (.getfield 10, 3) := by decide +kernel
theorem dX11_trued_4 : decode cX11_trued 4 = .ok (.iload_n 1, 1) := by decide +kernel
theorem dX11_trued_5 : decode cX11_trued 5 = .ok (.invokevirtual 94, 3) := by decide +kernel
theorem dX11_trued_8 : decode cX11_trued 8 = .ok (.astore 5, 2) := by decide +kernel
theorem dX11_trued_10 : decode cX11_trued 10 = .ok (.aload 5, 2) := by decide +kernel
theorem dX11_trued_12 : decode cX11_trued 12 = .ok (.ifnull 27, 3) := by decide +kernel
theorem dX11_trued_15 : decode cX11_trued 15 = .ok (.aload 5, 2) := by decide +kernel
theorem dX11_trued_17 : decode cX11_trued 17 = .ok (.getfield 135, 3) := by decide +kernel
theorem dX11_trued_20 : decode cX11_trued 20 = .ok (.iload_n 2, 1) := by decide +kernel
theorem dX11_trued_21 : decode cX11_trued 21 = .ok (.invokevirtual 139, 3) := by decide +kernel
theorem dX11_trued_24 : decode cX11_trued 24 = .ok (.ifCond .eq 15, 3) := by decide +kernel
theorem dX11_trued_27 : decode cX11_trued 27 = .ok (.aload 5, 2) := by decide +kernel
theorem dX11_trued_29 : decode cX11_trued 29 = .ok (.getfield 281, 3) := by decide +kernel
theorem dX11_trued_32 : decode cX11_trued 32 = .ok (.iload_n 3, 1) := by decide +kernel
theorem dX11_trued_33 : decode cX11_trued 33 = .ok (.invokevirtual 139, 3) := by decide +kernel
theorem dX11_trued_36 : decode cX11_trued 36 = .ok (.ifCond .ne 5, 3) := by decide +kernel
theorem dX11_trued_39 : decode cX11_trued 39 = .ok (.iconst (-1), 1) := by decide +kernel
theorem dX11_trued_40 : decode cX11_trued 40 = .ok (.ireturn, 1) := by decide +kernel
theorem dX11_trued_41 : decode cX11_trued 41 = .ok (.iload 4, 2) := by decide +kernel
theorem dX11_trued_43 : decode cX11_trued 43 = .ok (.ifCond .eq 13, 3) := by decide +kernel
theorem dX11_trued_46 : decode cX11_trued 46 = .ok (.aload 5, 2) := by decide +kernel
theorem dX11_trued_48 : decode cX11_trued 48 = .ok (.iload_n 2, 1) := by decide +kernel
theorem dX11_trued_49 : decode cX11_trued 49 = .ok (.iload_n 3, 1) := by decide +kernel
theorem dX11_trued_50 : decode cX11_trued 50 = .ok (.invokevirtual 284, 3) := by decide +kernel
theorem dX11_trued_53 : decode cX11_trued 53 = .ok (.goto 27, 3) := by decide +kernel
theorem dX11_trued_56 : decode cX11_trued 56 = .ok (.aload 5, 2) := by decide +kernel
theorem dX11_trued_58 : decode cX11_trued 58 = .ok (.getfield 135, 3) := by decide +kernel
theorem dX11_trued_61 : decode cX11_trued 61 = .ok (.getfield 287, 3) := by decide +kernel
theorem dX11_trued_64 : decode cX11_trued 64 = .ok (.iload_n 2, 1) := by decide +kernel
theorem dX11_trued_65 : decode cX11_trued 65 = .ok (.iaload, 1) := by decide +kernel
theorem dX11_trued_66 : decode cX11_trued 66 = .ok (.aload 5, 2) := by decide +kernel
theorem dX11_trued_68 : decode cX11_trued 68 = .ok (.getfield 281, 3) := by decide +kernel
theorem dX11_trued_71 : decode cX11_trued 71 = .ok (.getfield 287, 3) := by decide +kernel
theorem dX11_trued_74 : decode cX11_trued 74 = .ok (.iload_n 3, 1) := by decide +kernel
theorem dX11_trued_75 : decode cX11_trued 75 = .ok (.iaload, 1) := by decide +kernel
theorem dX11_trued_76 : decode cX11_trued 76 = .ok (.isub, 1) := by decide +kernel
theorem dX11_trued_77 : decode cX11_trued 77 = .ok (.invokestatic 289, 3) := by decide +kernel
theorem dX11_trued_80 : decode cX11_trued 80 = .ok (.ireturn, 1) := by decide +kernel
theorem dX11_count_0 : decode cX11_count 0 = .ok (.iload_n 1, 1) := by decide +kernel
theorem dX11_count_1 : decode cX11_count 1 = .ok (.ifCond .lt 8, 3) := by decide +kernel
theorem dX11_count_4 : decode cX11_count 4 = .ok (.iload_n 1, 1) := by decide +kernel
theorem dX11_count_5 : decode cX11_count 5 = .ok (.iconst 3, 1) := by decide +kernel
theorem dX11_count_6 : decode cX11_count 6 = .ok (.if_icmp .lt 8, 3) := by decide +kernel
theorem dX11_count_9 : decode cX11_count 9 = .ok (.bipush (-2), 2) := by decide +kernel
theorem dX11_count_11 : decode cX11_count 11 = .ok (.goto 12, 3) := by decide +kernel
theorem dX11_count_14 : decode cX11_count 14 = .ok (.aload_n 0, 1) := by decide +kernel
theorem dX11_count_15 : decode cX11_count 15 = .ok (.getfield 10, 3) := by decide +kernel
theorem dX11_count_18 : decode cX11_count 18 = .ok (.getfield 319, 3) := by decide +kernel
theorem dX11_count_21 : decode cX11_count 21 = .ok (.iload_n 1, 1) := by decide +kernel
theorem dX11_count_22 : decode cX11_count 22 = .ok (.iaload, 1) := by decide +kernel
theorem dX11_count_23 : decode cX11_count 23 = .ok (.ireturn, 1) := by decide +kernel
theorem dX12_forge_0 : decode cX12_forge 0 = .ok (.aload_n 0, 1) := by decide +kernel
theorem dX12_forge_1 : decode cX12_forge 1 = .ok (.iconst 0, 1) := by decide +kernel
theorem dX12_forge_2 : decode cX12_forge 2 = .ok (.putfield 103, 3) := by decide +kernel
theorem dX12_forge_5 : decode cX12_forge 5 = .ok (.aload_n 0, 1) := by decide +kernel
theorem dX12_forge_6 : decode cX12_forge 6 = .ok (.iload_n 1, 1) := by decide +kernel
theorem dX12_forge_7 : decode cX12_forge 7 = .ok (.invokevirtual 292, 3) := by decide +kernel
theorem dX12_forge_10 : decode cX12_forge 10 = .ok (.ifCond .ne 6, 3) := by decide +kernel
theorem dX12_forge_13 : decode cX12_forge 13 = .ok (.bipush (-2), 2) := by decide +kernel
theorem dX12_forge_15 : decode cX12_forge 15 = .ok (.ireturn, 1) := by decide +kernel
theorem dX12_forge_16 : decode cX12_forge 16 = .ok (.iload_n 2, 1) := by decide +kernel
theorem dX12_forge_17 : decode cX12_forge 17 = .ok (.bipush 10, 2) := by decide +kernel
theorem dX12_forge_19 : decode cX12_forge 19 = .ok (.idiv, 1) := by decide +kernel
theorem dX12_forge_20 : decode cX12_forge 20 = .ok (.istore_n 3, 1) := by decide +kernel
theorem dX12_forge_21 : decode cX12_forge 21 = .ok (.iload_n 2, 1) := by decide +kernel
theorem dX12_forge_22 : decode cX12_forge 22 = .ok (.bipush 10, 2) := by decide +kernel
theorem dX12_forge_24 : decode cX12_forge 24 = .ok (.sipush 139, 3) := by decide +kernel
theorem dX12_forge_27 : decode cX12_forge 27 = .ok (.invokestatic 115, 3) := by decide +kernel
theorem dX12_forge_30 : decode cX12_forge 30 = .ok (.ifCond .ne 23, 3) := by decide +kernel
theorem dX12_forge_33 : decode cX12_forge 33 = .ok (.iload_n 2, 1) := by decide +kernel
theorem dX12_forge_34 : decode cX12_forge 34 = .ok (.iconst 0, 1) := by decide +kernel
theorem dX12_forge_35 : decode cX12_forge 35 = .ok (.iconst 2, 1) := by decide +kernel
theorem dX12_forge_36 : decode cX12_forge 36 = .ok (.invokestatic 115, 3) := by decide +kernel
theorem dX12_forge_39 : decode cX12_forge 39 = .ok (.ifCond .eq 11, 3) := by decide +kernel
theorem dX12_forge_42 : decode cX12_forge 42 = .ok (.aload_n 0, 1) := by decide +kernel
theorem dX12_forge_43 : decode cX12_forge 43 = .ok (.iload_n 2, 1) := by decide +kernel
theorem dX12_forge_44 : decode cX12_forge 44 = .ok (.invokevirtual 267, 3) := by decide +kernel
theorem dX12_forge_47 : decode cX12_forge 47 = .ok (.goto 5, 3) := by decide +kernel
theorem dX12_forge_50 : decode cX12_forge 50 = .ok (.bipush (-2), 2) := by decide +kernel
theorem dX12_forge_52 : decode cX12_forge 52 = .ok (.ireturn, 1) := by decide +kernel
theorem dX12_forge_53 : decode cX12_forge 53 = .ok (.iload_n 2, 1) := by decide +kernel
theorem dX12_forge_54 : decode cX12_forge 54 = .ok (.bipush 10, 2) := by decide +kernel
theorem dX12_forge_56 : decode cX12_forge 56 = .ok (.irem, 1) := by decide +kernel
theorem dX12_forge_57 : decode cX12_forge 57 = .ok (.iload_n 3, 1) := by decide +kernel
theorem dX12_forge_58 : decode cX12_forge 58 = .ok (.bipush 6, 2) := by decide +kernel
theorem dX12_forge_60 : decode cX12_forge 60 = .ok (.if_icmp .ge 10, 3) := by decide +kernel
theorem dX12_forge_63 : decode cX12_forge 63 = .ok (.aload_n 0, 1) := by decide +kernel
theorem dX12_forge_64 : decode cX12_forge 64 = .ok (.getfield 271, 3) := by decide +kernel
theorem dX12_forge_67 : decode cX12_forge 67 = .ok (.goto 20, 3) := by decide +kernel
theorem dX12_forge_70 : decode cX12_forge 70 = .ok (.iload_n 3, 1) := by decide +kernel
theorem dX12_forge_71 : decode cX12_forge 71 = .ok (.bipush 11, 2) := by decide +kernel
theorem dX12_forge_73 : decode cX12_forge 73 = .ok (.if_icmp .ge 10, 3) := by decide +kernel
theorem dX12_forge_76 : decode cX12_forge 76 = .ok (.aload_n 0, 1) := by decide +kernel
theorem dX12_forge_77 : decode cX12_forge 77 = .ok (.getfield 274, 3) := by decide +kernel
theorem dX12_forge_80 : decode cX12_forge 80 = .ok (.goto 7, 3) := by decide +kernel
theorem dX12_forge_83 : decode cX12_forge 83 = .ok (.aload_n 0, 1) := by decide +kernel
theorem dX12_forge_84 : decode cX12_forge 84 = .ok (.getfield 277, 3) := by decide +kernel
theorem dX12_forge_87 : decode cX12_forge 87 = .ok (.if_icmp .ge 23, 3) := by decide +kernel
theorem dX12_forge_90 : decode cX12_forge 90 = .ok (.aload_n 0, 1) := by decide +kernel
theorem dX12_forge_91 : decode cX12_forge 91 = .ok (.iconst 3, 1) := by decide +kernel
theorem dX12_forge_92 : decode cX12_forge 92 = .ok (.bipush 6, 2) := by decide +kernel
theorem dX12_forge_94 : decode cX12_forge 94 = .ok (.iload_n 3, 1) := by decide +kernel
theorem dX12_forge_95 : decode cX12_forge 95 = .ok (.iconst 1, 1) := by decide +kernel
theorem dX12_forge_96 : decode cX12_forge 96 = .ok (.isub, 1) := by decide +kernel
theorem dX12_forge_97 : decode cX12_forge 97 = .ok (.imul, 1) := by decide +kernel
theorem dX12_forge_98 : decode cX12_forge 98 = .ok (.iadd, 1) := by decide +kernel
theorem dX12_forge_99 : decode cX12_forge 99 = .ok (.iload_n 2, 1) := by decide +kernel
theorem dX12_forge_100 : decode cX12_forge 100 = .ok (.bipush 10, 2) := by decide +kernel
theorem dX12_forge_102 : decode cX12_forge 102 = .ok (.irem, 1) := by decide +kernel
theorem dX12_forge_103 : decode cX12_forge 103 = .ok (.iadd, 1) := by decide +kernel
theorem dX12_forge_104 : decode cX12_forge 104 = .ok (.invokevirtual 267, 3) := by decide +kernel
theorem dX12_forge_107 : decode cX12_forge 107 = .ok (.goto 5, 3) := by decide +kernel
theorem dX12_forge_110 : decode cX12_forge 110 = .ok (.bipush (-2), 2) := by decide +kernel
theorem dX12_forge_112 : decode cX12_forge 112 = .ok (.ireturn, 1) := by decide +kernel
theorem dX12_fit_0 : decode cX12_fit 0 = .ok (.aload_n 0, 1) := by decide +kernel
theorem dX12_fit_1 : decode cX12_fit 1 = .ok (.iconst 0, 1) := by decide +kernel
theorem dX12_fit_2 : decode cX12_fit 2 = .ok (.putfield 103, 3) := by decide +kernel
theorem dX12_fit_5 : decode cX12_fit 5 = .ok (.aload_n 0, 1) := by decide +kernel
theorem dX12_fit_6 : decode cX12_fit 6 = .ok (.iload_n 1, 1) := by decide +kernel
theorem dX12_fit_7 : decode cX12_fit 7 = .ok (.invokevirtual 292, 3) := by decide +kernel
theorem dX12_fit_10 : decode cX12_fit 10 = .ok (.ifCond .eq 19, 3) := by decide +kernel
theorem dX12_fit_13 : decode cX12_fit 13 = .ok (.aload_n 0, 1) := by decide +kernel
theorem dX12_fit_14 : decode cX12_fit 14 = .ok (.iload_n 2, 1) := by decide +kernel
theorem dX12_fit_15 : decode cX12_fit 15 = .ok (.invokevirtual 295, 3) := by decide +kernel
theorem dX12_fit_18 : decode cX12_fit 18 = .ok (.ifCond .eq 11, 3) := by decide +kernel
theorem dX12_fit_21 : decode cX12_fit 21 = .ok (.aload_n 0, 1) := by decide +kernel
theorem dX12_fit_22 : decode cX12_fit 22 = .ok (.iload_n 3, 1) := by decide +kernel
theorem dX12_fit_23 : decode cX12_fit 23 = .ok (.invokevirtual 298, 3) := by decide +kernel
theorem dX12_fit_26 : decode cX12_fit 26 = .ok (.ifCond .ne 5, 3) := by decide +kernel
theorem dX12_fit_29 : decode cX12_fit 29 = .ok (.iconst (-1), 1) := by decide +kernel
theorem dX12_fit_30 : decode cX12_fit 30 = .ok (.ireturn, 1) := by decide +kernel
theorem dX12_fit_31 : decode cX12_fit 31 = .ok (.iload 4, 2) := by decide +kernel
theorem dX12_fit_33 : decode cX12_fit 33 = .ok (.ifCond .eq 12, 3) := by decide +kernel
theorem dX12_fit_36 : decode cX12_fit 36 = .ok (.aload_n 0, 1) := by decide +kernel
theorem dX12_fit_37 : decode cX12_fit 37 = .ok (.iload_n 2, 1) := by decide +kernel
theorem dX12_fit_38 : decode cX12_fit 38 = .ok (.iload_n 3, 1) := by decide +kernel
theorem dX12_fit_39 : decode cX12_fit 39 = .ok (.invokevirtual 289, 3) := by decide +kernel
theorem dX12_fit_42 : decode cX12_fit 42 = .ok (.goto 9, 3) := by decide +kernel
theorem dX12_fit_45 : decode cX12_fit 45 = .ok (.aload_n 0, 1) := by decide +kernel
theorem dX12_fit_46 : decode cX12_fit 46 = .ok (.iload_n 2, 1) := by decide +kernel
theorem dX12_fit_47 : decode cX12_fit 47 = .ok (.iload_n 3, 1) := by decide +kernel
theorem dX12_fit_48 : decode cX12_fit 48 = .ok (.invokevirtual 283, 3) := by decide +kernel
theorem dX12_fit_51 : decode cX12_fit 51 = .ok (.ireturn, 1) := by decide +kernel
theorem dX12_deed_0 : decode cX12_deed 0 = .ok (.aload_n 0, 1) := by decide +kernel
theorem dX12_deed_1 : decode cX12_deed 1 = .ok (.iconst 0, 1) := by decide +kernel
theorem dX12_deed_2 : decode cX12_deed 2 = .ok (.putfield 103, 3) := by decide +kernel
theorem dX12_deed_5 : decode cX12_deed 5 = .ok (.aload_n 0, 1) := by decide +kernel
theorem dX12_deed_6 : decode cX12_deed 6 = .ok (.iload_n 1, 1) := by decide +kernel
theorem dX12_deed_7 : decode cX12_deed 7 = .ok (.invokevirtual 304, 3) := by decide +kernel
theorem dX12_deed_10 : decode cX12_deed 10 = .ok (.ifCond .ne 6, 3) := by decide +kernel
theorem dX12_deed_13 : decode cX12_deed 13 = .ok (.bipush (-2), 2) := by decide +kernel
theorem dX12_deed_15 : decode cX12_deed 15 = .ok (.ireturn, 1) := by decide +kernel
theorem dX12_deed_16 : decode cX12_deed 16 = .ok (.iload_n 2, 1) := by decide +kernel
theorem dX12_deed_17 : decode cX12_deed 17 = .ok (.iconst (-1), 1) := by decide +kernel
theorem dX12_deed_18 : decode cX12_deed 18 = .ok (.if_icmp .ne 17, 3) := by decide +kernel
theorem dX12_deed_21 : decode cX12_deed 21 = .ok (.iload_n 3, 1) := by decide +kernel
theorem dX12_deed_22 : decode cX12_deed 22 = .ok (.ifCond .ne 10, 3) := by decide +kernel
theorem dX12_deed_25 : decode cX12_deed 25 = .ok (.aload_n 0, 1) := by decide +kernel
theorem dX12_deed_26 : decode cX12_deed 26 = .ok (.invokevirtual 307, 3) := by decide +kernel
theorem dX12_deed_29 : decode cX12_deed 29 = .ok (.goto 5, 3) := by decide +kernel
theorem dX12_deed_32 : decode cX12_deed 32 = .ok (.bipush (-2), 2) := by decide +kernel
theorem dX12_deed_34 : decode cX12_deed 34 = .ok (.ireturn, 1) := by decide +kernel
theorem dX12_deed_35 : decode cX12_deed 35 = .ok (.iload_n 2, 1) := by decide +kernel
theorem dX12_deed_36 : decode cX12_deed 36 = .ok (.iconst 0, 1) := by decide +kernel
theorem dX12_deed_37 : decode cX12_deed 37 = .ok (.aload_n 0, 1) := by decide +kernel
theorem dX12_deed_38 : decode cX12_deed 38 = .ok (.invokevirtual 307, 3) := by decide +kernel
theorem dX12_deed_41 : decode cX12_deed 41 = .ok (.iconst 1, 1) := by decide +kernel
theorem dX12_deed_42 : decode cX12_deed 42 = .ok (.isub, 1) := by decide +kernel
theorem dX12_deed_43 : decode cX12_deed 43 = .ok (.invokestatic 115, 3) := by decide +kernel
theorem dX12_deed_46 : decode cX12_deed 46 = .ok (.ifCond .eq 21, 3) := by decide +kernel
theorem dX12_deed_49 : decode cX12_deed 49 = .ok (.iload_n 3, 1) := by decide +kernel
theorem dX12_deed_50 : decode cX12_deed 50 = .ok (.iconst 0, 1) := by decide +kernel
theorem dX12_deed_51 : decode cX12_deed 51 = .ok (.iconst 2, 1) := by decide +kernel
theorem dX12_deed_52 : decode cX12_deed 52 = .ok (.invokestatic 115, 3) := by decide +kernel
theorem dX12_deed_55 : decode cX12_deed 55 = .ok (.ifCond .eq 12, 3) := by decide +kernel
theorem dX12_deed_58 : decode cX12_deed 58 = .ok (.aload_n 0, 1) := by decide +kernel
theorem dX12_deed_59 : decode cX12_deed 59 = .ok (.iload_n 2, 1) := by decide +kernel
theorem dX12_deed_60 : decode cX12_deed 60 = .ok (.iload_n 3, 1) := by decide +kernel
theorem dX12_deed_61 : decode cX12_deed 61 = .ok (.invokevirtual 310, 3) := by decide +kernel
theorem dX12_deed_64 : decode cX12_deed 64 = .ok (.goto 5, 3) := by decide +kernel
theorem dX12_deed_67 : decode cX12_deed 67 = .ok (.bipush (-2), 2) := by decide +kernel
theorem dX12_deed_69 : decode cX12_deed 69 = .ok (.ireturn, 1) := by decide +kernel
theorem dX12_clue_0 : decode cX12_clue 0 = .ok (.aload_n 0, 1) := by decide +kernel
theorem dX12_clue_1 : decode cX12_clue 1 = .ok (.iconst 0, 1) := by decide +kernel
theorem dX12_clue_2 : decode cX12_clue 2 = .ok (.putfield 103, 3) := by decide +kernel
theorem dX12_clue_5 : decode cX12_clue 5 = .ok (.aload_n 0, 1) := by decide +kernel
theorem dX12_clue_6 : decode cX12_clue 6 = .ok (.iload_n 1, 1) := by decide +kernel
theorem dX12_clue_7 : decode cX12_clue 7 = .ok (.invokevirtual 505, 3) := by decide +kernel
theorem dX12_clue_10 : decode cX12_clue 10 = .ok (.ifCond .ne 6, 3) := by decide +kernel
theorem dX12_clue_13 : decode cX12_clue 13 = .ok (.bipush (-2), 2) := by decide +kernel
theorem dX12_clue_15 : decode cX12_clue 15 = .ok (.ireturn, 1) := by decide +kernel
theorem dX12_clue_16 : decode cX12_clue 16 = .ok (.iload_n 2, 1) := by decide +kernel
theorem dX12_clue_17 : decode cX12_clue 17 = .ok (.iconst (-1), 1) := by decide +kernel
theorem dX12_clue_18 : decode cX12_clue 18 = .ok (.if_icmp .ne 17, 3) := by decide +kernel
theorem dX12_clue_21 : decode cX12_clue 21 = .ok (.iload_n 3, 1) := by decide +kernel
theorem dX12_clue_22 : decode cX12_clue 22 = .ok (.ifCond .ne 10, 3) := by decide +kernel
theorem dX12_clue_25 : decode cX12_clue 25 = .ok (.aload_n 0, 1) := by decide +kernel
theorem dX12_clue_26 : decode cX12_clue 26 = .ok (.invokevirtual 508, 3) := by decide +kernel
theorem dX12_clue_29 : decode cX12_clue 29 = .ok (.goto 5, 3) := by decide +kernel
theorem dX12_clue_32 : decode cX12_clue 32 = .ok (.bipush (-2), 2) := by decide +kernel
theorem dX12_clue_34 : decode cX12_clue 34 = .ok (.ireturn, 1) := by decide +kernel
theorem dX12_clue_35 : decode cX12_clue 35 = .ok (.iload_n 2, 1) := by decide +kernel
theorem dX12_clue_36 : decode cX12_clue 36 = .ok (.iconst 0, 1) := by decide +kernel
theorem dX12_clue_37 : decode cX12_clue 37 = .ok (.aload_n 0, 1) := by decide +kernel
theorem dX12_clue_38 : decode cX12_clue 38 = .ok (.invokevirtual 508, 3) := by decide +kernel
theorem dX12_clue_41 : decode cX12_clue 41 = .ok (.iconst 1, 1) := by decide +kernel
theorem dX12_clue_42 : decode cX12_clue 42 = .ok (.isub, 1) := by decide +kernel
theorem dX12_clue_43 : decode cX12_clue 43 = .ok (.invokestatic 115, 3) := by decide +kernel
theorem dX12_clue_46 : decode cX12_clue 46 = .ok (.ifCond .eq 21, 3) := by decide +kernel
theorem dX12_clue_49 : decode cX12_clue 49 = .ok (.iload_n 3, 1) := by decide +kernel
theorem dX12_clue_50 : decode cX12_clue 50 = .ok (.iconst 0, 1) := by decide +kernel
theorem dX12_clue_51 : decode cX12_clue 51 = .ok (.iconst 2, 1) := by decide +kernel
theorem dX12_clue_52 : decode cX12_clue 52 = .ok (.invokestatic 115, 3) := by decide +kernel
theorem dX12_clue_55 : decode cX12_clue 55 = .ok (.ifCond .eq 12, 3) := by decide +kernel
theorem dX12_clue_58 : decode cX12_clue 58 = .ok (.aload_n 0, 1) := by decide +kernel
theorem dX12_clue_59 : decode cX12_clue 59 = .ok (.iload_n 2, 1) := by decide +kernel
theorem dX12_clue_60 : decode cX12_clue 60 = .ok (.iload_n 3, 1) := by decide +kernel
theorem dX12_clue_61 : decode cX12_clue 61 = .ok (.invokevirtual 511, 3) := by decide +kernel
theorem dX12_clue_64 : decode cX12_clue 64 = .ok (.goto 5, 3) := by decide +kernel
theorem dX12_clue_67 : decode cX12_clue 67 = .ok (.bipush (-2), 2) := by decide +kernel
theorem dX12_clue_69 : decode cX12_clue 69 = .ok (.ireturn, 1) := by decide +kernel
theorem dX12_trued_0 : decode cX12_trued 0 = .ok (.aload_n 0, 1) := by decide +kernel
theorem dX12_trued_1 : decode cX12_trued 1 = .ok (.iconst 0, 1) := by decide +kernel
theorem dX12_trued_2 : decode cX12_trued 2 = .ok (.putfield 103, 3) := by decide +kernel
theorem dX12_trued_5 : decode cX12_trued 5 = .ok (.aload_n 0, 1) := by decide +kernel
theorem dX12_trued_6 : decode cX12_trued 6 = .ok (.iload_n 1, 1) := by decide +kernel
theorem dX12_trued_7 : decode cX12_trued 7 = .ok (.invokevirtual 292, 3) := by decide +kernel
theorem dX12_trued_10 : decode cX12_trued 10 = .ok (.ifCond .eq 19, 3) := by decide +kernel
theorem dX12_trued_13 : decode cX12_trued 13 = .ok (.aload_n 0, 1) := by decide +kernel
theorem dX12_trued_14 : decode cX12_trued 14 = .ok (.iload_n 2, 1) := by decide +kernel
theorem dX12_trued_15 : decode cX12_trued 15 = .ok (.invokevirtual 295, 3) := by decide +kernel
theorem dX12_trued_18 : decode cX12_trued 18 = .ok (.ifCond .eq 11, 3) := by decide +kernel
theorem dX12_trued_21 : decode cX12_trued 21 = .ok (.aload_n 0, 1) := by decide +kernel
theorem dX12_trued_22 : decode cX12_trued 22 = .ok (.iload_n 3, 1) := by decide +kernel
theorem dX12_trued_23 : decode cX12_trued 23 = .ok (.invokevirtual 298, 3) := by decide +kernel
theorem dX12_trued_26 : decode cX12_trued 26 = .ok (.ifCond .ne 5, 3) := by decide +kernel
theorem dX12_trued_29 : decode cX12_trued 29 = .ok (.iconst (-1), 1) := by decide +kernel
theorem dX12_trued_30 : decode cX12_trued 30 = .ok (.ireturn, 1) := by decide +kernel
theorem dX12_trued_31 : decode cX12_trued 31 = .ok (.aload_n 0, 1) := by decide +kernel
theorem dX12_trued_32 : decode cX12_trued 32 = .ok (.getfield 41, 3) := by decide +kernel
theorem dX12_trued_35 : decode cX12_trued 35 = .ok (.iload_n 2, 1) := by decide +kernel
theorem dX12_trued_36 : decode cX12_trued 36 = .ok (.iaload, 1) := by decide +kernel
theorem dX12_trued_37 : decode cX12_trued 37 = .ok (.aload_n 0, 1) := by decide +kernel
theorem dX12_trued_38 : decode cX12_trued 38 = .ok (.getfield 41, 3) := by decide +kernel
theorem dX12_trued_41 : decode cX12_trued 41 = .ok (.bipush 6, 2) := by decide +kernel
theorem dX12_trued_43 : decode cX12_trued 43 = .ok (.iload_n 3, 1) := by decide +kernel
theorem dX12_trued_44 : decode cX12_trued 44 = .ok (.iadd, 1) := by decide +kernel
theorem dX12_trued_45 : decode cX12_trued 45 = .ok (.iaload, 1) := by decide +kernel
theorem dX12_trued_46 : decode cX12_trued 46 = .ok (.invokestatic 280, 3) := by decide +kernel
theorem dX12_trued_49 : decode cX12_trued 49 = .ok (.istore 5, 2) := by decide +kernel
theorem dX12_trued_51 : decode cX12_trued 51 = .ok (.aload_n 0, 1) := by decide +kernel
theorem dX12_trued_52 : decode cX12_trued 52 = .ok (.getfield 41, 3) := by decide +kernel
theorem dX12_trued_55 : decode cX12_trued 55 = .ok (.iload_n 2, 1) := by decide +kernel
theorem dX12_trued_56 : decode cX12_trued 56 = .ok (.aload_n 0, 1) := by decide +kernel
theorem dX12_trued_57 : decode cX12_trued 57 = .ok (.getfield 41, 3) := by decide +kernel
theorem dX12_trued_60 : decode cX12_trued 60 = .ok (.bipush 6, 2) := by decide +kernel
theorem dX12_trued_62 : decode cX12_trued 62 = .ok (.iload_n 3, 1) := by decide +kernel
theorem dX12_trued_63 : decode cX12_trued 63 = .ok (.iadd, 1) := by decide +kernel
theorem dX12_trued_64 : decode cX12_trued 64 = .ok (.iaload, 1) := by decide +kernel
theorem dX12_trued_65 : decode cX12_trued 65 = .ok (.iastore, 1) := by decide +kernel
theorem dX12_trued_66 : decode cX12_trued 66 = .ok (.iload 4, 2) := by decide +kernel
theorem dX12_trued_68 : decode cX12_trued 68 = .ok (.ifCond .eq 12, 3) := by decide +kernel
theorem dX12_trued_71 : decode cX12_trued 71 = .ok (.aload_n 0, 1) := by decide +kernel
theorem dX12_trued_72 : decode cX12_trued 72 = .ok (.iload_n 2, 1) := by decide +kernel
theorem dX12_trued_73 : decode cX12_trued 73 = .ok (.iload_n 3, 1) := by decide +kernel
theorem dX12_trued_74 : decode cX12_trued 74 = .ok (.invokevirtual 283, 3) := by decide +kernel
theorem dX12_trued_77 : decode cX12_trued 77 = .ok (.goto 5, 3) := by decide +kernel
theorem dX12_trued_80 : decode cX12_trued 80 = .ok (.iload 5, 2) := by decide +kernel
theorem dX12_trued_82 : decode cX12_trued 82 = .ok (.ireturn, 1) := by decide +kernel
theorem dX12_count_0 : decode cX12_count 0 = .ok (.aload_n 0, 1) := by decide +kernel
theorem dX12_count_1 : decode cX12_count 1 = .ok (.iconst 0, 1) := by decide +kernel
theorem dX12_count_2 : decode cX12_count 2 = .ok (.putfield 103, 3) := by decide +kernel
theorem dX12_count_5 : decode cX12_count 5 = .ok (.iload_n 1, 1) := by decide +kernel
theorem dX12_count_6 : decode cX12_count 6 = .ok (.iconst 0, 1) := by decide +kernel
theorem dX12_count_7 : decode cX12_count 7 = .ok (.iconst 2, 1) := by decide +kernel
theorem dX12_count_8 : decode cX12_count 8 = .ok (.invokestatic 115, 3) := by decide +kernel
theorem dX12_count_11 : decode cX12_count 11 = .ok (.ifCond .eq 12, 3) := by decide +kernel
theorem dX12_count_14 : decode cX12_count 14 = .ok (.aload_n 0, 1) := by decide +kernel
theorem dX12_count_15 : decode cX12_count 15 = .ok (.getfield 23, 3) := by decide +kernel
theorem dX12_count_18 : decode cX12_count 18 = .ok (.iload_n 1, 1) := by decide +kernel
theorem dX12_count_19 : decode cX12_count 19 = .ok (.iaload, 1) := by decide +kernel
theorem dX12_count_20 : decode cX12_count 20 = .ok (.goto 5, 3) := by decide +kernel
theorem dX12_count_23 : decode cX12_count 23 = .ok (.bipush (-2), 2) := by decide +kernel
theorem dX12_count_25 : decode cX12_count 25 = .ok (.ireturn, 1) := by decide +kernel
theorem tf_11_70 : tFld TB0 11 70 = some (8, 6) := rfl
theorem tf_11_73 : tFld TB0 11 73 = some (8, 7) := rfl
theorem tf_11_135 : tFld TB0 11 135 = some (2, 0) := rfl
theorem tf_11_281 : tFld TB0 11 281 = some (2, 1) := rfl
theorem tf_11_287 : tFld TB0 11 287 = some (0, 0) := rfl
theorem tf_11_319 : tFld TB0 11 319 = some (8, 4) := rfl
set_option maxRecDepth 20000 in
theorem tm_11_98 : tMet TB0 11 98 = some (0, M_X2_tell) := rfl
set_option maxRecDepth 20000 in
theorem tm_11_104 : tMet TB0 11 104 = some (0, M_X2_powerOf) := rfl
set_option maxRecDepth 20000 in
theorem tm_11_108 : tMet TB0 11 108 = some (0, M_X2_fitOf) := rfl
set_option maxRecDepth 20000 in
theorem tm_11_111 : tMet TB0 11 111 = some (0, M_X8_yearAt) := rfl
set_option maxRecDepth 20000 in
theorem tm_11_115 : tMet TB0 11 115 = some (0, M_X10_tell) := rfl
set_option maxRecDepth 20000 in
theorem tm_11_139 : tMet TB0 11 139 = some (0, M_X0_has) := rfl
set_option maxRecDepth 20000 in
theorem tm_11_223 : tMet TB0 11 223 = some (0, M_X8_cluesAt) := rfl
set_option maxRecDepth 20000 in
theorem tm_11_227 : tMet TB0 11 227 = some (0, M_X1_tell) := rfl
set_option maxRecDepth 20000 in
theorem tm_11_284 : tMet TB0 11 284 = some (0, M_X2_levelFit) := rfl
set_option maxRecDepth 20000 in
theorem tm_11_289 : tMet TB0 11 289 = some (12, M_none) := rfl
set_option maxRecDepth 20000 in
theorem tm_12_295 : tMet TB0 12 295 = some (0, M_X12_isDown) := rfl
set_option maxRecDepth 20000 in
theorem tm_12_298 : tMet TB0 12 298 = some (0, M_X12_isUp) := rfl
set_option maxRecDepth 20000 in
theorem tm_12_304 : tMet TB0 12 304 = some (0, M_X12_hasYear) := rfl
set_option maxRecDepth 20000 in
theorem tm_12_307 : tMet TB0 12 307 = some (0, M_X12_deeds) := rfl
set_option maxRecDepth 20000 in
theorem tm_12_310 : tMet TB0 12 310 = some (0, M_X12_deedOf) := rfl
set_option maxRecDepth 20000 in
theorem tm_12_505 : tMet TB0 12 505 = some (0, M_X12_hasClues) := rfl
set_option maxRecDepth 20000 in
theorem tm_12_508 : tMet TB0 12 508 = some (0, M_X12_clueMany) := rfl
set_option maxRecDepth 20000 in
theorem tm_12_511 : tMet TB0 12 511 = some (0, M_X12_clueOf) := rfl
theorem fitZ_tr {g : Int → Int} (w : wfF g) {d u : Int} (h : inF g d u) : fitZ (setG g (3 + d) (ul g u)) d u = lvZ g d u := by
  have n := wB_n w.1
  have l := lvZ_b w h.1.1 h.1.2 h.2.1 h.2.2
  have e : lvZ (setG g (3 + d) (ul g u)) d u = lvZ g d u := by
    unfold lvZ
    rw [ds_set, us_set, dh_set, uh_set, if_neg (show ¬ 9 + d = 3 + d by omega), if_neg (show ¬ 39 + u = 3 + d by omega), if_neg (show ¬ 21 + d = 3 + d by omega), if_neg (show ¬ 51 + u = 3 + d by omega)]
  rw [fitZ_lv, e, dl_set, ul_set, if_pos rfl, if_neg (show ¬ 33 + u = 3 + d by omega), Int.sub_self]
  have : absI 0 = 0 := rfl
  omega
theorem tlZ_a {g : Int → Int} {w n : Int} (h : 10 ≤ w ∧ w ≤ 139) (hn : n = if w / 10 < 6 then nd g else if w / 10 < 11 then nu g else nc g) : (w % 10 < n → tlZ g w = g (3 + 6 * (w / 10 - 1) + w % 10)) ∧ (n ≤ w % 10 → tlZ g w = -2) := by
  unfold tlZ
  rw [if_pos h, ← hn]
  exact ⟨fun q => if_pos q, fun q => if_neg (by omega)⟩
def trZ (g : Int → Int) (d u : Int) (p : Prop) [Decidable p] : Int := if inF g d u then (if p then lvZ g d u else absI (dl g d - ul g u)) else -1
def fpZ (g : Int → Int) (d u : Int) (p : Prop) [Decidable p] : Int := if p then powC g d u 0 else fitC g d u
def flZ (σ : Sg) (w : Int) : Int := if w = 0 then cn σ 4 else if w = 1 then cn σ 5 else -1
def ctZ (σ : Sg) (s : Int) : Int := if 0 ≤ s ∧ s < 3 then cn σ s else -2
set_option maxHeartbeats 400000 in
theorem zp_X11_fit_in {ad : mA} {dd : Nat} {h : mH} {Q : mQ} {x : Nat} {σ : Sg} (hk : bk h x) (HX : clsT h (x + 1) σ)  (f : Int) (f_r : -2147483648 ≤ f ∧ f < 2147483648) (d : Int) (d_r : -2147483648 ≤ d ∧ d < 2147483648) (u : Int) (u_r : -2147483648 ≤ u ∧ u < 2147483648) (p : Prop) [Decidable p] (p1 : 0 ≤ f) (p2 : f < cn σ 0) (kq : Q (some (.int (zI (fpZ (sG σ f) d u p)))) h) : mCal TB0 ad (dd + 4) M_X11_fit [.ref x, .int (zI f), .int (zI d), .int (zI u), .int (zI (bZ p))] h 0 0 Q := by
  refine ⟨Nat.le_of_ble_eq_true rfl, ?_⟩
  show mEv TB0 ad M_X11_fit (dd + 4) (0, 0) (mCal TB0 ad (dd + 3)) (fun v h' z => z.1 = 0 ∧ Q v h') 0 [some (.ref x), some (.int (zI f)), some (.int (zI d)), some (.int (zI u)), some (.int (zI (bZ p))), none] [] h (0, 0)
  have w1 := wS_n (clsT_w HX)
  refine e_aload_n dX11_fit_0 rfl ?_
  refine e_get (.ref (x + 1)) dX11_fit_1 tf_11_10 (congrArg Prod.fst (bk_s0 hk)) (congrArg va_rf (bk_r0_0 hk)) ?_
  refine e_iload_n dX11_fit_4 rfl ?_
  refine e_callV [.int _] dX11_fit_5 tm_11_94 rfl (Nat.le_of_ble_eq_true rfl) (congrArg Prod.fst (bk_s1 hk)) (Nat.le_of_ble_eq_true rfl) (Nat.le_refl _) (Nat.le_refl _) rfl (zp_X8_forgeAt_in (bk_td1 hk) HX f ⟨by omega, by omega⟩ (by omega) (by omega) ?_)
  have k1 := fAt_k (bk_td1 hk) f
  have H2 := clsT_F HX (show 0 ≤ f by omega) (by omega)
  have y3 := fAt_b (x + 1) f
  refine e_astore (L' := [_, _, _, _, _, _]) dX11_fit_8 (Nat.le_of_ble_eq_true rfl) rfl ?_
  refine e_aload dX11_fit_10 rfl ?_
  refine e_ifnonnull 17 dX11_fit_12 rfl ?_
  refine e_iload dX11_fit_17 rfl ?_
  refine z_ifb_eq 33 dX11_fit_19 rfl (fun c4 => ?_) (fun c4 => ?_)
  · skip
    refine e_aload dX11_fit_33 rfl ?_
    refine e_iload_n dX11_fit_35 rfl ?_
    refine e_iload_n dX11_fit_36 rfl ?_
    refine e_callV [.int _, .int _] dX11_fit_37 tm_11_108 rfl (Nat.le_of_ble_eq_true rfl) (congrArg Prod.fst (fg_s0 k1)) (Nat.le_of_ble_eq_true rfl) (Nat.le_refl _) (Nat.le_refl _) rfl (zp_X2_fitOf k1 H2 d ⟨by omega, by omega⟩ u ⟨by omega, by omega⟩ ?_)
    have y5 := fitC_s (sG σ f) d u
    refine z_iret dX11_fit_40 rfl ⟨rfl, ?_⟩
    refine z_q kq ?_
    unfold fpZ; first | rw [if_pos (by assumption)] | rw [if_neg (by assumption)]
  · skip
    refine e_aload dX11_fit_22 rfl ?_
    refine e_iload_n dX11_fit_24 rfl ?_
    refine e_iload_n dX11_fit_25 rfl ?_
    refine z_iconst (0) dX11_fit_26 rfl ?_
    refine e_callV [.int _, .int _, .int _] dX11_fit_27 tm_11_104 rfl (Nat.le_of_ble_eq_true rfl) (congrArg Prod.fst (fg_s0 k1)) (Nat.le_of_ble_eq_true rfl) (Nat.le_refl _) (Nat.le_refl _) rfl (zp_X2_powerOf k1 H2 d ⟨by omega, by omega⟩ u ⟨by omega, by omega⟩ 0 ⟨by omega, by omega⟩ (by omega) (by omega) ?_)
    have y6 := powC_s (isF_w H2) d u (show 0 ≤ 0 by omega)
    refine e_goto 40 dX11_fit_30 rfl ?_
    refine z_iret dX11_fit_40 rfl ⟨rfl, ?_⟩
    refine z_q kq ?_
    unfold fpZ; first | rw [if_pos (by assumption)] | rw [if_neg (by assumption)]
set_option maxHeartbeats 400000 in
theorem zp_X11_fit_out {ad : mA} {dd : Nat} {h : mH} {Q : mQ} {x : Nat} {σ : Sg} (hk : bk h x) (HX : clsT h (x + 1) σ)  (f : Int) (f_r : -2147483648 ≤ f ∧ f < 2147483648) (d : Int) (d_r : -2147483648 ≤ d ∧ d < 2147483648) (u : Int) (u_r : -2147483648 ≤ u ∧ u < 2147483648) (p : Prop) [Decidable p] (p1 : ¬ (0 ≤ f ∧ f < cn σ 0)) (kq : Q (some (.int (zI (-1)))) h) : mCal TB0 ad (dd + 4) M_X11_fit [.ref x, .int (zI f), .int (zI d), .int (zI u), .int (zI (bZ p))] h 0 0 Q := by
  refine ⟨Nat.le_of_ble_eq_true rfl, ?_⟩
  show mEv TB0 ad M_X11_fit (dd + 4) (0, 0) (mCal TB0 ad (dd + 3)) (fun v h' z => z.1 = 0 ∧ Q v h') 0 [some (.ref x), some (.int (zI f)), some (.int (zI d)), some (.int (zI u)), some (.int (zI (bZ p))), none] [] h (0, 0)
  have w1 := wS_n (clsT_w HX)
  refine e_aload_n dX11_fit_0 rfl ?_
  refine e_get (.ref (x + 1)) dX11_fit_1 tf_11_10 (congrArg Prod.fst (bk_s0 hk)) (congrArg va_rf (bk_r0_0 hk)) ?_
  refine e_iload_n dX11_fit_4 rfl ?_
  refine e_callV [.int _] dX11_fit_5 tm_11_94 rfl (Nat.le_of_ble_eq_true rfl) (congrArg Prod.fst (bk_s1 hk)) (Nat.le_of_ble_eq_true rfl) (Nat.le_refl _) (Nat.le_refl _) rfl (zp_X8_forgeAt_out (bk_td1 hk) HX f ⟨by omega, by omega⟩ (by omega) ?_)
  refine e_astoreN (L' := [_, _, _, _, _, _]) dX11_fit_8 (Nat.le_of_ble_eq_true rfl) rfl ?_
  refine e_aloadN dX11_fit_10 rfl ?_
  refine e_ifnonnullN 17 dX11_fit_12 rfl ?_
  refine z_iconst (-1) dX11_fit_15 rfl ?_
  refine z_iret dX11_fit_16 rfl ⟨rfl, ?_⟩
  refine z_q kq ?_
  rfl
set_option maxHeartbeats 400000 in
theorem zp_X12_fit_in {ad : mA} {dd : Nat} {h : mH} {Q : mQ} {m : Nat} {σ : Sg} (hk : rk h m) (HR : refT h m 0 σ)  (f : Int) (f_r : -2147483648 ≤ f ∧ f < 2147483648) (d : Int) (d_r : -2147483648 ≤ d ∧ d < 2147483648) (u : Int) (u_r : -2147483648 ≤ u ∧ u < 2147483648) (p : Prop) [Decidable p] (p1 : 0 ≤ f) (p2 : f < cn σ 0) (kq : ∀ h1, frm (fun a i => a = m ∨ (m + 9 ≤ a ∧ a < m + 30)) h h1 → Q (some (.int (zI (fpZ (sG σ f) d u p)))) h1) : mCal TB0 ad (dd + 4) M_X12_fit [.ref m, .int (zI f), .int (zI d), .int (zI u), .int (zI (bZ p))] h 0 0 Q := by
  refine ⟨Nat.le_of_ble_eq_true rfl, ?_⟩
  show mEv TB0 ad M_X12_fit (dd + 4) (0, 0) (mCal TB0 ad (dd + 3)) (fun v h' z => z.1 = 0 ∧ Q v h') 0 [some (.ref m), some (.int (zI f)), some (.int (zI d)), some (.int (zI u)), some (.int (zI (bZ p)))] [] h (0, 0)
  have FR0 : frm (fun a i => a = m ∨ (m + 9 ≤ a ∧ a < m + 30)) h h := frm_0 h
  have w1 := wS_n (refT_w HR)
  refine e_aload_n dX12_fit_0 rfl ?_
  refine z_iconst (0) dX12_fit_1 rfl ?_
  refine z_put dX12_fit_2 tf_12_103 (rk_s hk) rfl (Or.inl rfl) (fun h1 e2 => ?_)
  have f3 := frm_1 e2
  have k4 := rk_q (frm_s f3) hk
  have H5 := refT_c f3 (fun a k q1 q2 => by omega) HR
  have FR6 := frm_t FR0 (frm_m (S' := (fun a i => a = m ∨ (m + 9 ≤ a ∧ a < m + 30))) f3 (fun a k q => by omega))
  refine e_aload_n dX12_fit_5 rfl ?_
  refine e_iload_n dX12_fit_6 rfl ?_
  refine e_callV [.int _] dX12_fit_7 tm_12_292 rfl (Nat.le_of_ble_eq_true rfl) (rk_s k4) (Nat.le_of_ble_eq_true rfl) (Nat.le_refl _) (Nat.le_refl _) rfl (zp_X12_hand_in k4 H5 f ⟨by omega, by omega⟩ (by omega) (by omega) (fun  h7 f8 p9 p10 p11 p12 => ?_))
  have k13 := rk_q (frm_s f8) k4
  have H14 := refT_c f8 (fun a k q1 q2 => by omega) H5
  have FR15 := frm_t FR6 (frm_m (S' := (fun a i => a = m ∨ (m + 9 ≤ a ∧ a < m + 30))) f8 (fun a k q => by omega))
  have w5 := rB_n p9
  have w6 := rC_n p11
  refine z_ifb_eq 29 dX12_fit_10 rfl (fun c16 => ?_) (fun c16 => ?_)
  · exact absurd trivial c16
  · skip
    refine e_aload_n dX12_fit_13 rfl ?_
    refine e_iload_n dX12_fit_14 rfl ?_
    refine e_callV [.int _] dX12_fit_15 tm_12_295 rfl (Nat.le_of_ble_eq_true rfl) (rk_s k13) (Nat.le_of_ble_eq_true rfl) (Nat.le_refl _) (Nat.le_refl _) rfl (zp_X12_isDown k13 p9 d ⟨by omega, by omega⟩ ?_)
    refine z_ifb_eq 29 dX12_fit_18 rfl (fun c17 => ?_) (fun c17 => ?_)
    · skip
      refine z_iconst (-1) dX12_fit_29 rfl ?_
      refine z_iret dX12_fit_30 rfl ⟨rfl, ?_⟩
      refine z_q (kq _ FR15) ?_
      unfold fpZ; first | (rw [if_pos (by assumption), powC_in (by omega)]) | (rw [if_neg (by assumption), fitC_in (by omega)]) | (rw [powC_out (by omega), fitC_out (by omega)]; split <;> rfl)
    · skip
      refine e_aload_n dX12_fit_21 rfl ?_
      refine e_iload_n dX12_fit_22 rfl ?_
      refine e_callV [.int _] dX12_fit_23 tm_12_298 rfl (Nat.le_of_ble_eq_true rfl) (rk_s k13) (Nat.le_of_ble_eq_true rfl) (Nat.le_refl _) (Nat.le_refl _) rfl (zp_X12_isUp k13 p9 u ⟨by omega, by omega⟩ ?_)
      refine z_ifb_ne 31 dX12_fit_26 rfl (fun c18 => ?_) (fun c18 => ?_)
      · skip
        refine e_iload dX12_fit_31 rfl ?_
        refine z_ifb_eq 45 dX12_fit_33 rfl (fun c19 => ?_) (fun c19 => ?_)
        · skip
          refine e_aload_n dX12_fit_45 rfl ?_
          refine e_iload_n dX12_fit_46 rfl ?_
          refine e_iload_n dX12_fit_47 rfl ?_
          refine e_callV [.int _, .int _] dX12_fit_48 tm_12_283 rfl (Nat.le_of_ble_eq_true rfl) (rk_s k13) (Nat.le_of_ble_eq_true rfl) (Nat.le_refl _) (Nat.le_refl _) rfl (zp_X12_fitOf k13 p9 d ⟨by omega, by omega⟩ u ⟨by omega, by omega⟩ (by omega) ?_)
          have y20 := fitZ_b (sG σ f) d u
          refine z_iret dX12_fit_51 rfl ⟨rfl, ?_⟩
          refine z_q (kq _ FR15) ?_
          unfold fpZ; first | (rw [if_pos (by assumption), powC_in (by omega)]) | (rw [if_neg (by assumption), fitC_in (by omega)]) | (rw [powC_out (by omega), fitC_out (by omega)]; split <;> rfl)
        · skip
          refine e_aload_n dX12_fit_36 rfl ?_
          refine e_iload_n dX12_fit_37 rfl ?_
          refine e_iload_n dX12_fit_38 rfl ?_
          refine e_callV [.int _, .int _] dX12_fit_39 tm_12_289 rfl (Nat.le_of_ble_eq_true rfl) (rk_s k13) (Nat.le_of_ble_eq_true rfl) (Nat.le_refl _) (Nat.le_refl _) rfl (zp_X12_powerOf k13 p9 d ⟨by omega, by omega⟩ u ⟨by omega, by omega⟩ (by omega) ?_)
          have y21 := powW_0b (rB_w p9) d u (by omega)
          refine e_goto 51 dX12_fit_42 rfl ?_
          refine z_iret dX12_fit_51 rfl ⟨rfl, ?_⟩
          refine z_q (kq _ FR15) ?_
          unfold fpZ; first | (rw [if_pos (by assumption), powC_in (by omega)]) | (rw [if_neg (by assumption), fitC_in (by omega)]) | (rw [powC_out (by omega), fitC_out (by omega)]; split <;> rfl)
      · skip
        refine z_iconst (-1) dX12_fit_29 rfl ?_
        refine z_iret dX12_fit_30 rfl ⟨rfl, ?_⟩
        refine z_q (kq _ FR15) ?_
        unfold fpZ; first | (rw [if_pos (by assumption), powC_in (by omega)]) | (rw [if_neg (by assumption), fitC_in (by omega)]) | (rw [powC_out (by omega), fitC_out (by omega)]; split <;> rfl)
set_option maxHeartbeats 400000 in
theorem zp_X12_fit_out {ad : mA} {dd : Nat} {h : mH} {Q : mQ} {m : Nat} {σ : Sg} (hk : rk h m) (HR : refT h m 0 σ)  (f : Int) (f_r : -2147483648 ≤ f ∧ f < 2147483648) (d : Int) (d_r : -2147483648 ≤ d ∧ d < 2147483648) (u : Int) (u_r : -2147483648 ≤ u ∧ u < 2147483648) (p : Prop) [Decidable p] (p1 : ¬ (0 ≤ f ∧ f < cn σ 0)) (kq : ∀ h1, frm (fun a i => a = m ∨ (m + 9 ≤ a ∧ a < m + 30)) h h1 → Q (some (.int (zI (-1)))) h1) : mCal TB0 ad (dd + 4) M_X12_fit [.ref m, .int (zI f), .int (zI d), .int (zI u), .int (zI (bZ p))] h 0 0 Q := by
  refine ⟨Nat.le_of_ble_eq_true rfl, ?_⟩
  show mEv TB0 ad M_X12_fit (dd + 4) (0, 0) (mCal TB0 ad (dd + 3)) (fun v h' z => z.1 = 0 ∧ Q v h') 0 [some (.ref m), some (.int (zI f)), some (.int (zI d)), some (.int (zI u)), some (.int (zI (bZ p)))] [] h (0, 0)
  have FR0 : frm (fun a i => a = m ∨ (m + 9 ≤ a ∧ a < m + 30)) h h := frm_0 h
  have w1 := wS_n (refT_w HR)
  refine e_aload_n dX12_fit_0 rfl ?_
  refine z_iconst (0) dX12_fit_1 rfl ?_
  refine z_put dX12_fit_2 tf_12_103 (rk_s hk) rfl (Or.inl rfl) (fun h1 e2 => ?_)
  have f3 := frm_1 e2
  have k4 := rk_q (frm_s f3) hk
  have H5 := refT_c f3 (fun a k q1 q2 => by omega) HR
  have FR6 := frm_t FR0 (frm_m (S' := (fun a i => a = m ∨ (m + 9 ≤ a ∧ a < m + 30))) f3 (fun a k q => by omega))
  refine e_aload_n dX12_fit_5 rfl ?_
  refine e_iload_n dX12_fit_6 rfl ?_
  refine e_callV [.int _] dX12_fit_7 tm_12_292 rfl (Nat.le_of_ble_eq_true rfl) (rk_s k4) (Nat.le_of_ble_eq_true rfl) (Nat.le_refl _) (Nat.le_refl _) rfl (zp_X12_hand_out k4 H5 f ⟨by omega, by omega⟩ (by omega) ?_)
  refine z_ifb_eq 29 dX12_fit_10 rfl (fun c7 => ?_) (fun c7 => ?_)
  · skip
    refine z_iconst (-1) dX12_fit_29 rfl ?_
    refine z_iret dX12_fit_30 rfl ⟨rfl, ?_⟩
    exact kq _ FR6
  · exfalso; exact c7
theorem op5 {ad : mA} {B : Nat} : op_5 ad B (Inv B) := by
  intro a b c bb hb
  rw [← zI_toInt a]
  rw [← zI_toInt b]
  rw [← zI_toInt c]
  rw [bb_z hb]
  have ra := in_of a
  generalize a.toInt = a at *
  have rb := in_of b
  generalize b.toInt = b at *
  have rc := in_of c
  generalize c.toInt = c at *
  refine opq_I (ansF a (-1) (fun g r => r = fpZ g b c (bb = 1))) (ansF_u (fun g r r' x y => x.trans y.symm)) (fun h σ hk HX Q kq => ?_) (fun h σ hr HR Q kq => ?_)
  · by_cases q : 0 ≤ a ∧ a < cn σ 0
    · exact zp_X11_fit_in hk HX a ra b rb c rc (bb = 1) q.1 q.2 (kq _ _ (frm_0 h) (Or.inl ⟨q.1, q.2, rfl⟩))
    · exact zp_X11_fit_out hk HX a ra b rb c rc (bb = 1) q (kq _ _ (frm_0 h) (Or.inr ⟨q, rfl⟩))
  · by_cases q : 0 ≤ a ∧ a < cn σ 0
    · exact zp_X12_fit_in hr HR a ra b rb c rc (bb = 1) q.1 q.2 (fun h1 f => kq _ h1 f (Or.inl ⟨q.1, q.2, rfl⟩))
    · exact zp_X12_fit_out hr HR a ra b rb c rc (bb = 1) q (fun h1 f => kq _ _ f (Or.inr ⟨q, rfl⟩))
set_option maxHeartbeats 400000 in
theorem zp_X11_forge_in {ad : mA} {dd : Nat} {h : mH} {Q : mQ} {x : Nat} {σ : Sg} (hk : bk h x) (HX : clsT h (x + 1) σ)  (f : Int) (f_r : -2147483648 ≤ f ∧ f < 2147483648) (w : Int) (w_r : -2147483648 ≤ w ∧ w < 2147483648) (p1 : 0 ≤ f) (p2 : f < cn σ 0) (kq : Q (some (.int (zI (tlZ (sG σ f) w)))) h) : mCal TB0 ad (dd + 4) M_X11_forge [.ref x, .int (zI f), .int (zI w)] h 0 0 Q := by
  refine ⟨Nat.le_of_ble_eq_true rfl, ?_⟩
  show mEv TB0 ad M_X11_forge (dd + 4) (0, 0) (mCal TB0 ad (dd + 3)) (fun v h' z => z.1 = 0 ∧ Q v h') 0 [some (.ref x), some (.int (zI f)), some (.int (zI w)), none] [] h (0, 0)
  have w1 := wS_n (clsT_w HX)
  refine e_aload_n dX11_forge_0 rfl ?_
  refine e_get (.ref (x + 1)) dX11_forge_1 tf_11_10 (congrArg Prod.fst (bk_s0 hk)) (congrArg va_rf (bk_r0_0 hk)) ?_
  refine e_iload_n dX11_forge_4 rfl ?_
  refine e_callV [.int _] dX11_forge_5 tm_11_94 rfl (Nat.le_of_ble_eq_true rfl) (congrArg Prod.fst (bk_s1 hk)) (Nat.le_of_ble_eq_true rfl) (Nat.le_refl _) (Nat.le_refl _) rfl (zp_X8_forgeAt_in (bk_td1 hk) HX f ⟨by omega, by omega⟩ (by omega) (by omega) ?_)
  have k1 := fAt_k (bk_td1 hk) f
  have H2 := clsT_F HX (show 0 ≤ f by omega) (by omega)
  have y3 := fAt_b (x + 1) f
  refine e_astore_n (L' := [_, _, _, _]) dX11_forge_8 (Nat.le_of_ble_eq_true rfl) rfl ?_
  refine e_aload_n dX11_forge_9 rfl ?_
  refine e_ifnonnull 18 dX11_forge_10 rfl ?_
  refine e_aload_n dX11_forge_18 rfl ?_
  refine e_iload_n dX11_forge_19 rfl ?_
  refine e_callV [.int _] dX11_forge_20 tm_11_98 rfl (Nat.le_of_ble_eq_true rfl) (congrArg Prod.fst (fg_s0 k1)) (Nat.le_of_ble_eq_true rfl) (Nat.le_refl _) (Nat.le_refl _) rfl (zp_X2_tell k1 H2 w ⟨by omega, by omega⟩ ?_)
  refine z_iret dX11_forge_23 rfl ⟨rfl, ?_⟩
  refine z_q kq ?_
  rfl
set_option maxHeartbeats 400000 in
theorem zp_X11_forge_out {ad : mA} {dd : Nat} {h : mH} {Q : mQ} {x : Nat} {σ : Sg} (hk : bk h x) (HX : clsT h (x + 1) σ)  (f : Int) (f_r : -2147483648 ≤ f ∧ f < 2147483648) (w : Int) (w_r : -2147483648 ≤ w ∧ w < 2147483648) (p1 : ¬ (0 ≤ f ∧ f < cn σ 0)) (kq : Q (some (.int (zI (-2)))) h) : mCal TB0 ad (dd + 4) M_X11_forge [.ref x, .int (zI f), .int (zI w)] h 0 0 Q := by
  refine ⟨Nat.le_of_ble_eq_true rfl, ?_⟩
  show mEv TB0 ad M_X11_forge (dd + 4) (0, 0) (mCal TB0 ad (dd + 3)) (fun v h' z => z.1 = 0 ∧ Q v h') 0 [some (.ref x), some (.int (zI f)), some (.int (zI w)), none] [] h (0, 0)
  have w1 := wS_n (clsT_w HX)
  refine e_aload_n dX11_forge_0 rfl ?_
  refine e_get (.ref (x + 1)) dX11_forge_1 tf_11_10 (congrArg Prod.fst (bk_s0 hk)) (congrArg va_rf (bk_r0_0 hk)) ?_
  refine e_iload_n dX11_forge_4 rfl ?_
  refine e_callV [.int _] dX11_forge_5 tm_11_94 rfl (Nat.le_of_ble_eq_true rfl) (congrArg Prod.fst (bk_s1 hk)) (Nat.le_of_ble_eq_true rfl) (Nat.le_refl _) (Nat.le_refl _) rfl (zp_X8_forgeAt_out (bk_td1 hk) HX f ⟨by omega, by omega⟩ (by omega) ?_)
  refine e_astore_nN (L' := [_, _, _, _]) dX11_forge_8 (Nat.le_of_ble_eq_true rfl) rfl ?_
  refine e_aload_nN dX11_forge_9 rfl ?_
  refine e_ifnonnullN 18 dX11_forge_10 rfl ?_
  refine z_bipush (-2) dX11_forge_13 rfl ?_
  refine e_goto 23 dX11_forge_15 rfl ?_
  refine z_iret dX11_forge_23 rfl ⟨rfl, ?_⟩
  refine z_q kq ?_
  rfl
set_option maxHeartbeats 400000 in
theorem zp_X12_forge_in {ad : mA} {dd : Nat} {h : mH} {Q : mQ} {m : Nat} {σ : Sg} (hk : rk h m) (HR : refT h m 0 σ)  (f : Int) (f_r : -2147483648 ≤ f ∧ f < 2147483648) (w : Int) (w_r : -2147483648 ≤ w ∧ w < 2147483648) (p1 : 0 ≤ f) (p2 : f < cn σ 0) (kq : ∀ h1, frm (fun a i => a = m ∨ (m + 9 ≤ a ∧ a < m + 30)) h h1 → Q (some (.int (zI (tlZ (sG σ f) w)))) h1) : mCal TB0 ad (dd + 4) M_X12_forge [.ref m, .int (zI f), .int (zI w)] h 0 0 Q := by
  refine ⟨Nat.le_of_ble_eq_true rfl, ?_⟩
  show mEv TB0 ad M_X12_forge (dd + 4) (0, 0) (mCal TB0 ad (dd + 3)) (fun v h' z => z.1 = 0 ∧ Q v h') 0 [some (.ref m), some (.int (zI f)), some (.int (zI w)), none] [] h (0, 0)
  have FR0 : frm (fun a i => a = m ∨ (m + 9 ≤ a ∧ a < m + 30)) h h := frm_0 h
  have w1 := wS_n (refT_w HR)
  refine e_aload_n dX12_forge_0 rfl ?_
  refine z_iconst (0) dX12_forge_1 rfl ?_
  refine z_put dX12_forge_2 tf_12_103 (rk_s hk) rfl (Or.inl rfl) (fun h1 e2 => ?_)
  have f3 := frm_1 e2
  have k4 := rk_q (frm_s f3) hk
  have H5 := refT_c f3 (fun a k q1 q2 => by omega) HR
  have FR6 := frm_t FR0 (frm_m (S' := (fun a i => a = m ∨ (m + 9 ≤ a ∧ a < m + 30))) f3 (fun a k q => by omega))
  refine e_aload_n dX12_forge_5 rfl ?_
  refine e_iload_n dX12_forge_6 rfl ?_
  refine e_callV [.int _] dX12_forge_7 tm_12_292 rfl (Nat.le_of_ble_eq_true rfl) (rk_s k4) (Nat.le_of_ble_eq_true rfl) (Nat.le_refl _) (Nat.le_refl _) rfl (zp_X12_hand_in k4 H5 f ⟨by omega, by omega⟩ (by omega) (by omega) (fun  h7 f8 p9 p10 p11 p12 => ?_))
  have k13 := rk_q (frm_s f8) k4
  have H14 := refT_c f8 (fun a k q1 q2 => by omega) H5
  have FR15 := frm_t FR6 (frm_m (S' := (fun a i => a = m ∨ (m + 9 ≤ a ∧ a < m + 30))) f8 (fun a k q => by omega))
  have w5 := rB_n p9
  have w6 := rC_n p11
  refine z_ifb_ne 16 dX12_forge_10 rfl (fun c16 => ?_) (fun c16 => ?_)
  · skip
    refine e_iload_n dX12_forge_16 rfl ?_
    refine z_bipush (10) dX12_forge_17 rfl ?_
    refine z_idivT dX12_forge_19 ⟨by omega, by omega⟩ (by omega) (by omega) ?_
    refine e_istore_n (L' := [_, _, _, _]) dX12_forge_20 (Nat.le_of_ble_eq_true rfl) rfl ?_
    have q0 : 0 ≤ w → w.tdiv 10 = w / 10 := fun z => Int.tdiv_eq_ediv_of_nonneg z
    refine e_iload_n dX12_forge_21 rfl ?_
    refine z_bipush (10) dX12_forge_22 rfl ?_
    refine z_sipush (139) dX12_forge_24 rfl ?_
    refine e_callS [.int _, .int _, .int _] dX12_forge_27 tm_12_115 rfl (Nat.le_of_ble_eq_true rfl) (Nat.le_refl _) (Nat.le_refl _) rfl (zp_X12_in w ⟨by omega, by omega⟩ 10 ⟨by omega, by omega⟩ 139 ⟨by omega, by omega⟩ ?_)
    refine z_ifb_ne 53 dX12_forge_30 rfl (fun c17 => ?_) (fun c17 => ?_)
    · skip
      have q1 := q0 (by omega)
      refine e_iload_n dX12_forge_53 rfl ?_
      refine z_bipush (10) dX12_forge_54 rfl ?_
      refine z_irem dX12_forge_56 (by omega) (by omega) (by omega) (by omega) ?_
      refine e_iload_n dX12_forge_57 rfl ?_
      refine z_bipush (6) dX12_forge_58 rfl ?_
      refine z_icmp_ge 70 dX12_forge_60 rfl ⟨by omega, by omega⟩ ⟨by omega, by omega⟩ (fun c18 => ?_) (fun c18 => ?_)
      · skip
        refine e_iload_n dX12_forge_70 rfl ?_
        refine z_bipush (11) dX12_forge_71 rfl ?_
        refine z_icmp_ge 83 dX12_forge_73 rfl ⟨by omega, by omega⟩ ⟨by omega, by omega⟩ (fun c19 => ?_) (fun c19 => ?_)
        · skip
          refine e_aload_n dX12_forge_83 rfl ?_
          refine z_get (nc (sG σ f)) dX12_forge_84 tf_12_277 (rk_s k13) (Or.inl rfl) (rC_nc p11) ?_
          have y20 := rC_n p11
          refine z_icmp_ge 110 dX12_forge_87 rfl ⟨by omega, by omega⟩ ⟨by omega, by omega⟩ (fun c21 => ?_) (fun c21 => ?_)
          · skip
            refine z_bipush (-2) dX12_forge_110 rfl ?_
            refine z_iret dX12_forge_112 rfl ⟨rfl, ?_⟩
            refine z_q (kq _ FR15) ?_
            first | (unfold tlZ; rw [if_neg (show ¬ (10 ≤ w ∧ w ≤ 139) by omega), if_pos (show 0 ≤ w ∧ w ≤ 2 by omega)]) | (unfold tlZ; rw [if_neg (show ¬ (10 ≤ w ∧ w ≤ 139) by omega), if_neg (show ¬ (0 ≤ w ∧ w ≤ 2) by omega)]) | (have z := tlZ_a (g := (sG σ f)) (w := w) (n := nd (sG σ f)) (by omega) (by rw [if_pos (by omega)]); first | exact (z.2 (by omega)).symm | (rw [q1]; exact (z.1 (by omega)).symm)) | (have z := tlZ_a (g := (sG σ f)) (w := w) (n := nu (sG σ f)) (by omega) (by rw [if_neg (by omega), if_pos (by omega)]); first | exact (z.2 (by omega)).symm | (rw [q1]; exact (z.1 (by omega)).symm)) | (have z := tlZ_a (g := (sG σ f)) (w := w) (n := nc (sG σ f)) (by omega) (by rw [if_neg (by omega), if_neg (by omega)]); first | exact (z.2 (by omega)).symm | (rw [q1]; exact (z.1 (by omega)).symm))
          · skip
            refine e_aload_n dX12_forge_90 rfl ?_
            refine z_iconst (3) dX12_forge_91 rfl ?_
            refine z_bipush (6) dX12_forge_92 rfl ?_
            refine e_iload_n dX12_forge_94 rfl ?_
            refine z_iconst (1) dX12_forge_95 rfl ?_
            refine z_isub dX12_forge_96 ?_
            refine z_imul dX12_forge_97 ?_
            refine z_iadd dX12_forge_98 ?_
            refine e_iload_n dX12_forge_99 rfl ?_
            refine z_bipush (10) dX12_forge_100 rfl ?_
            refine z_irem dX12_forge_102 (by omega) (by omega) (by omega) (by omega) ?_
            refine z_iadd dX12_forge_103 ?_
            refine e_callV [.int _] dX12_forge_104 tm_12_267 rfl (Nat.le_of_ble_eq_true rfl) (rk_s k13) (Nat.le_of_ble_eq_true rfl) (Nat.le_refl _) (Nat.le_refl _) rfl (zp_X12_ofG k13 H14 p12 ((3 + (6 * ((w.tdiv 10) - 1))) + (w % 10)) ⟨by omega, by omega⟩ (by omega) (by omega) (by omega) ?_)
            have y22 := rI_r (refT_G H14 (show 0 ≤ f by omega) (by omega) (show 0 ≤ ((3 + (6 * ((w.tdiv 10) - 1))) + (w % 10)) by omega) (by omega))
            refine e_goto 112 dX12_forge_107 rfl ?_
            refine z_iret dX12_forge_112 rfl ⟨rfl, ?_⟩
            refine z_q (kq _ FR15) ?_
            first | (unfold tlZ; rw [if_neg (show ¬ (10 ≤ w ∧ w ≤ 139) by omega), if_pos (show 0 ≤ w ∧ w ≤ 2 by omega)]) | (unfold tlZ; rw [if_neg (show ¬ (10 ≤ w ∧ w ≤ 139) by omega), if_neg (show ¬ (0 ≤ w ∧ w ≤ 2) by omega)]) | (have z := tlZ_a (g := (sG σ f)) (w := w) (n := nd (sG σ f)) (by omega) (by rw [if_pos (by omega)]); first | exact (z.2 (by omega)).symm | (rw [q1]; exact (z.1 (by omega)).symm)) | (have z := tlZ_a (g := (sG σ f)) (w := w) (n := nu (sG σ f)) (by omega) (by rw [if_neg (by omega), if_pos (by omega)]); first | exact (z.2 (by omega)).symm | (rw [q1]; exact (z.1 (by omega)).symm)) | (have z := tlZ_a (g := (sG σ f)) (w := w) (n := nc (sG σ f)) (by omega) (by rw [if_neg (by omega), if_neg (by omega)]); first | exact (z.2 (by omega)).symm | (rw [q1]; exact (z.1 (by omega)).symm))
        · skip
          refine e_aload_n dX12_forge_76 rfl ?_
          refine z_get (nu (sG σ f)) dX12_forge_77 tf_12_274 (rk_s k13) (Or.inl rfl) (rB_nu p9) ?_
          have y23 := rB_n p9
          refine e_goto 87 dX12_forge_80 rfl ?_
          refine z_icmp_ge 110 dX12_forge_87 rfl ⟨by omega, by omega⟩ ⟨by omega, by omega⟩ (fun c24 => ?_) (fun c24 => ?_)
          · skip
            refine z_bipush (-2) dX12_forge_110 rfl ?_
            refine z_iret dX12_forge_112 rfl ⟨rfl, ?_⟩
            refine z_q (kq _ FR15) ?_
            first | (unfold tlZ; rw [if_neg (show ¬ (10 ≤ w ∧ w ≤ 139) by omega), if_pos (show 0 ≤ w ∧ w ≤ 2 by omega)]) | (unfold tlZ; rw [if_neg (show ¬ (10 ≤ w ∧ w ≤ 139) by omega), if_neg (show ¬ (0 ≤ w ∧ w ≤ 2) by omega)]) | (have z := tlZ_a (g := (sG σ f)) (w := w) (n := nd (sG σ f)) (by omega) (by rw [if_pos (by omega)]); first | exact (z.2 (by omega)).symm | (rw [q1]; exact (z.1 (by omega)).symm)) | (have z := tlZ_a (g := (sG σ f)) (w := w) (n := nu (sG σ f)) (by omega) (by rw [if_neg (by omega), if_pos (by omega)]); first | exact (z.2 (by omega)).symm | (rw [q1]; exact (z.1 (by omega)).symm)) | (have z := tlZ_a (g := (sG σ f)) (w := w) (n := nc (sG σ f)) (by omega) (by rw [if_neg (by omega), if_neg (by omega)]); first | exact (z.2 (by omega)).symm | (rw [q1]; exact (z.1 (by omega)).symm))
          · skip
            refine e_aload_n dX12_forge_90 rfl ?_
            refine z_iconst (3) dX12_forge_91 rfl ?_
            refine z_bipush (6) dX12_forge_92 rfl ?_
            refine e_iload_n dX12_forge_94 rfl ?_
            refine z_iconst (1) dX12_forge_95 rfl ?_
            refine z_isub dX12_forge_96 ?_
            refine z_imul dX12_forge_97 ?_
            refine z_iadd dX12_forge_98 ?_
            refine e_iload_n dX12_forge_99 rfl ?_
            refine z_bipush (10) dX12_forge_100 rfl ?_
            refine z_irem dX12_forge_102 (by omega) (by omega) (by omega) (by omega) ?_
            refine z_iadd dX12_forge_103 ?_
            refine e_callV [.int _] dX12_forge_104 tm_12_267 rfl (Nat.le_of_ble_eq_true rfl) (rk_s k13) (Nat.le_of_ble_eq_true rfl) (Nat.le_refl _) (Nat.le_refl _) rfl (zp_X12_ofG k13 H14 p12 ((3 + (6 * ((w.tdiv 10) - 1))) + (w % 10)) ⟨by omega, by omega⟩ (by omega) (by omega) (by omega) ?_)
            have y25 := rI_r (refT_G H14 (show 0 ≤ f by omega) (by omega) (show 0 ≤ ((3 + (6 * ((w.tdiv 10) - 1))) + (w % 10)) by omega) (by omega))
            refine e_goto 112 dX12_forge_107 rfl ?_
            refine z_iret dX12_forge_112 rfl ⟨rfl, ?_⟩
            refine z_q (kq _ FR15) ?_
            first | (unfold tlZ; rw [if_neg (show ¬ (10 ≤ w ∧ w ≤ 139) by omega), if_pos (show 0 ≤ w ∧ w ≤ 2 by omega)]) | (unfold tlZ; rw [if_neg (show ¬ (10 ≤ w ∧ w ≤ 139) by omega), if_neg (show ¬ (0 ≤ w ∧ w ≤ 2) by omega)]) | (have z := tlZ_a (g := (sG σ f)) (w := w) (n := nd (sG σ f)) (by omega) (by rw [if_pos (by omega)]); first | exact (z.2 (by omega)).symm | (rw [q1]; exact (z.1 (by omega)).symm)) | (have z := tlZ_a (g := (sG σ f)) (w := w) (n := nu (sG σ f)) (by omega) (by rw [if_neg (by omega), if_pos (by omega)]); first | exact (z.2 (by omega)).symm | (rw [q1]; exact (z.1 (by omega)).symm)) | (have z := tlZ_a (g := (sG σ f)) (w := w) (n := nc (sG σ f)) (by omega) (by rw [if_neg (by omega), if_neg (by omega)]); first | exact (z.2 (by omega)).symm | (rw [q1]; exact (z.1 (by omega)).symm))
      · skip
        refine e_aload_n dX12_forge_63 rfl ?_
        refine z_get (nd (sG σ f)) dX12_forge_64 tf_12_271 (rk_s k13) (Or.inl rfl) (rB_nd p9) ?_
        have y26 := rB_n p9
        refine e_goto 87 dX12_forge_67 rfl ?_
        refine z_icmp_ge 110 dX12_forge_87 rfl ⟨by omega, by omega⟩ ⟨by omega, by omega⟩ (fun c27 => ?_) (fun c27 => ?_)
        · skip
          refine z_bipush (-2) dX12_forge_110 rfl ?_
          refine z_iret dX12_forge_112 rfl ⟨rfl, ?_⟩
          refine z_q (kq _ FR15) ?_
          first | (unfold tlZ; rw [if_neg (show ¬ (10 ≤ w ∧ w ≤ 139) by omega), if_pos (show 0 ≤ w ∧ w ≤ 2 by omega)]) | (unfold tlZ; rw [if_neg (show ¬ (10 ≤ w ∧ w ≤ 139) by omega), if_neg (show ¬ (0 ≤ w ∧ w ≤ 2) by omega)]) | (have z := tlZ_a (g := (sG σ f)) (w := w) (n := nd (sG σ f)) (by omega) (by rw [if_pos (by omega)]); first | exact (z.2 (by omega)).symm | (rw [q1]; exact (z.1 (by omega)).symm)) | (have z := tlZ_a (g := (sG σ f)) (w := w) (n := nu (sG σ f)) (by omega) (by rw [if_neg (by omega), if_pos (by omega)]); first | exact (z.2 (by omega)).symm | (rw [q1]; exact (z.1 (by omega)).symm)) | (have z := tlZ_a (g := (sG σ f)) (w := w) (n := nc (sG σ f)) (by omega) (by rw [if_neg (by omega), if_neg (by omega)]); first | exact (z.2 (by omega)).symm | (rw [q1]; exact (z.1 (by omega)).symm))
        · skip
          refine e_aload_n dX12_forge_90 rfl ?_
          refine z_iconst (3) dX12_forge_91 rfl ?_
          refine z_bipush (6) dX12_forge_92 rfl ?_
          refine e_iload_n dX12_forge_94 rfl ?_
          refine z_iconst (1) dX12_forge_95 rfl ?_
          refine z_isub dX12_forge_96 ?_
          refine z_imul dX12_forge_97 ?_
          refine z_iadd dX12_forge_98 ?_
          refine e_iload_n dX12_forge_99 rfl ?_
          refine z_bipush (10) dX12_forge_100 rfl ?_
          refine z_irem dX12_forge_102 (by omega) (by omega) (by omega) (by omega) ?_
          refine z_iadd dX12_forge_103 ?_
          refine e_callV [.int _] dX12_forge_104 tm_12_267 rfl (Nat.le_of_ble_eq_true rfl) (rk_s k13) (Nat.le_of_ble_eq_true rfl) (Nat.le_refl _) (Nat.le_refl _) rfl (zp_X12_ofG k13 H14 p12 ((3 + (6 * ((w.tdiv 10) - 1))) + (w % 10)) ⟨by omega, by omega⟩ (by omega) (by omega) (by omega) ?_)
          have y28 := rI_r (refT_G H14 (show 0 ≤ f by omega) (by omega) (show 0 ≤ ((3 + (6 * ((w.tdiv 10) - 1))) + (w % 10)) by omega) (by omega))
          refine e_goto 112 dX12_forge_107 rfl ?_
          refine z_iret dX12_forge_112 rfl ⟨rfl, ?_⟩
          refine z_q (kq _ FR15) ?_
          first | (unfold tlZ; rw [if_neg (show ¬ (10 ≤ w ∧ w ≤ 139) by omega), if_pos (show 0 ≤ w ∧ w ≤ 2 by omega)]) | (unfold tlZ; rw [if_neg (show ¬ (10 ≤ w ∧ w ≤ 139) by omega), if_neg (show ¬ (0 ≤ w ∧ w ≤ 2) by omega)]) | (have z := tlZ_a (g := (sG σ f)) (w := w) (n := nd (sG σ f)) (by omega) (by rw [if_pos (by omega)]); first | exact (z.2 (by omega)).symm | (rw [q1]; exact (z.1 (by omega)).symm)) | (have z := tlZ_a (g := (sG σ f)) (w := w) (n := nu (sG σ f)) (by omega) (by rw [if_neg (by omega), if_pos (by omega)]); first | exact (z.2 (by omega)).symm | (rw [q1]; exact (z.1 (by omega)).symm)) | (have z := tlZ_a (g := (sG σ f)) (w := w) (n := nc (sG σ f)) (by omega) (by rw [if_neg (by omega), if_neg (by omega)]); first | exact (z.2 (by omega)).symm | (rw [q1]; exact (z.1 (by omega)).symm))
    · skip
      refine e_iload_n dX12_forge_33 rfl ?_
      refine z_iconst (0) dX12_forge_34 rfl ?_
      refine z_iconst (2) dX12_forge_35 rfl ?_
      refine e_callS [.int _, .int _, .int _] dX12_forge_36 tm_12_115 rfl (Nat.le_of_ble_eq_true rfl) (Nat.le_refl _) (Nat.le_refl _) rfl (zp_X12_in w ⟨by omega, by omega⟩ 0 ⟨by omega, by omega⟩ 2 ⟨by omega, by omega⟩ ?_)
      refine z_ifb_eq 50 dX12_forge_39 rfl (fun c29 => ?_) (fun c29 => ?_)
      · skip
        refine z_bipush (-2) dX12_forge_50 rfl ?_
        refine z_iret dX12_forge_52 rfl ⟨rfl, ?_⟩
        refine z_q (kq _ FR15) ?_
        first | (unfold tlZ; rw [if_neg (show ¬ (10 ≤ w ∧ w ≤ 139) by omega), if_pos (show 0 ≤ w ∧ w ≤ 2 by omega)]) | (unfold tlZ; rw [if_neg (show ¬ (10 ≤ w ∧ w ≤ 139) by omega), if_neg (show ¬ (0 ≤ w ∧ w ≤ 2) by omega)]) | (have z := tlZ_a (g := (sG σ f)) (w := w) (n := nd (sG σ f)) (by omega) (by rw [if_pos (by omega)]); first | exact (z.2 (by omega)).symm | (rw [q1]; exact (z.1 (by omega)).symm)) | (have z := tlZ_a (g := (sG σ f)) (w := w) (n := nu (sG σ f)) (by omega) (by rw [if_neg (by omega), if_pos (by omega)]); first | exact (z.2 (by omega)).symm | (rw [q1]; exact (z.1 (by omega)).symm)) | (have z := tlZ_a (g := (sG σ f)) (w := w) (n := nc (sG σ f)) (by omega) (by rw [if_neg (by omega), if_neg (by omega)]); first | exact (z.2 (by omega)).symm | (rw [q1]; exact (z.1 (by omega)).symm))
      · skip
        refine e_aload_n dX12_forge_42 rfl ?_
        refine e_iload_n dX12_forge_43 rfl ?_
        refine e_callV [.int _] dX12_forge_44 tm_12_267 rfl (Nat.le_of_ble_eq_true rfl) (rk_s k13) (Nat.le_of_ble_eq_true rfl) (Nat.le_refl _) (Nat.le_refl _) rfl (zp_X12_ofG k13 H14 p12 w ⟨by omega, by omega⟩ (by omega) (by omega) (by omega) ?_)
        have y30 := rI_r (refT_G H14 (show 0 ≤ f by omega) (by omega) (show 0 ≤ w by omega) (by omega))
        refine e_goto 52 dX12_forge_47 rfl ?_
        refine z_iret dX12_forge_52 rfl ⟨rfl, ?_⟩
        refine z_q (kq _ FR15) ?_
        first | (unfold tlZ; rw [if_neg (show ¬ (10 ≤ w ∧ w ≤ 139) by omega), if_pos (show 0 ≤ w ∧ w ≤ 2 by omega)]) | (unfold tlZ; rw [if_neg (show ¬ (10 ≤ w ∧ w ≤ 139) by omega), if_neg (show ¬ (0 ≤ w ∧ w ≤ 2) by omega)]) | (have z := tlZ_a (g := (sG σ f)) (w := w) (n := nd (sG σ f)) (by omega) (by rw [if_pos (by omega)]); first | exact (z.2 (by omega)).symm | (rw [q1]; exact (z.1 (by omega)).symm)) | (have z := tlZ_a (g := (sG σ f)) (w := w) (n := nu (sG σ f)) (by omega) (by rw [if_neg (by omega), if_pos (by omega)]); first | exact (z.2 (by omega)).symm | (rw [q1]; exact (z.1 (by omega)).symm)) | (have z := tlZ_a (g := (sG σ f)) (w := w) (n := nc (sG σ f)) (by omega) (by rw [if_neg (by omega), if_neg (by omega)]); first | exact (z.2 (by omega)).symm | (rw [q1]; exact (z.1 (by omega)).symm))
  · exact absurd trivial c16
set_option maxHeartbeats 400000 in
theorem zp_X12_forge_out {ad : mA} {dd : Nat} {h : mH} {Q : mQ} {m : Nat} {σ : Sg} (hk : rk h m) (HR : refT h m 0 σ)  (f : Int) (f_r : -2147483648 ≤ f ∧ f < 2147483648) (w : Int) (w_r : -2147483648 ≤ w ∧ w < 2147483648) (p1 : ¬ (0 ≤ f ∧ f < cn σ 0)) (kq : ∀ h1, frm (fun a i => a = m ∨ (m + 9 ≤ a ∧ a < m + 30)) h h1 → Q (some (.int (zI (-2)))) h1) : mCal TB0 ad (dd + 4) M_X12_forge [.ref m, .int (zI f), .int (zI w)] h 0 0 Q := by
  refine ⟨Nat.le_of_ble_eq_true rfl, ?_⟩
  show mEv TB0 ad M_X12_forge (dd + 4) (0, 0) (mCal TB0 ad (dd + 3)) (fun v h' z => z.1 = 0 ∧ Q v h') 0 [some (.ref m), some (.int (zI f)), some (.int (zI w)), none] [] h (0, 0)
  have FR0 : frm (fun a i => a = m ∨ (m + 9 ≤ a ∧ a < m + 30)) h h := frm_0 h
  have w1 := wS_n (refT_w HR)
  refine e_aload_n dX12_forge_0 rfl ?_
  refine z_iconst (0) dX12_forge_1 rfl ?_
  refine z_put dX12_forge_2 tf_12_103 (rk_s hk) rfl (Or.inl rfl) (fun h1 e2 => ?_)
  have f3 := frm_1 e2
  have k4 := rk_q (frm_s f3) hk
  have H5 := refT_c f3 (fun a k q1 q2 => by omega) HR
  have FR6 := frm_t FR0 (frm_m (S' := (fun a i => a = m ∨ (m + 9 ≤ a ∧ a < m + 30))) f3 (fun a k q => by omega))
  refine e_aload_n dX12_forge_5 rfl ?_
  refine e_iload_n dX12_forge_6 rfl ?_
  refine e_callV [.int _] dX12_forge_7 tm_12_292 rfl (Nat.le_of_ble_eq_true rfl) (rk_s k4) (Nat.le_of_ble_eq_true rfl) (Nat.le_refl _) (Nat.le_refl _) rfl (zp_X12_hand_out k4 H5 f ⟨by omega, by omega⟩ (by omega) ?_)
  refine z_ifb_ne 16 dX12_forge_10 rfl (fun c7 => ?_) (fun c7 => ?_)
  · exfalso; exact c7
  · skip
    refine z_bipush (-2) dX12_forge_13 rfl ?_
    refine z_iret dX12_forge_15 rfl ⟨rfl, ?_⟩
    exact kq _ FR6
theorem op4 {ad : mA} {B : Nat} : op_4 ad B (Inv B) := by
  intro a b 
  rw [← zI_toInt a]
  rw [← zI_toInt b]
  have ra := in_of a
  generalize a.toInt = a at *
  have rb := in_of b
  generalize b.toInt = b at *
  refine opq_I (ansF a (-2) (fun g r => r = tlZ g b)) (ansF_u (fun g r r' x y => x.trans y.symm)) (fun h σ hk HX Q kq => ?_) (fun h σ hr HR Q kq => ?_)
  · by_cases q : 0 ≤ a ∧ a < cn σ 0
    · exact zp_X11_forge_in hk HX a ra b rb q.1 q.2 (kq _ _ (frm_0 h) (Or.inl ⟨q.1, q.2, rfl⟩))
    · exact zp_X11_forge_out hk HX a ra b rb q (kq _ _ (frm_0 h) (Or.inr ⟨q, rfl⟩))
  · by_cases q : 0 ≤ a ∧ a < cn σ 0
    · exact zp_X12_forge_in hr HR a ra b rb q.1 q.2 (fun h1 f => kq _ h1 f (Or.inl ⟨q.1, q.2, rfl⟩))
    · exact zp_X12_forge_out hr HR a ra b rb q (fun h1 f => kq _ _ f (Or.inr ⟨q, rfl⟩))
set_option maxHeartbeats 400000 in
theorem zp_X11_deed_in {ad : mA} {dd : Nat} {h : mH} {Q : mQ} {x : Nat} {σ : Sg} (hk : bk h x) (HX : clsT h (x + 1) σ)  (f : Int) (f_r : -2147483648 ≤ f ∧ f < 2147483648) (k : Int) (k_r : -2147483648 ≤ k ∧ k < 2147483648) (w : Int) (w_r : -2147483648 ≤ w ∧ w < 2147483648) (p1 : 0 ≤ f) (p2 : f < cn σ 1) (kq : Q (some (.int (zI (ydZ (sY σ f) k w)))) h) : mCal TB0 ad (dd + 2) M_X11_deed [.ref x, .int (zI f), .int (zI k), .int (zI w)] h 0 0 Q := by
  refine ⟨Nat.le_of_ble_eq_true rfl, ?_⟩
  show mEv TB0 ad M_X11_deed (dd + 2) (0, 0) (mCal TB0 ad (dd + 1)) (fun v h' z => z.1 = 0 ∧ Q v h') 0 [some (.ref x), some (.int (zI f)), some (.int (zI k)), some (.int (zI w)), none] [] h (0, 0)
  have w1 := wS_n (clsT_w HX)
  refine e_aload_n dX11_deed_0 rfl ?_
  refine e_get (.ref (x + 1)) dX11_deed_1 tf_11_10 (congrArg Prod.fst (bk_s0 hk)) (congrArg va_rf (bk_r0_0 hk)) ?_
  refine e_iload_n dX11_deed_4 rfl ?_
  refine e_callV [.int _] dX11_deed_5 tm_11_111 rfl (Nat.le_of_ble_eq_true rfl) (congrArg Prod.fst (bk_s1 hk)) (Nat.le_of_ble_eq_true rfl) (Nat.le_refl _) (Nat.le_refl _) rfl (zp_X8_yearAt_in (bk_td1 hk) HX f ⟨by omega, by omega⟩ (by omega) (by omega) ?_)
  have k1 := yAt_k (bk_td1 hk) f
  have H2 := clsT_Y HX (show 0 ≤ f by omega) (by omega)
  have y3 := yAt_b (x + 1) f
  refine e_astore (L' := [_, _, _, _, _]) dX11_deed_8 (Nat.le_of_ble_eq_true rfl) rfl ?_
  refine e_aload dX11_deed_10 rfl ?_
  refine e_ifnonnull 20 dX11_deed_12 rfl ?_
  refine e_aload dX11_deed_20 rfl ?_
  refine e_iload_n dX11_deed_22 rfl ?_
  refine e_iload_n dX11_deed_23 rfl ?_
  refine e_callV [.int _, .int _] dX11_deed_24 tm_11_115 rfl (Nat.le_of_ble_eq_true rfl) (congrArg Prod.fst (yr_s0 k1)) (Nat.le_of_ble_eq_true rfl) (Nat.le_refl _) (Nat.le_refl _) rfl (zp_X10_tell k1 H2 k ⟨by omega, by omega⟩ w ⟨by omega, by omega⟩ ?_)
  refine z_iret dX11_deed_27 rfl ⟨rfl, ?_⟩
  refine z_q kq ?_
  rfl
set_option maxHeartbeats 400000 in
theorem zp_X11_deed_out {ad : mA} {dd : Nat} {h : mH} {Q : mQ} {x : Nat} {σ : Sg} (hk : bk h x) (HX : clsT h (x + 1) σ)  (f : Int) (f_r : -2147483648 ≤ f ∧ f < 2147483648) (k : Int) (k_r : -2147483648 ≤ k ∧ k < 2147483648) (w : Int) (w_r : -2147483648 ≤ w ∧ w < 2147483648) (p1 : ¬ (0 ≤ f ∧ f < cn σ 1)) (kq : Q (some (.int (zI (-2)))) h) : mCal TB0 ad (dd + 2) M_X11_deed [.ref x, .int (zI f), .int (zI k), .int (zI w)] h 0 0 Q := by
  refine ⟨Nat.le_of_ble_eq_true rfl, ?_⟩
  show mEv TB0 ad M_X11_deed (dd + 2) (0, 0) (mCal TB0 ad (dd + 1)) (fun v h' z => z.1 = 0 ∧ Q v h') 0 [some (.ref x), some (.int (zI f)), some (.int (zI k)), some (.int (zI w)), none] [] h (0, 0)
  have w1 := wS_n (clsT_w HX)
  refine e_aload_n dX11_deed_0 rfl ?_
  refine e_get (.ref (x + 1)) dX11_deed_1 tf_11_10 (congrArg Prod.fst (bk_s0 hk)) (congrArg va_rf (bk_r0_0 hk)) ?_
  refine e_iload_n dX11_deed_4 rfl ?_
  refine e_callV [.int _] dX11_deed_5 tm_11_111 rfl (Nat.le_of_ble_eq_true rfl) (congrArg Prod.fst (bk_s1 hk)) (Nat.le_of_ble_eq_true rfl) (Nat.le_refl _) (Nat.le_refl _) rfl (zp_X8_yearAt_out (bk_td1 hk) HX f ⟨by omega, by omega⟩ (by omega) ?_)
  refine e_astoreN (L' := [_, _, _, _, _]) dX11_deed_8 (Nat.le_of_ble_eq_true rfl) rfl ?_
  refine e_aloadN dX11_deed_10 rfl ?_
  refine e_ifnonnullN 20 dX11_deed_12 rfl ?_
  refine z_bipush (-2) dX11_deed_15 rfl ?_
  refine e_goto 27 dX11_deed_17 rfl ?_
  refine z_iret dX11_deed_27 rfl ⟨rfl, ?_⟩
  refine z_q kq ?_
  rfl
set_option maxHeartbeats 400000 in
theorem zp_X12_deed_in {ad : mA} {dd : Nat} {h : mH} {Q : mQ} {m : Nat} {σ : Sg} (hk : rk h m) (HR : refT h m 0 σ)  (f : Int) (f_r : -2147483648 ≤ f ∧ f < 2147483648) (k : Int) (k_r : -2147483648 ≤ k ∧ k < 2147483648) (w : Int) (w_r : -2147483648 ≤ w ∧ w < 2147483648) (p1 : 0 ≤ f) (p2 : f < cn σ 1) (kq : ∀ h1, frm (fun a i => a = m ∨ (m + 9 ≤ a ∧ a < m + 30)) h h1 → Q (some (.int (zI (ydZ (sY σ f) k w)))) h1) : mCal TB0 ad (dd + 4) M_X12_deed [.ref m, .int (zI f), .int (zI k), .int (zI w)] h 0 0 Q := by
  refine ⟨Nat.le_of_ble_eq_true rfl, ?_⟩
  show mEv TB0 ad M_X12_deed (dd + 4) (0, 0) (mCal TB0 ad (dd + 3)) (fun v h' z => z.1 = 0 ∧ Q v h') 0 [some (.ref m), some (.int (zI f)), some (.int (zI k)), some (.int (zI w))] [] h (0, 0)
  have FR0 : frm (fun a i => a = m ∨ (m + 9 ≤ a ∧ a < m + 30)) h h := frm_0 h
  have w1 := wS_n (refT_w HR)
  refine e_aload_n dX12_deed_0 rfl ?_
  refine z_iconst (0) dX12_deed_1 rfl ?_
  refine z_put dX12_deed_2 tf_12_103 (rk_s hk) rfl (Or.inl rfl) (fun h1 e2 => ?_)
  have f3 := frm_1 e2
  have k4 := rk_q (frm_s f3) hk
  have H5 := refT_c f3 (fun a k q1 q2 => by omega) HR
  have FR6 := frm_t FR0 (frm_m (S' := (fun a i => a = m ∨ (m + 9 ≤ a ∧ a < m + 30))) f3 (fun a k q => by omega))
  refine e_aload_n dX12_deed_5 rfl ?_
  refine e_iload_n dX12_deed_6 rfl ?_
  refine e_callV [.int _] dX12_deed_7 tm_12_304 rfl (Nat.le_of_ble_eq_true rfl) (rk_s k4) (Nat.le_of_ble_eq_true rfl) (Nat.le_refl _) (Nat.le_refl _) rfl (zp_X12_hasYear_in k4 H5 f ⟨by omega, by omega⟩ (by omega) (by omega) (fun  h7 f8 p9 => ?_))
  have k10 := rk_q (frm_s f8) k4
  have H11 := refT_c f8 (fun a k q1 q2 => by omega) H5
  have FR12 := frm_t FR6 (frm_m (S' := (fun a i => a = m ∨ (m + 9 ≤ a ∧ a < m + 30))) f8 (fun a k q => by omega))
  refine z_ifb_ne 16 dX12_deed_10 rfl (fun c13 => ?_) (fun c13 => ?_)
  · skip
    refine e_iload_n dX12_deed_16 rfl ?_
    refine z_iconst (-1) dX12_deed_17 rfl ?_
    refine z_icmp_ne 35 dX12_deed_18 rfl ⟨by omega, by omega⟩ ⟨by omega, by omega⟩ (fun c14 => ?_) (fun c14 => ?_)
    · skip
      refine e_iload_n dX12_deed_35 rfl ?_
      refine z_iconst (0) dX12_deed_36 rfl ?_
      refine e_aload_n dX12_deed_37 rfl ?_
      refine e_callV [] dX12_deed_38 tm_12_307 rfl (Nat.le_of_ble_eq_true rfl) (rk_s k10) (Nat.le_of_ble_eq_true rfl) (Nat.le_refl _) (Nat.le_refl _) rfl (zp_X12_deeds k10 H11 p9 (by omega) ?_)
      have y15 := ((refT_w H11).2.2.2.1 f (by omega) (by omega)).1
      refine z_iconst (1) dX12_deed_41 rfl ?_
      refine z_isub dX12_deed_42 ?_
      refine e_callS [.int _, .int _, .int _] dX12_deed_43 tm_12_115 rfl (Nat.le_of_ble_eq_true rfl) (Nat.le_refl _) (Nat.le_refl _) rfl (zp_X12_in k ⟨by omega, by omega⟩ 0 ⟨by omega, by omega⟩ ((sY σ f 0) - 1) ⟨by omega, by omega⟩ ?_)
      refine z_ifb_eq 67 dX12_deed_46 rfl (fun c16 => ?_) (fun c16 => ?_)
      · skip
        refine z_bipush (-2) dX12_deed_67 rfl ?_
        refine z_iret dX12_deed_69 rfl ⟨rfl, ?_⟩
        refine z_q (kq _ FR12) ?_
        unfold ydZ; first | (rw [if_pos (by omega), if_pos (by omega)]) | (rw [if_pos (by omega), if_neg (by omega)]) | (rw [if_neg (by omega), if_pos (by omega)]) | (rw [if_neg (by omega), if_neg (by omega)])
      · skip
        refine e_iload_n dX12_deed_49 rfl ?_
        refine z_iconst (0) dX12_deed_50 rfl ?_
        refine z_iconst (2) dX12_deed_51 rfl ?_
        refine e_callS [.int _, .int _, .int _] dX12_deed_52 tm_12_115 rfl (Nat.le_of_ble_eq_true rfl) (Nat.le_refl _) (Nat.le_refl _) rfl (zp_X12_in w ⟨by omega, by omega⟩ 0 ⟨by omega, by omega⟩ 2 ⟨by omega, by omega⟩ ?_)
        refine z_ifb_eq 67 dX12_deed_55 rfl (fun c17 => ?_) (fun c17 => ?_)
        · skip
          refine z_bipush (-2) dX12_deed_67 rfl ?_
          refine z_iret dX12_deed_69 rfl ⟨rfl, ?_⟩
          refine z_q (kq _ FR12) ?_
          unfold ydZ; first | (rw [if_pos (by omega), if_pos (by omega)]) | (rw [if_pos (by omega), if_neg (by omega)]) | (rw [if_neg (by omega), if_pos (by omega)]) | (rw [if_neg (by omega), if_neg (by omega)])
        · skip
          refine e_aload_n dX12_deed_58 rfl ?_
          refine e_iload_n dX12_deed_59 rfl ?_
          refine e_iload_n dX12_deed_60 rfl ?_
          refine e_callV [.int _, .int _] dX12_deed_61 tm_12_310 rfl (Nat.le_of_ble_eq_true rfl) (rk_s k10) (Nat.le_of_ble_eq_true rfl) (Nat.le_refl _) (Nat.le_refl _) rfl (zp_X12_deedOf k10 H11 p9 k ⟨by omega, by omega⟩ w ⟨by omega, by omega⟩ (by omega) (by omega) (by omega) (by omega) (by omega) ?_)
          refine e_goto 69 dX12_deed_64 rfl ?_
          refine z_iret dX12_deed_69 rfl ⟨rfl, ?_⟩
          refine z_q (kq _ FR12) ?_
          unfold ydZ; first | (rw [if_pos (by omega), if_pos (by omega)]) | (rw [if_pos (by omega), if_neg (by omega)]) | (rw [if_neg (by omega), if_pos (by omega)]) | (rw [if_neg (by omega), if_neg (by omega)])
    · skip
      refine e_iload_n dX12_deed_21 rfl ?_
      refine z_if_ne 32 dX12_deed_22 rfl ⟨by omega, by omega⟩ (fun c18 => ?_) (fun c18 => ?_)
      · skip
        refine z_bipush (-2) dX12_deed_32 rfl ?_
        refine z_iret dX12_deed_34 rfl ⟨rfl, ?_⟩
        refine z_q (kq _ FR12) ?_
        unfold ydZ; first | (rw [if_pos (by omega), if_pos (by omega)]) | (rw [if_pos (by omega), if_neg (by omega)]) | (rw [if_neg (by omega), if_pos (by omega)]) | (rw [if_neg (by omega), if_neg (by omega)])
      · skip
        refine e_aload_n dX12_deed_25 rfl ?_
        refine e_callV [] dX12_deed_26 tm_12_307 rfl (Nat.le_of_ble_eq_true rfl) (rk_s k10) (Nat.le_of_ble_eq_true rfl) (Nat.le_refl _) (Nat.le_refl _) rfl (zp_X12_deeds k10 H11 p9 (by omega) ?_)
        have y19 := ((refT_w H11).2.2.2.1 f (by omega) (by omega)).1
        refine e_goto 34 dX12_deed_29 rfl ?_
        refine z_iret dX12_deed_34 rfl ⟨rfl, ?_⟩
        refine z_q (kq _ FR12) ?_
        unfold ydZ; first | (rw [if_pos (by omega), if_pos (by omega)]) | (rw [if_pos (by omega), if_neg (by omega)]) | (rw [if_neg (by omega), if_pos (by omega)]) | (rw [if_neg (by omega), if_neg (by omega)])
  · exact absurd trivial c13
set_option maxHeartbeats 400000 in
theorem zp_X12_deed_out {ad : mA} {dd : Nat} {h : mH} {Q : mQ} {m : Nat} {σ : Sg} (hk : rk h m) (HR : refT h m 0 σ)  (f : Int) (f_r : -2147483648 ≤ f ∧ f < 2147483648) (k : Int) (k_r : -2147483648 ≤ k ∧ k < 2147483648) (w : Int) (w_r : -2147483648 ≤ w ∧ w < 2147483648) (p1 : ¬ (0 ≤ f ∧ f < cn σ 1)) (kq : ∀ h1, frm (fun a i => a = m ∨ (m + 9 ≤ a ∧ a < m + 30)) h h1 → Q (some (.int (zI (-2)))) h1) : mCal TB0 ad (dd + 4) M_X12_deed [.ref m, .int (zI f), .int (zI k), .int (zI w)] h 0 0 Q := by
  refine ⟨Nat.le_of_ble_eq_true rfl, ?_⟩
  show mEv TB0 ad M_X12_deed (dd + 4) (0, 0) (mCal TB0 ad (dd + 3)) (fun v h' z => z.1 = 0 ∧ Q v h') 0 [some (.ref m), some (.int (zI f)), some (.int (zI k)), some (.int (zI w))] [] h (0, 0)
  have FR0 : frm (fun a i => a = m ∨ (m + 9 ≤ a ∧ a < m + 30)) h h := frm_0 h
  have w1 := wS_n (refT_w HR)
  refine e_aload_n dX12_deed_0 rfl ?_
  refine z_iconst (0) dX12_deed_1 rfl ?_
  refine z_put dX12_deed_2 tf_12_103 (rk_s hk) rfl (Or.inl rfl) (fun h1 e2 => ?_)
  have f3 := frm_1 e2
  have k4 := rk_q (frm_s f3) hk
  have H5 := refT_c f3 (fun a k q1 q2 => by omega) HR
  have FR6 := frm_t FR0 (frm_m (S' := (fun a i => a = m ∨ (m + 9 ≤ a ∧ a < m + 30))) f3 (fun a k q => by omega))
  refine e_aload_n dX12_deed_5 rfl ?_
  refine e_iload_n dX12_deed_6 rfl ?_
  refine e_callV [.int _] dX12_deed_7 tm_12_304 rfl (Nat.le_of_ble_eq_true rfl) (rk_s k4) (Nat.le_of_ble_eq_true rfl) (Nat.le_refl _) (Nat.le_refl _) rfl (zp_X12_hasYear_out k4 H5 f ⟨by omega, by omega⟩ (by omega) (fun  h7 f8  => ?_))
  have k9 := rk_q (frm_s f8) k4
  have H10 := refT_c f8 (fun a k q1 q2 => by omega) H5
  have FR11 := frm_t FR6 (frm_m (S' := (fun a i => a = m ∨ (m + 9 ≤ a ∧ a < m + 30))) f8 (fun a k q => by omega))
  refine z_ifb_ne 16 dX12_deed_10 rfl (fun c12 => ?_) (fun c12 => ?_)
  · exact absurd c12 id
  · skip
    refine z_bipush (-2) dX12_deed_13 rfl ?_
    refine z_iret dX12_deed_15 rfl ⟨rfl, ?_⟩
    exact kq _ FR11
theorem op6 {ad : mA} {B : Nat} : op_6 ad B (Inv B) := by
  intro a b c 
  rw [← zI_toInt a]
  rw [← zI_toInt b]
  rw [← zI_toInt c]
  have ra := in_of a
  generalize a.toInt = a at *
  have rb := in_of b
  generalize b.toInt = b at *
  have rc := in_of c
  generalize c.toInt = c at *
  refine opq_I (ansY a 1 (-2) (fun σ r => r = ydZ (sY σ a) b c)) (ansY_u (fun g r r' x y => x.trans y.symm)) (fun h σ hk HX Q kq => ?_) (fun h σ hr HR Q kq => ?_)
  · by_cases q : 0 ≤ a ∧ a < cn σ 1
    · exact zp_X11_deed_in hk HX a ra b rb c rc q.1 q.2 (kq _ _ (frm_0 h) (Or.inl ⟨q, rfl⟩))
    · exact zp_X11_deed_out hk HX a ra b rb c rc q (kq _ _ (frm_0 h) (Or.inr ⟨q, rfl⟩))
  · by_cases q : 0 ≤ a ∧ a < cn σ 1
    · exact zp_X12_deed_in hr HR a ra b rb c rc q.1 q.2 (fun h1 f => kq _ _ f (Or.inl ⟨q, rfl⟩))
    · exact zp_X12_deed_out hr HR a ra b rb c rc q (fun h1 f => kq _ _ f (Or.inr ⟨q, rfl⟩))
set_option maxHeartbeats 400000 in
theorem zp_X11_clue_in {ad : mA} {dd : Nat} {h : mH} {Q : mQ} {x : Nat} {σ : Sg} (hk : bk h x) (HX : clsT h (x + 1) σ)  (f : Int) (f_r : -2147483648 ≤ f ∧ f < 2147483648) (k : Int) (k_r : -2147483648 ≤ k ∧ k < 2147483648) (w : Int) (w_r : -2147483648 ≤ w ∧ w < 2147483648) (p1 : 0 ≤ f) (p2 : f < cn σ 2) (kq : Q (some (.int (zI (ydZ (sC σ f) k w)))) h) : mCal TB0 ad (dd + 2) M_X11_clue [.ref x, .int (zI f), .int (zI k), .int (zI w)] h 0 0 Q := by
  refine ⟨Nat.le_of_ble_eq_true rfl, ?_⟩
  show mEv TB0 ad M_X11_clue (dd + 2) (0, 0) (mCal TB0 ad (dd + 1)) (fun v h' z => z.1 = 0 ∧ Q v h') 0 [some (.ref x), some (.int (zI f)), some (.int (zI k)), some (.int (zI w)), none] [] h (0, 0)
  have w1 := wS_n (clsT_w HX)
  refine e_aload_n dX11_clue_0 rfl ?_
  refine e_get (.ref (x + 1)) dX11_clue_1 tf_11_10 (congrArg Prod.fst (bk_s0 hk)) (congrArg va_rf (bk_r0_0 hk)) ?_
  refine e_iload_n dX11_clue_4 rfl ?_
  refine e_callV [.int _] dX11_clue_5 tm_11_223 rfl (Nat.le_of_ble_eq_true rfl) (congrArg Prod.fst (bk_s1 hk)) (Nat.le_of_ble_eq_true rfl) (Nat.le_refl _) (Nat.le_refl _) rfl (zp_X8_cluesAt_in (bk_td1 hk) HX f ⟨by omega, by omega⟩ (by omega) (by omega) ?_)
  have k1 := kAt_k (bk_td1 hk) f
  have H2 := clsT_K HX (show 0 ≤ f by omega) (by omega)
  have y3 := kAt_b (x + 1) f
  refine e_astore (L' := [_, _, _, _, _]) dX11_clue_8 (Nat.le_of_ble_eq_true rfl) rfl ?_
  refine e_aload dX11_clue_10 rfl ?_
  refine e_ifnonnull 20 dX11_clue_12 rfl ?_
  refine e_aload dX11_clue_20 rfl ?_
  refine e_iload_n dX11_clue_22 rfl ?_
  refine e_iload_n dX11_clue_23 rfl ?_
  refine e_callV [.int _, .int _] dX11_clue_24 tm_11_227 rfl (Nat.le_of_ble_eq_true rfl) (congrArg Prod.fst (cu_s0 k1)) (Nat.le_of_ble_eq_true rfl) (Nat.le_refl _) (Nat.le_refl _) rfl (zp_X1_tell k1 H2 k ⟨by omega, by omega⟩ w ⟨by omega, by omega⟩ ?_)
  refine z_iret dX11_clue_27 rfl ⟨rfl, ?_⟩
  refine z_q kq ?_
  rfl
set_option maxHeartbeats 400000 in
theorem zp_X11_clue_out {ad : mA} {dd : Nat} {h : mH} {Q : mQ} {x : Nat} {σ : Sg} (hk : bk h x) (HX : clsT h (x + 1) σ)  (f : Int) (f_r : -2147483648 ≤ f ∧ f < 2147483648) (k : Int) (k_r : -2147483648 ≤ k ∧ k < 2147483648) (w : Int) (w_r : -2147483648 ≤ w ∧ w < 2147483648) (p1 : ¬ (0 ≤ f ∧ f < cn σ 2)) (kq : Q (some (.int (zI (-2)))) h) : mCal TB0 ad (dd + 2) M_X11_clue [.ref x, .int (zI f), .int (zI k), .int (zI w)] h 0 0 Q := by
  refine ⟨Nat.le_of_ble_eq_true rfl, ?_⟩
  show mEv TB0 ad M_X11_clue (dd + 2) (0, 0) (mCal TB0 ad (dd + 1)) (fun v h' z => z.1 = 0 ∧ Q v h') 0 [some (.ref x), some (.int (zI f)), some (.int (zI k)), some (.int (zI w)), none] [] h (0, 0)
  have w1 := wS_n (clsT_w HX)
  refine e_aload_n dX11_clue_0 rfl ?_
  refine e_get (.ref (x + 1)) dX11_clue_1 tf_11_10 (congrArg Prod.fst (bk_s0 hk)) (congrArg va_rf (bk_r0_0 hk)) ?_
  refine e_iload_n dX11_clue_4 rfl ?_
  refine e_callV [.int _] dX11_clue_5 tm_11_223 rfl (Nat.le_of_ble_eq_true rfl) (congrArg Prod.fst (bk_s1 hk)) (Nat.le_of_ble_eq_true rfl) (Nat.le_refl _) (Nat.le_refl _) rfl (zp_X8_cluesAt_out (bk_td1 hk) HX f ⟨by omega, by omega⟩ (by omega) ?_)
  refine e_astoreN (L' := [_, _, _, _, _]) dX11_clue_8 (Nat.le_of_ble_eq_true rfl) rfl ?_
  refine e_aloadN dX11_clue_10 rfl ?_
  refine e_ifnonnullN 20 dX11_clue_12 rfl ?_
  refine z_bipush (-2) dX11_clue_15 rfl ?_
  refine e_goto 27 dX11_clue_17 rfl ?_
  refine z_iret dX11_clue_27 rfl ⟨rfl, ?_⟩
  refine z_q kq ?_
  rfl
set_option maxHeartbeats 400000 in
theorem zp_X12_clue_in {ad : mA} {dd : Nat} {h : mH} {Q : mQ} {m : Nat} {σ : Sg} (hk : rk h m) (HR : refT h m 0 σ)  (f : Int) (f_r : -2147483648 ≤ f ∧ f < 2147483648) (k : Int) (k_r : -2147483648 ≤ k ∧ k < 2147483648) (w : Int) (w_r : -2147483648 ≤ w ∧ w < 2147483648) (p1 : 0 ≤ f) (p2 : f < cn σ 2) (kq : ∀ h1, frm (fun a i => a = m ∨ (m + 9 ≤ a ∧ a < m + 30)) h h1 → Q (some (.int (zI (ydZ (sC σ f) k w)))) h1) : mCal TB0 ad (dd + 4) M_X12_clue [.ref m, .int (zI f), .int (zI k), .int (zI w)] h 0 0 Q := by
  refine ⟨Nat.le_of_ble_eq_true rfl, ?_⟩
  show mEv TB0 ad M_X12_clue (dd + 4) (0, 0) (mCal TB0 ad (dd + 3)) (fun v h' z => z.1 = 0 ∧ Q v h') 0 [some (.ref m), some (.int (zI f)), some (.int (zI k)), some (.int (zI w))] [] h (0, 0)
  have FR0 : frm (fun a i => a = m ∨ (m + 9 ≤ a ∧ a < m + 30)) h h := frm_0 h
  have w1 := wS_n (refT_w HR)
  refine e_aload_n dX12_clue_0 rfl ?_
  refine z_iconst (0) dX12_clue_1 rfl ?_
  refine z_put dX12_clue_2 tf_12_103 (rk_s hk) rfl (Or.inl rfl) (fun h1 e2 => ?_)
  have f3 := frm_1 e2
  have k4 := rk_q (frm_s f3) hk
  have H5 := refT_c f3 (fun a k q1 q2 => by omega) HR
  have FR6 := frm_t FR0 (frm_m (S' := (fun a i => a = m ∨ (m + 9 ≤ a ∧ a < m + 30))) f3 (fun a k q => by omega))
  refine e_aload_n dX12_clue_5 rfl ?_
  refine e_iload_n dX12_clue_6 rfl ?_
  refine e_callV [.int _] dX12_clue_7 tm_12_505 rfl (Nat.le_of_ble_eq_true rfl) (rk_s k4) (Nat.le_of_ble_eq_true rfl) (Nat.le_refl _) (Nat.le_refl _) rfl (zp_X12_hasClues_in k4 H5 f ⟨by omega, by omega⟩ (by omega) (by omega) (fun  h7 f8 p9 => ?_))
  have k10 := rk_q (frm_s f8) k4
  have H11 := refT_c f8 (fun a k q1 q2 => by omega) H5
  have FR12 := frm_t FR6 (frm_m (S' := (fun a i => a = m ∨ (m + 9 ≤ a ∧ a < m + 30))) f8 (fun a k q => by omega))
  refine z_ifb_ne 16 dX12_clue_10 rfl (fun c13 => ?_) (fun c13 => ?_)
  · skip
    refine e_iload_n dX12_clue_16 rfl ?_
    refine z_iconst (-1) dX12_clue_17 rfl ?_
    refine z_icmp_ne 35 dX12_clue_18 rfl ⟨by omega, by omega⟩ ⟨by omega, by omega⟩ (fun c14 => ?_) (fun c14 => ?_)
    · skip
      refine e_iload_n dX12_clue_35 rfl ?_
      refine z_iconst (0) dX12_clue_36 rfl ?_
      refine e_aload_n dX12_clue_37 rfl ?_
      refine e_callV [] dX12_clue_38 tm_12_508 rfl (Nat.le_of_ble_eq_true rfl) (rk_s k10) (Nat.le_of_ble_eq_true rfl) (Nat.le_refl _) (Nat.le_refl _) rfl (zp_X12_clueMany k10 H11 p9 (by omega) ?_)
      have y15 := ((refT_w H11).2.2.2.2 f (by omega) (by omega)).1
      refine z_iconst (1) dX12_clue_41 rfl ?_
      refine z_isub dX12_clue_42 ?_
      refine e_callS [.int _, .int _, .int _] dX12_clue_43 tm_12_115 rfl (Nat.le_of_ble_eq_true rfl) (Nat.le_refl _) (Nat.le_refl _) rfl (zp_X12_in k ⟨by omega, by omega⟩ 0 ⟨by omega, by omega⟩ ((sC σ f 0) - 1) ⟨by omega, by omega⟩ ?_)
      refine z_ifb_eq 67 dX12_clue_46 rfl (fun c16 => ?_) (fun c16 => ?_)
      · skip
        refine z_bipush (-2) dX12_clue_67 rfl ?_
        refine z_iret dX12_clue_69 rfl ⟨rfl, ?_⟩
        refine z_q (kq _ FR12) ?_
        unfold ydZ; first | (rw [if_pos (by omega), if_pos (by omega)]) | (rw [if_pos (by omega), if_neg (by omega)]) | (rw [if_neg (by omega), if_pos (by omega)]) | (rw [if_neg (by omega), if_neg (by omega)])
      · skip
        refine e_iload_n dX12_clue_49 rfl ?_
        refine z_iconst (0) dX12_clue_50 rfl ?_
        refine z_iconst (2) dX12_clue_51 rfl ?_
        refine e_callS [.int _, .int _, .int _] dX12_clue_52 tm_12_115 rfl (Nat.le_of_ble_eq_true rfl) (Nat.le_refl _) (Nat.le_refl _) rfl (zp_X12_in w ⟨by omega, by omega⟩ 0 ⟨by omega, by omega⟩ 2 ⟨by omega, by omega⟩ ?_)
        refine z_ifb_eq 67 dX12_clue_55 rfl (fun c17 => ?_) (fun c17 => ?_)
        · skip
          refine z_bipush (-2) dX12_clue_67 rfl ?_
          refine z_iret dX12_clue_69 rfl ⟨rfl, ?_⟩
          refine z_q (kq _ FR12) ?_
          unfold ydZ; first | (rw [if_pos (by omega), if_pos (by omega)]) | (rw [if_pos (by omega), if_neg (by omega)]) | (rw [if_neg (by omega), if_pos (by omega)]) | (rw [if_neg (by omega), if_neg (by omega)])
        · skip
          refine e_aload_n dX12_clue_58 rfl ?_
          refine e_iload_n dX12_clue_59 rfl ?_
          refine e_iload_n dX12_clue_60 rfl ?_
          refine e_callV [.int _, .int _] dX12_clue_61 tm_12_511 rfl (Nat.le_of_ble_eq_true rfl) (rk_s k10) (Nat.le_of_ble_eq_true rfl) (Nat.le_refl _) (Nat.le_refl _) rfl (zp_X12_clueOf k10 H11 p9 k ⟨by omega, by omega⟩ w ⟨by omega, by omega⟩ (by omega) (by omega) (by omega) (by omega) (by omega) ?_)
          refine e_goto 69 dX12_clue_64 rfl ?_
          refine z_iret dX12_clue_69 rfl ⟨rfl, ?_⟩
          refine z_q (kq _ FR12) ?_
          unfold ydZ; first | (rw [if_pos (by omega), if_pos (by omega)]) | (rw [if_pos (by omega), if_neg (by omega)]) | (rw [if_neg (by omega), if_pos (by omega)]) | (rw [if_neg (by omega), if_neg (by omega)])
    · skip
      refine e_iload_n dX12_clue_21 rfl ?_
      refine z_if_ne 32 dX12_clue_22 rfl ⟨by omega, by omega⟩ (fun c18 => ?_) (fun c18 => ?_)
      · skip
        refine z_bipush (-2) dX12_clue_32 rfl ?_
        refine z_iret dX12_clue_34 rfl ⟨rfl, ?_⟩
        refine z_q (kq _ FR12) ?_
        unfold ydZ; first | (rw [if_pos (by omega), if_pos (by omega)]) | (rw [if_pos (by omega), if_neg (by omega)]) | (rw [if_neg (by omega), if_pos (by omega)]) | (rw [if_neg (by omega), if_neg (by omega)])
      · skip
        refine e_aload_n dX12_clue_25 rfl ?_
        refine e_callV [] dX12_clue_26 tm_12_508 rfl (Nat.le_of_ble_eq_true rfl) (rk_s k10) (Nat.le_of_ble_eq_true rfl) (Nat.le_refl _) (Nat.le_refl _) rfl (zp_X12_clueMany k10 H11 p9 (by omega) ?_)
        have y19 := ((refT_w H11).2.2.2.2 f (by omega) (by omega)).1
        refine e_goto 34 dX12_clue_29 rfl ?_
        refine z_iret dX12_clue_34 rfl ⟨rfl, ?_⟩
        refine z_q (kq _ FR12) ?_
        unfold ydZ; first | (rw [if_pos (by omega), if_pos (by omega)]) | (rw [if_pos (by omega), if_neg (by omega)]) | (rw [if_neg (by omega), if_pos (by omega)]) | (rw [if_neg (by omega), if_neg (by omega)])
  · exact absurd trivial c13
set_option maxHeartbeats 400000 in
theorem zp_X12_clue_out {ad : mA} {dd : Nat} {h : mH} {Q : mQ} {m : Nat} {σ : Sg} (hk : rk h m) (HR : refT h m 0 σ)  (f : Int) (f_r : -2147483648 ≤ f ∧ f < 2147483648) (k : Int) (k_r : -2147483648 ≤ k ∧ k < 2147483648) (w : Int) (w_r : -2147483648 ≤ w ∧ w < 2147483648) (p1 : ¬ (0 ≤ f ∧ f < cn σ 2)) (kq : ∀ h1, frm (fun a i => a = m ∨ (m + 9 ≤ a ∧ a < m + 30)) h h1 → Q (some (.int (zI (-2)))) h1) : mCal TB0 ad (dd + 4) M_X12_clue [.ref m, .int (zI f), .int (zI k), .int (zI w)] h 0 0 Q := by
  refine ⟨Nat.le_of_ble_eq_true rfl, ?_⟩
  show mEv TB0 ad M_X12_clue (dd + 4) (0, 0) (mCal TB0 ad (dd + 3)) (fun v h' z => z.1 = 0 ∧ Q v h') 0 [some (.ref m), some (.int (zI f)), some (.int (zI k)), some (.int (zI w))] [] h (0, 0)
  have FR0 : frm (fun a i => a = m ∨ (m + 9 ≤ a ∧ a < m + 30)) h h := frm_0 h
  have w1 := wS_n (refT_w HR)
  refine e_aload_n dX12_clue_0 rfl ?_
  refine z_iconst (0) dX12_clue_1 rfl ?_
  refine z_put dX12_clue_2 tf_12_103 (rk_s hk) rfl (Or.inl rfl) (fun h1 e2 => ?_)
  have f3 := frm_1 e2
  have k4 := rk_q (frm_s f3) hk
  have H5 := refT_c f3 (fun a k q1 q2 => by omega) HR
  have FR6 := frm_t FR0 (frm_m (S' := (fun a i => a = m ∨ (m + 9 ≤ a ∧ a < m + 30))) f3 (fun a k q => by omega))
  refine e_aload_n dX12_clue_5 rfl ?_
  refine e_iload_n dX12_clue_6 rfl ?_
  refine e_callV [.int _] dX12_clue_7 tm_12_505 rfl (Nat.le_of_ble_eq_true rfl) (rk_s k4) (Nat.le_of_ble_eq_true rfl) (Nat.le_refl _) (Nat.le_refl _) rfl (zp_X12_hasClues_out k4 H5 f ⟨by omega, by omega⟩ (by omega) (fun  h7 f8  => ?_))
  have k9 := rk_q (frm_s f8) k4
  have H10 := refT_c f8 (fun a k q1 q2 => by omega) H5
  have FR11 := frm_t FR6 (frm_m (S' := (fun a i => a = m ∨ (m + 9 ≤ a ∧ a < m + 30))) f8 (fun a k q => by omega))
  refine z_ifb_ne 16 dX12_clue_10 rfl (fun c12 => ?_) (fun c12 => ?_)
  · exact absurd c12 id
  · skip
    refine z_bipush (-2) dX12_clue_13 rfl ?_
    refine z_iret dX12_clue_15 rfl ⟨rfl, ?_⟩
    exact kq _ FR11
theorem op17 {ad : mA} {B : Nat} : op_17 ad B (Inv B) := by
  intro a b c 
  rw [← zI_toInt a]
  rw [← zI_toInt b]
  rw [← zI_toInt c]
  have ra := in_of a
  generalize a.toInt = a at *
  have rb := in_of b
  generalize b.toInt = b at *
  have rc := in_of c
  generalize c.toInt = c at *
  refine opq_I (ansY a 2 (-2) (fun σ r => r = ydZ (sC σ a) b c)) (ansY_u (fun g r r' x y => x.trans y.symm)) (fun h σ hk HX Q kq => ?_) (fun h σ hr HR Q kq => ?_)
  · by_cases q : 0 ≤ a ∧ a < cn σ 2
    · exact zp_X11_clue_in hk HX a ra b rb c rc q.1 q.2 (kq _ _ (frm_0 h) (Or.inl ⟨q, rfl⟩))
    · exact zp_X11_clue_out hk HX a ra b rb c rc q (kq _ _ (frm_0 h) (Or.inr ⟨q, rfl⟩))
  · by_cases q : 0 ≤ a ∧ a < cn σ 2
    · exact zp_X12_clue_in hr HR a ra b rb c rc q.1 q.2 (fun h1 f => kq _ _ f (Or.inl ⟨q, rfl⟩))
    · exact zp_X12_clue_out hr HR a ra b rb c rc q (fun h1 f => kq _ _ f (Or.inr ⟨q, rfl⟩))
set_option maxHeartbeats 400000 in
theorem zp_X11_count {ad : mA} {dd : Nat} {h : mH} {Q : mQ} {x : Nat} {σ : Sg} (hk : bk h x) (HX : clsT h (x + 1) σ)  (s : Int) (s_r : -2147483648 ≤ s ∧ s < 2147483648)  (kq : Q (some (.int (zI (ctZ σ s)))) h) : mCal TB0 ad (dd + 1) M_X11_count [.ref x, .int (zI s)] h 0 0 Q := by
  refine ⟨Nat.le_of_ble_eq_true rfl, ?_⟩
  show mEv TB0 ad M_X11_count (dd + 1) (0, 0) (mCal TB0 ad (dd + 0)) (fun v h' z => z.1 = 0 ∧ Q v h') 0 [some (.ref x), some (.int (zI s))] [] h (0, 0)
  have w1 := wS_n (clsT_w HX)
  refine e_iload_n dX11_count_0 rfl ?_
  refine z_if_lt 9 dX11_count_1 rfl ⟨by omega, by omega⟩ (fun c1 => ?_) (fun c1 => ?_)
  · skip
    refine z_bipush (-2) dX11_count_9 rfl ?_
    refine e_goto 23 dX11_count_11 rfl ?_
    refine z_iret dX11_count_23 rfl ⟨rfl, ?_⟩
    refine z_q kq ?_
    unfold ctZ; first | rw [if_pos (by omega)] | rw [if_neg (by omega)]
  · skip
    refine e_iload_n dX11_count_4 rfl ?_
    refine z_iconst (3) dX11_count_5 rfl ?_
    refine z_icmp_lt 14 dX11_count_6 rfl ⟨by omega, by omega⟩ ⟨by omega, by omega⟩ (fun c2 => ?_) (fun c2 => ?_)
    · skip
      refine e_aload_n dX11_count_14 rfl ?_
      refine e_get (.ref (x + 1)) dX11_count_15 tf_11_10 (congrArg Prod.fst (bk_s0 hk)) (congrArg va_rf (bk_r0_0 hk)) ?_
      refine e_get (.ref (x + 6)) dX11_count_18 tf_11_319 (congrArg Prod.fst (bk_s1 hk)) (congrArg va_rf (bk_r1_4 hk)) ?_
      refine e_iload_n dX11_count_21 rfl ?_
      refine z_ild (cn σ s) dX11_count_22 (bk_s6 hk) (by decide) (by omega) (by omega) (clsT_cn HX (by omega) (by omega)) ?_
      have y3 := wS_n (clsT_w HX)
      refine z_iret dX11_count_23 rfl ⟨rfl, ?_⟩
      refine z_q kq ?_
      unfold ctZ; first | rw [if_pos (by omega)] | rw [if_neg (by omega)]
    · skip
      refine z_bipush (-2) dX11_count_9 rfl ?_
      refine e_goto 23 dX11_count_11 rfl ?_
      refine z_iret dX11_count_23 rfl ⟨rfl, ?_⟩
      refine z_q kq ?_
      unfold ctZ; first | rw [if_pos (by omega)] | rw [if_neg (by omega)]
set_option maxHeartbeats 400000 in
theorem zp_X12_count {ad : mA} {dd : Nat} {h : mH} {Q : mQ} {m : Nat} {σ : Sg} (hk : rk h m) (HR : refT h m 0 σ)  (s : Int) (s_r : -2147483648 ≤ s ∧ s < 2147483648)  (kq : ∀ h1, frm (fun a i => a = m ∨ (m + 9 ≤ a ∧ a < m + 30)) h h1 → Q (some (.int (zI (ctZ σ s)))) h1) : mCal TB0 ad (dd + 2) M_X12_count [.ref m, .int (zI s)] h 0 0 Q := by
  refine ⟨Nat.le_of_ble_eq_true rfl, ?_⟩
  show mEv TB0 ad M_X12_count (dd + 2) (0, 0) (mCal TB0 ad (dd + 1)) (fun v h' z => z.1 = 0 ∧ Q v h') 0 [some (.ref m), some (.int (zI s))] [] h (0, 0)
  have FR0 : frm (fun a i => a = m ∨ (m + 9 ≤ a ∧ a < m + 30)) h h := frm_0 h
  have w1 := wS_n (refT_w HR)
  refine e_aload_n dX12_count_0 rfl ?_
  refine z_iconst (0) dX12_count_1 rfl ?_
  refine z_put dX12_count_2 tf_12_103 (rk_s hk) rfl (Or.inl rfl) (fun h1 e2 => ?_)
  have f3 := frm_1 e2
  have k4 := rk_q (frm_s f3) hk
  have H5 := refT_c f3 (fun a k q1 q2 => by omega) HR
  have FR6 := frm_t FR0 (frm_m (S' := (fun a i => a = m ∨ (m + 9 ≤ a ∧ a < m + 30))) f3 (fun a k q => by omega))
  refine e_iload_n dX12_count_5 rfl ?_
  refine z_iconst (0) dX12_count_6 rfl ?_
  refine z_iconst (2) dX12_count_7 rfl ?_
  refine e_callS [.int _, .int _, .int _] dX12_count_8 tm_12_115 rfl (Nat.le_of_ble_eq_true rfl) (Nat.le_refl _) (Nat.le_refl _) rfl (zp_X12_in s ⟨by omega, by omega⟩ 0 ⟨by omega, by omega⟩ 2 ⟨by omega, by omega⟩ ?_)
  refine z_ifb_eq 23 dX12_count_11 rfl (fun c7 => ?_) (fun c7 => ?_)
  · skip
    refine z_bipush (-2) dX12_count_23 rfl ?_
    refine z_iret dX12_count_25 rfl ⟨rfl, ?_⟩
    refine z_q (kq _ FR6) ?_
    unfold ctZ; first | rw [if_pos (by omega)] | rw [if_neg (by omega)]
  · skip
    refine e_aload_n dX12_count_14 rfl ?_
    refine e_get (.ref (m + 5)) dX12_count_15 tf_12_23 (rk_s k4) (congrArg va_rf (rk_r5 k4)) ?_
    refine e_iload_n dX12_count_18 rfl ?_
    refine z_ild (cn σ s) dX12_count_19 (rk_a5 k4) (by decide) (by omega) (by omega) (refT_cn H5 (by omega) (by omega)) ?_
    have y8 := wS_n (refT_w H5)
    refine e_goto 25 dX12_count_20 rfl ?_
    refine z_iret dX12_count_25 rfl ⟨rfl, ?_⟩
    refine z_q (kq _ FR6) ?_
    unfold ctZ; first | rw [if_pos (by omega)] | rw [if_neg (by omega)]
set_option maxHeartbeats 400000 in
theorem zp_X11_fault {ad : mA} {dd : Nat} {h : mH} {Q : mQ} {x : Nat} {σ : Sg} (hk : bk h x) (HX : clsT h (x + 1) σ)  (s : Int) (s_r : -2147483648 ≤ s ∧ s < 2147483648)  (kq : Q (some (.int (zI (flZ σ s)))) h) : mCal TB0 ad (dd + 1) M_X11_fault [.ref x, .int (zI s)] h 0 0 Q := by
  refine ⟨Nat.le_of_ble_eq_true rfl, ?_⟩
  show mEv TB0 ad M_X11_fault (dd + 1) (0, 0) (mCal TB0 ad (dd + 0)) (fun v h' z => z.1 = 0 ∧ Q v h') 0 [some (.ref x), some (.int (zI s))] [] h (0, 0)
  have w1 := wS_n (clsT_w HX)
  refine e_iload_n dX11_fault_0 rfl ?_
  refine z_if_ne 12 dX11_fault_1 rfl ⟨by omega, by omega⟩ (fun c1 => ?_) (fun c1 => ?_)
  · skip
    refine e_iload_n dX11_fault_12 rfl ?_
    refine z_iconst (1) dX11_fault_13 rfl ?_
    refine z_icmp_ne 27 dX11_fault_14 rfl ⟨by omega, by omega⟩ ⟨by omega, by omega⟩ (fun c2 => ?_) (fun c2 => ?_)
    · skip
      refine z_iconst (-1) dX11_fault_27 rfl ?_
      refine z_iret dX11_fault_28 rfl ⟨rfl, ?_⟩
      refine z_q kq ?_
      unfold flZ; first | rw [if_pos (by omega)] | (rw [if_neg (by omega), if_pos (by omega)]) | (rw [if_neg (by omega), if_neg (by omega)])
    · skip
      refine e_aload_n dX11_fault_17 rfl ?_
      refine e_get (.ref (x + 1)) dX11_fault_18 tf_11_10 (congrArg Prod.fst (bk_s0 hk)) (congrArg va_rf (bk_r0_0 hk)) ?_
      refine z_get (cn σ 5) dX11_fault_21 tf_11_73 (congrArg Prod.fst (bk_s1 hk)) (Or.inl rfl) (clsT_5 HX) ?_
      have y3 := wS_n (clsT_w HX)
      refine e_goto 28 dX11_fault_24 rfl ?_
      refine z_iret dX11_fault_28 rfl ⟨rfl, ?_⟩
      refine z_q kq ?_
      unfold flZ; first | rw [if_pos (by omega)] | (rw [if_neg (by omega), if_pos (by omega)]) | (rw [if_neg (by omega), if_neg (by omega)])
  · skip
    refine e_aload_n dX11_fault_4 rfl ?_
    refine e_get (.ref (x + 1)) dX11_fault_5 tf_11_10 (congrArg Prod.fst (bk_s0 hk)) (congrArg va_rf (bk_r0_0 hk)) ?_
    refine z_get (cn σ 4) dX11_fault_8 tf_11_70 (congrArg Prod.fst (bk_s1 hk)) (Or.inl rfl) (clsT_4 HX) ?_
    have y4 := wS_n (clsT_w HX)
    refine z_iret dX11_fault_11 rfl ⟨rfl, ?_⟩
    refine z_q kq ?_
    unfold flZ; first | rw [if_pos (by omega)] | (rw [if_neg (by omega), if_pos (by omega)]) | (rw [if_neg (by omega), if_neg (by omega)])
set_option maxHeartbeats 400000 in
theorem zp_X12_fault {ad : mA} {dd : Nat} {h : mH} {Q : mQ} {m : Nat} {σ : Sg} (hk : rk h m) (HR : refT h m 0 σ)  (s : Int) (s_r : -2147483648 ≤ s ∧ s < 2147483648)  (kq : ∀ h1, frm (fun a i => a = m ∨ (m + 9 ≤ a ∧ a < m + 30)) h h1 → Q (some (.int (zI (flZ σ s)))) h1) : mCal TB0 ad (dd + 1) M_X12_fault [.ref m, .int (zI s)] h 0 0 Q := by
  refine ⟨Nat.le_of_ble_eq_true rfl, ?_⟩
  show mEv TB0 ad M_X12_fault (dd + 1) (0, 0) (mCal TB0 ad (dd + 0)) (fun v h' z => z.1 = 0 ∧ Q v h') 0 [some (.ref m), some (.int (zI s))] [] h (0, 0)
  have FR0 : frm (fun a i => a = m ∨ (m + 9 ≤ a ∧ a < m + 30)) h h := frm_0 h
  have w1 := wS_n (refT_w HR)
  refine e_aload_n dX12_fault_0 rfl ?_
  refine z_iconst (0) dX12_fault_1 rfl ?_
  refine z_put dX12_fault_2 tf_12_103 (rk_s hk) rfl (Or.inl rfl) (fun h1 e2 => ?_)
  have f3 := frm_1 e2
  have k4 := rk_q (frm_s f3) hk
  have H5 := refT_c f3 (fun a k q1 q2 => by omega) HR
  have FR6 := frm_t FR0 (frm_m (S' := (fun a i => a = m ∨ (m + 9 ≤ a ∧ a < m + 30))) f3 (fun a k q => by omega))
  refine e_iload_n dX12_fault_5 rfl ?_
  refine z_if_ne 18 dX12_fault_6 rfl ⟨by omega, by omega⟩ (fun c7 => ?_) (fun c7 => ?_)
  · skip
    refine e_iload_n dX12_fault_18 rfl ?_
    refine z_iconst (1) dX12_fault_19 rfl ?_
    refine z_icmp_ne 32 dX12_fault_20 rfl ⟨by omega, by omega⟩ ⟨by omega, by omega⟩ (fun c8 => ?_) (fun c8 => ?_)
    · skip
      refine z_iconst (-1) dX12_fault_32 rfl ?_
      refine z_iret dX12_fault_33 rfl ⟨rfl, ?_⟩
      refine z_q (kq _ FR6) ?_
      unfold flZ; first | rw [if_pos (by omega)] | (rw [if_neg (by omega), if_pos (by omega)]) | (rw [if_neg (by omega), if_neg (by omega)])
    · skip
      refine e_aload_n dX12_fault_23 rfl ?_
      refine e_get (.ref (m + 4)) dX12_fault_24 tf_12_20 (rk_s k4) (congrArg va_rf (rk_r4 k4)) ?_
      refine z_iconst (0) dX12_fault_27 rfl ?_
      refine z_ild (cn σ 5) dX12_fault_28 (rk_a4 k4) (by decide) (by omega) (by omega) (refT_5 H5) ?_
      have y9 := wS_n (refT_w H5)
      refine e_goto 33 dX12_fault_29 rfl ?_
      refine z_iret dX12_fault_33 rfl ⟨rfl, ?_⟩
      refine z_q (kq _ FR6) ?_
      unfold flZ; first | rw [if_pos (by omega)] | (rw [if_neg (by omega), if_pos (by omega)]) | (rw [if_neg (by omega), if_neg (by omega)])
  · skip
    refine e_aload_n dX12_fault_9 rfl ?_
    refine e_get (.ref (m + 3)) dX12_fault_10 tf_12_17 (rk_s k4) (congrArg va_rf (rk_r3 k4)) ?_
    refine z_iconst (0) dX12_fault_13 rfl ?_
    refine z_ild (cn σ 4) dX12_fault_14 (rk_a3 k4) (by decide) (by omega) (by omega) (refT_4 H5) ?_
    have y10 := wS_n (refT_w H5)
    refine e_goto 33 dX12_fault_15 rfl ?_
    refine z_iret dX12_fault_33 rfl ⟨rfl, ?_⟩
    refine z_q (kq _ FR6) ?_
    unfold flZ; first | rw [if_pos (by omega)] | (rw [if_neg (by omega), if_pos (by omega)]) | (rw [if_neg (by omega), if_neg (by omega)])
theorem op33 {ad : mA} {B : Nat} : op_33 ad B (Inv B) := by
  intro a 
  rw [← zI_toInt a]
  have ra := in_of a
  generalize a.toInt = a at *
  refine opq_I (fun σ r => r = ctZ σ a) (fun σ r r' x y => x.trans y.symm) (fun h σ hk HX Q kq => ?_) (fun h σ hr HR Q kq => ?_)
  · exact zp_X11_count hk HX a ra (kq _ _ (frm_0 h) rfl)
  · exact zp_X12_count hr HR a ra (fun h1 f => kq _ _ f rfl)
theorem op3 {ad : mA} {B : Nat} : op_3 ad B (Inv B) := by
  intro a 
  rw [← zI_toInt a]
  have ra := in_of a
  generalize a.toInt = a at *
  refine opq_I (fun σ r => r = flZ σ a) (fun σ r r' x y => x.trans y.symm) (fun h σ hk HX Q kq => ?_) (fun h σ hr HR Q kq => ?_)
  · exact zp_X11_fault hk HX a ra (kq _ _ (frm_0 h) rfl)
  · exact zp_X12_fault hr HR a ra (fun h1 f => kq _ _ f rfl)
set_option maxHeartbeats 400000 in
theorem zp_X11_trued_in {ad : mA} {dd : Nat} {h : mH} {Q : mQ} {x : Nat} {σ : Sg} (hk : bk h x) (HX : clsT h (x + 1) σ)  (f : Int) (f_r : -2147483648 ≤ f ∧ f < 2147483648) (d : Int) (d_r : -2147483648 ≤ d ∧ d < 2147483648) (u : Int) (u_r : -2147483648 ≤ u ∧ u < 2147483648) (p : Prop) [Decidable p] (p1 : 0 ≤ f) (p2 : f < cn σ 0) (kq : Q (some (.int (zI (trZ (sG σ f) d u p)))) h) : mCal TB0 ad (dd + 2) M_X11_trued [.ref x, .int (zI f), .int (zI d), .int (zI u), .int (zI (bZ p))] h 0 0 Q := by
  refine ⟨Nat.le_of_ble_eq_true rfl, ?_⟩
  show mEv TB0 ad M_X11_trued (dd + 2) (0, 0) (mCal TB0 ad (dd + 1)) (fun v h' z => z.1 = 0 ∧ Q v h') 0 [some (.ref x), some (.int (zI f)), some (.int (zI d)), some (.int (zI u)), some (.int (zI (bZ p))), none] [] h (0, 0)
  have w1 := wS_n (clsT_w HX)
  refine e_aload_n dX11_trued_0 rfl ?_
  refine e_get (.ref (x + 1)) dX11_trued_1 tf_11_10 (congrArg Prod.fst (bk_s0 hk)) (congrArg va_rf (bk_r0_0 hk)) ?_
  refine e_iload_n dX11_trued_4 rfl ?_
  refine e_callV [.int _] dX11_trued_5 tm_11_94 rfl (Nat.le_of_ble_eq_true rfl) (congrArg Prod.fst (bk_s1 hk)) (Nat.le_of_ble_eq_true rfl) (Nat.le_refl _) (Nat.le_refl _) rfl (zp_X8_forgeAt_in (bk_td1 hk) HX f ⟨by omega, by omega⟩ (by omega) (by omega) ?_)
  have k1 := fAt_k (bk_td1 hk) f
  have H2 := clsT_F HX (show 0 ≤ f by omega) (by omega)
  have y3 := fAt_b (x + 1) f
  refine e_astore (L' := [_, _, _, _, _, _]) dX11_trued_8 (Nat.le_of_ble_eq_true rfl) rfl ?_
  refine e_aload dX11_trued_10 rfl ?_
  refine e_ifnull 39 dX11_trued_12 rfl ?_
  have v1 := isF_n H2
  have v2 := isF_nd H2
  have v3 := isF_nu H2
  refine e_aload dX11_trued_15 rfl ?_
  refine e_get (.ref ((fAt (x + 1) f) + 1)) dX11_trued_17 tf_11_135 (congrArg Prod.fst (fg_s0 k1)) (congrArg va_rf (fg_r0_0 k1)) ?_
  refine e_iload_n dX11_trued_20 rfl ?_
  refine e_callV [.int _] dX11_trued_21 tm_11_139 rfl (Nat.le_of_ble_eq_true rfl) (congrArg Prod.fst (fg_s1 k1)) (Nat.le_of_ble_eq_true rfl) (Nat.le_refl _) (Nat.le_refl _) rfl (zp_X0_has (fg_bl1 k1) d ⟨by omega, by omega⟩ ?_)
  refine z_ifb_eq 39 dX11_trued_24 rfl (fun c4 => ?_) (fun c4 => ?_)
  · skip
    refine z_iconst (-1) dX11_trued_39 rfl ?_
    refine z_iret dX11_trued_40 rfl ⟨rfl, ?_⟩
    refine z_q kq ?_
    unfold trZ; first | (rw [if_neg (by omega)]) | (rw [if_pos (by omega), if_pos (by assumption)]) | (rw [if_pos (by omega), if_neg (by assumption)])
  · skip
    refine e_aload dX11_trued_27 rfl ?_
    refine e_get (.ref ((fAt (x + 1) f) + 7)) dX11_trued_29 tf_11_281 (congrArg Prod.fst (fg_s0 k1)) (congrArg va_rf (fg_r0_1 k1)) ?_
    refine e_iload_n dX11_trued_32 rfl ?_
    refine e_callV [.int _] dX11_trued_33 tm_11_139 rfl (Nat.le_of_ble_eq_true rfl) (congrArg Prod.fst (fg_s7 k1)) (Nat.le_of_ble_eq_true rfl) (Nat.le_refl _) (Nat.le_refl _) rfl (zp_X0_has (fg_bl7 k1) u ⟨by omega, by omega⟩ ?_)
    refine z_ifb_ne 41 dX11_trued_36 rfl (fun c5 => ?_) (fun c5 => ?_)
    · skip
      refine e_iload dX11_trued_41 rfl ?_
      refine z_ifb_eq 56 dX11_trued_43 rfl (fun c6 => ?_) (fun c6 => ?_)
      · skip
        refine e_aload dX11_trued_56 rfl ?_
        refine e_get (.ref ((fAt (x + 1) f) + 1)) dX11_trued_58 tf_11_135 (congrArg Prod.fst (fg_s0 k1)) (congrArg va_rf (fg_r0_0 k1)) ?_
        refine e_get (.ref ((fAt (x + 1) f) + 2)) dX11_trued_61 tf_11_287 (congrArg Prod.fst (fg_s1 k1)) (congrArg va_rf (fg_r1_0 k1)) ?_
        refine e_iload_n dX11_trued_64 rfl ?_
        refine z_ild (dl (sG σ f) d) dX11_trued_65 (fg_s2 k1) (by decide) (by omega) (by omega) (isF_dl H2 (by omega) (by omega)) ?_
        have y7 := wB_d (isF_w H2).1 (show 0 ≤ d by omega) (by omega)
        refine e_aload dX11_trued_66 rfl ?_
        refine e_get (.ref ((fAt (x + 1) f) + 7)) dX11_trued_68 tf_11_281 (congrArg Prod.fst (fg_s0 k1)) (congrArg va_rf (fg_r0_1 k1)) ?_
        refine e_get (.ref ((fAt (x + 1) f) + 8)) dX11_trued_71 tf_11_287 (congrArg Prod.fst (fg_s7 k1)) (congrArg va_rf (fg_r7_0 k1)) ?_
        refine e_iload_n dX11_trued_74 rfl ?_
        refine z_ild (ul (sG σ f) u) dX11_trued_75 (fg_s8 k1) (by decide) (by omega) (by omega) (isF_ul H2 (by omega) (by omega)) ?_
        have y8 := wB_u (isF_w H2).1 (show 0 ≤ u by omega) (by omega)
        refine z_isub dX11_trued_76 ?_
        refine z_mabs dX11_trued_77 tm_11_289 (Nat.le_of_ble_eq_true rfl) ⟨by omega, by omega⟩ ?_
        have y9 := absI_s ((dl (sG σ f) d) - (ul (sG σ f) u))
        refine z_iret dX11_trued_80 rfl ⟨rfl, ?_⟩
        refine z_q kq ?_
        unfold trZ; first | (rw [if_neg (by omega)]) | (rw [if_pos (by omega), if_pos (by assumption)]) | (rw [if_pos (by omega), if_neg (by assumption)])
      · skip
        refine e_aload dX11_trued_46 rfl ?_
        refine e_iload_n dX11_trued_48 rfl ?_
        refine e_iload_n dX11_trued_49 rfl ?_
        refine e_callV [.int _, .int _] dX11_trued_50 tm_11_284 rfl (Nat.le_of_ble_eq_true rfl) (congrArg Prod.fst (fg_s0 k1)) (Nat.le_of_ble_eq_true rfl) (Nat.le_refl _) (Nat.le_refl _) rfl (zp_X2_levelFit k1 H2 d ⟨by omega, by omega⟩ u ⟨by omega, by omega⟩ (by omega) (by omega) (by omega) (by omega) ?_)
        have y10 := lvZ_b (isF_w H2) (show 0 ≤ d by omega) (by omega) (show 0 ≤ u by omega) (by omega)
        refine e_goto 80 dX11_trued_53 rfl ?_
        refine z_iret dX11_trued_80 rfl ⟨rfl, ?_⟩
        refine z_q kq ?_
        unfold trZ; first | (rw [if_neg (by omega)]) | (rw [if_pos (by omega), if_pos (by assumption)]) | (rw [if_pos (by omega), if_neg (by assumption)])
    · skip
      refine z_iconst (-1) dX11_trued_39 rfl ?_
      refine z_iret dX11_trued_40 rfl ⟨rfl, ?_⟩
      refine z_q kq ?_
      unfold trZ; first | (rw [if_neg (by omega)]) | (rw [if_pos (by omega), if_pos (by assumption)]) | (rw [if_pos (by omega), if_neg (by assumption)])
set_option maxHeartbeats 400000 in
theorem zp_X11_trued_out {ad : mA} {dd : Nat} {h : mH} {Q : mQ} {x : Nat} {σ : Sg} (hk : bk h x) (HX : clsT h (x + 1) σ)  (f : Int) (f_r : -2147483648 ≤ f ∧ f < 2147483648) (d : Int) (d_r : -2147483648 ≤ d ∧ d < 2147483648) (u : Int) (u_r : -2147483648 ≤ u ∧ u < 2147483648) (p : Prop) [Decidable p] (p1 : ¬ (0 ≤ f ∧ f < cn σ 0)) (kq : Q (some (.int (zI (-1)))) h) : mCal TB0 ad (dd + 2) M_X11_trued [.ref x, .int (zI f), .int (zI d), .int (zI u), .int (zI (bZ p))] h 0 0 Q := by
  refine ⟨Nat.le_of_ble_eq_true rfl, ?_⟩
  show mEv TB0 ad M_X11_trued (dd + 2) (0, 0) (mCal TB0 ad (dd + 1)) (fun v h' z => z.1 = 0 ∧ Q v h') 0 [some (.ref x), some (.int (zI f)), some (.int (zI d)), some (.int (zI u)), some (.int (zI (bZ p))), none] [] h (0, 0)
  have w1 := wS_n (clsT_w HX)
  refine e_aload_n dX11_trued_0 rfl ?_
  refine e_get (.ref (x + 1)) dX11_trued_1 tf_11_10 (congrArg Prod.fst (bk_s0 hk)) (congrArg va_rf (bk_r0_0 hk)) ?_
  refine e_iload_n dX11_trued_4 rfl ?_
  refine e_callV [.int _] dX11_trued_5 tm_11_94 rfl (Nat.le_of_ble_eq_true rfl) (congrArg Prod.fst (bk_s1 hk)) (Nat.le_of_ble_eq_true rfl) (Nat.le_refl _) (Nat.le_refl _) rfl (zp_X8_forgeAt_out (bk_td1 hk) HX f ⟨by omega, by omega⟩ (by omega) ?_)
  refine e_astoreN (L' := [_, _, _, _, _, _]) dX11_trued_8 (Nat.le_of_ble_eq_true rfl) rfl ?_
  refine e_aloadN dX11_trued_10 rfl ?_
  refine e_ifnullN 39 dX11_trued_12 rfl ?_
  refine z_iconst (-1) dX11_trued_39 rfl ?_
  refine z_iret dX11_trued_40 rfl ⟨rfl, ?_⟩
  refine z_q kq ?_
  rfl
set_option maxHeartbeats 400000 in
theorem zp_X12_trued_in {ad : mA} {dd : Nat} {h : mH} {Q : mQ} {m : Nat} {σ : Sg} (hk : rk h m) (HR : refT h m 0 σ)  (f : Int) (f_r : -2147483648 ≤ f ∧ f < 2147483648) (d : Int) (d_r : -2147483648 ≤ d ∧ d < 2147483648) (u : Int) (u_r : -2147483648 ≤ u ∧ u < 2147483648) (p : Prop) [Decidable p] (p1 : 0 ≤ f) (p2 : f < cn σ 0) (kq : ∀ h1, frm (fun a i => a = m ∨ (m + 9 ≤ a ∧ a < m + 30)) h h1 → Q (some (.int (zI (trZ (sG σ f) d u p)))) h1) : mCal TB0 ad (dd + 4) M_X12_trued [.ref m, .int (zI f), .int (zI d), .int (zI u), .int (zI (bZ p))] h 0 0 Q := by
  refine ⟨Nat.le_of_ble_eq_true rfl, ?_⟩
  show mEv TB0 ad M_X12_trued (dd + 4) (0, 0) (mCal TB0 ad (dd + 3)) (fun v h' z => z.1 = 0 ∧ Q v h') 0 [some (.ref m), some (.int (zI f)), some (.int (zI d)), some (.int (zI u)), some (.int (zI (bZ p))), none] [] h (0, 0)
  have FR0 : frm (fun a i => a = m ∨ (m + 9 ≤ a ∧ a < m + 30)) h h := frm_0 h
  have w1 := wS_n (refT_w HR)
  refine e_aload_n dX12_trued_0 rfl ?_
  refine z_iconst (0) dX12_trued_1 rfl ?_
  refine z_put dX12_trued_2 tf_12_103 (rk_s hk) rfl (Or.inl rfl) (fun h1 e2 => ?_)
  have f3 := frm_1 e2
  have k4 := rk_q (frm_s f3) hk
  have H5 := refT_c f3 (fun a k q1 q2 => by omega) HR
  have FR6 := frm_t FR0 (frm_m (S' := (fun a i => a = m ∨ (m + 9 ≤ a ∧ a < m + 30))) f3 (fun a k q => by omega))
  refine e_aload_n dX12_trued_5 rfl ?_
  refine e_iload_n dX12_trued_6 rfl ?_
  refine e_callV [.int _] dX12_trued_7 tm_12_292 rfl (Nat.le_of_ble_eq_true rfl) (rk_s k4) (Nat.le_of_ble_eq_true rfl) (Nat.le_refl _) (Nat.le_refl _) rfl (zp_X12_hand_in k4 H5 f ⟨by omega, by omega⟩ (by omega) (by omega) (fun  h7 f8 p9 p10 p11 p12 => ?_))
  have k13 := rk_q (frm_s f8) k4
  have H14 := refT_c f8 (fun a k q1 q2 => by omega) H5
  have FR15 := frm_t FR6 (frm_m (S' := (fun a i => a = m ∨ (m + 9 ≤ a ∧ a < m + 30))) f8 (fun a k q => by omega))
  have w5 := rB_n p9
  have w6 := rC_n p11
  refine z_ifb_eq 29 dX12_trued_10 rfl (fun c16 => ?_) (fun c16 => ?_)
  · exact absurd trivial c16
  · skip
    refine e_aload_n dX12_trued_13 rfl ?_
    refine e_iload_n dX12_trued_14 rfl ?_
    refine e_callV [.int _] dX12_trued_15 tm_12_295 rfl (Nat.le_of_ble_eq_true rfl) (rk_s k13) (Nat.le_of_ble_eq_true rfl) (Nat.le_refl _) (Nat.le_refl _) rfl (zp_X12_isDown k13 p9 d ⟨by omega, by omega⟩ ?_)
    refine z_ifb_eq 29 dX12_trued_18 rfl (fun c17 => ?_) (fun c17 => ?_)
    · skip
      refine z_iconst (-1) dX12_trued_29 rfl ?_
      refine z_iret dX12_trued_30 rfl ⟨rfl, ?_⟩
      refine z_q (kq _ FR15) ?_
      unfold trZ; first | (rw [if_neg (by omega)]) | (rw [if_pos (by omega), if_pos (by assumption), fitZ_tr ((refT_w HR).2.2.1 f p1 p2) (by omega)]) | (rw [if_pos (by omega), if_neg (by assumption)])
    · skip
      refine e_aload_n dX12_trued_21 rfl ?_
      refine e_iload_n dX12_trued_22 rfl ?_
      refine e_callV [.int _] dX12_trued_23 tm_12_298 rfl (Nat.le_of_ble_eq_true rfl) (rk_s k13) (Nat.le_of_ble_eq_true rfl) (Nat.le_refl _) (Nat.le_refl _) rfl (zp_X12_isUp k13 p9 u ⟨by omega, by omega⟩ ?_)
      refine z_ifb_ne 31 dX12_trued_26 rfl (fun c18 => ?_) (fun c18 => ?_)
      · skip
        refine e_aload_n dX12_trued_31 rfl ?_
        refine e_get (.ref (m + 11)) dX12_trued_32 tf_12_41 (rk_s k13) (congrArg va_rf (rk_r11 k13)) ?_
        refine e_iload_n dX12_trued_35 rfl ?_
        refine z_ild (dl (sG σ f) d) dX12_trued_36 (rk_a11 k13) (by decide) (by omega) (by omega) (rB_dl p9 (by omega) (by omega)) ?_
        have y19 := wB_d (rB_w p9) (show 0 ≤ d by omega) (by omega)
        refine e_aload_n dX12_trued_37 rfl ?_
        refine e_get (.ref (m + 11)) dX12_trued_38 tf_12_41 (rk_s k13) (congrArg va_rf (rk_r11 k13)) ?_
        refine z_bipush (6) dX12_trued_41 rfl ?_
        refine e_iload_n dX12_trued_43 rfl ?_
        refine z_iadd dX12_trued_44 ?_
        refine z_ild (ul (sG σ f) u) dX12_trued_45 (rk_a11 k13) (by decide) (by omega) (by omega) (rB_ul p9 (by omega) (by omega)) ?_
        have y20 := wB_u (rB_w p9) (show 0 ≤ u by omega) (by omega)
        refine e_callS [.int _, .int _] dX12_trued_46 tm_12_280 rfl (Nat.le_of_ble_eq_true rfl) (Nat.le_refl _) (Nat.le_refl _) rfl (zp_X12_apart (dl (sG σ f) d) ⟨by omega, by omega⟩ (ul (sG σ f) u) ⟨by omega, by omega⟩ (by omega) (by omega) ?_)
        have y21 := absI_s ((dl (sG σ f) d) - (ul (sG σ f) u))
        refine e_istore (L' := [_, _, _, _, _, _]) dX12_trued_49 (Nat.le_of_ble_eq_true rfl) rfl ?_
        refine e_aload_n dX12_trued_51 rfl ?_
        refine e_get (.ref (m + 11)) dX12_trued_52 tf_12_41 (rk_s k13) (congrArg va_rf (rk_r11 k13)) ?_
        refine e_iload_n dX12_trued_55 rfl ?_
        refine e_aload_n dX12_trued_56 rfl ?_
        refine e_get (.ref (m + 11)) dX12_trued_57 tf_12_41 (rk_s k13) (congrArg va_rf (rk_r11 k13)) ?_
        refine z_bipush (6) dX12_trued_60 rfl ?_
        refine e_iload_n dX12_trued_62 rfl ?_
        refine z_iadd dX12_trued_63 ?_
        refine z_ild (ul (sG σ f) u) dX12_trued_64 (rk_a11 k13) (by decide) (by omega) (by omega) (rB_ul p9 (by omega) (by omega)) ?_
        have y22 := wB_u (rB_w p9) (show 0 ≤ u by omega) (by omega)
        skip
        refine z_ist dX12_trued_65 (rk_a11 k13) (by decide) (by omega) (by omega) (fun h23 e24 => ?_)
        have f25 := frm_1 e24
        have k26 := rk_q (frm_s f25) k13
        have H27 := refT_c f25 (fun a k q1 q2 => by omega) H14
        have H28 := rM_c f25 (fun a k q => by omega) p10
        have H29 := rC_c f25 (fun a k q => by omega) p11
        have H30 := rK_c f25 (fun a k q1 q2 => by omega) p12
        have FR31 := frm_t FR15 (frm_m (S' := (fun a i => a = m ∨ (m + 9 ≤ a ∧ a < m + 30))) f25 (fun a k q => by omega))
        have NB := rB_setdl p9 e24 (by omega) (by omega) (by omega) (by omega)
        have n1 : nd (setG (sG σ f) (3 + d) (ul (sG σ f) u)) = nd (sG σ f) := nd_set (by omega)
        have n2 : nu (setG (sG σ f) (3 + d) (ul (sG σ f) u)) = nu (sG σ f) := nu_set (by omega)
        refine e_iload dX12_trued_66 rfl ?_
        refine z_ifb_eq 80 dX12_trued_68 rfl (fun c32 => ?_) (fun c32 => ?_)
        · skip
          refine e_iload dX12_trued_80 rfl ?_
          refine z_iret dX12_trued_82 rfl ⟨rfl, ?_⟩
          refine z_q (kq _ FR31) ?_
          unfold trZ; first | (rw [if_neg (by omega)]) | (rw [if_pos (by omega), if_pos (by assumption), fitZ_tr ((refT_w HR).2.2.1 f p1 p2) (by omega)]) | (rw [if_pos (by omega), if_neg (by assumption)])
        · skip
          refine e_aload_n dX12_trued_71 rfl ?_
          refine e_iload_n dX12_trued_72 rfl ?_
          refine e_iload_n dX12_trued_73 rfl ?_
          refine e_callV [.int _, .int _] dX12_trued_74 tm_12_283 rfl (Nat.le_of_ble_eq_true rfl) (rk_s k26) (Nat.le_of_ble_eq_true rfl) (Nat.le_refl _) (Nat.le_refl _) rfl (zp_X12_fitOf k26 NB d ⟨by omega, by omega⟩ u ⟨by omega, by omega⟩ (by omega) ?_)
          have y33 := fitZ_b (setG (sG σ f) (3 + d) (ul (sG σ f) u)) d u
          refine e_goto 82 dX12_trued_77 rfl ?_
          refine z_iret dX12_trued_82 rfl ⟨rfl, ?_⟩
          refine z_q (kq _ FR31) ?_
          unfold trZ; first | (rw [if_neg (by omega)]) | (rw [if_pos (by omega), if_pos (by assumption), fitZ_tr ((refT_w HR).2.2.1 f p1 p2) (by omega)]) | (rw [if_pos (by omega), if_neg (by assumption)])
      · skip
        refine z_iconst (-1) dX12_trued_29 rfl ?_
        refine z_iret dX12_trued_30 rfl ⟨rfl, ?_⟩
        refine z_q (kq _ FR15) ?_
        unfold trZ; first | (rw [if_neg (by omega)]) | (rw [if_pos (by omega), if_pos (by assumption), fitZ_tr ((refT_w HR).2.2.1 f p1 p2) (by omega)]) | (rw [if_pos (by omega), if_neg (by assumption)])
set_option maxHeartbeats 400000 in
theorem zp_X12_trued_out {ad : mA} {dd : Nat} {h : mH} {Q : mQ} {m : Nat} {σ : Sg} (hk : rk h m) (HR : refT h m 0 σ)  (f : Int) (f_r : -2147483648 ≤ f ∧ f < 2147483648) (d : Int) (d_r : -2147483648 ≤ d ∧ d < 2147483648) (u : Int) (u_r : -2147483648 ≤ u ∧ u < 2147483648) (p : Prop) [Decidable p] (p1 : ¬ (0 ≤ f ∧ f < cn σ 0)) (kq : ∀ h1, frm (fun a i => a = m ∨ (m + 9 ≤ a ∧ a < m + 30)) h h1 → Q (some (.int (zI (-1)))) h1) : mCal TB0 ad (dd + 4) M_X12_trued [.ref m, .int (zI f), .int (zI d), .int (zI u), .int (zI (bZ p))] h 0 0 Q := by
  refine ⟨Nat.le_of_ble_eq_true rfl, ?_⟩
  show mEv TB0 ad M_X12_trued (dd + 4) (0, 0) (mCal TB0 ad (dd + 3)) (fun v h' z => z.1 = 0 ∧ Q v h') 0 [some (.ref m), some (.int (zI f)), some (.int (zI d)), some (.int (zI u)), some (.int (zI (bZ p))), none] [] h (0, 0)
  have FR0 : frm (fun a i => a = m ∨ (m + 9 ≤ a ∧ a < m + 30)) h h := frm_0 h
  have w1 := wS_n (refT_w HR)
  refine e_aload_n dX12_trued_0 rfl ?_
  refine z_iconst (0) dX12_trued_1 rfl ?_
  refine z_put dX12_trued_2 tf_12_103 (rk_s hk) rfl (Or.inl rfl) (fun h1 e2 => ?_)
  have f3 := frm_1 e2
  have k4 := rk_q (frm_s f3) hk
  have H5 := refT_c f3 (fun a k q1 q2 => by omega) HR
  have FR6 := frm_t FR0 (frm_m (S' := (fun a i => a = m ∨ (m + 9 ≤ a ∧ a < m + 30))) f3 (fun a k q => by omega))
  refine e_aload_n dX12_trued_5 rfl ?_
  refine e_iload_n dX12_trued_6 rfl ?_
  refine e_callV [.int _] dX12_trued_7 tm_12_292 rfl (Nat.le_of_ble_eq_true rfl) (rk_s k4) (Nat.le_of_ble_eq_true rfl) (Nat.le_refl _) (Nat.le_refl _) rfl (zp_X12_hand_out k4 H5 f ⟨by omega, by omega⟩ (by omega) ?_)
  refine z_ifb_eq 29 dX12_trued_10 rfl (fun c7 => ?_) (fun c7 => ?_)
  · skip
    refine z_iconst (-1) dX12_trued_29 rfl ?_
    refine z_iret dX12_trued_30 rfl ⟨rfl, ?_⟩
    exact kq _ FR6
  · exfalso; exact c7
theorem op26 {ad : mA} {B : Nat} : op_26 ad B (Inv B) := by
  intro a b c bb hb
  rw [← zI_toInt a]
  rw [← zI_toInt b]
  rw [← zI_toInt c]
  rw [bb_z hb]
  have ra := in_of a
  generalize a.toInt = a at *
  have rb := in_of b
  generalize b.toInt = b at *
  have rc := in_of c
  generalize c.toInt = c at *
  refine opq_I (ansF a (-1) (fun g r => r = trZ g b c (bb = 1))) (ansF_u (fun g r r' x y => x.trans y.symm)) (fun h σ hk HX Q kq => ?_) (fun h σ hr HR Q kq => ?_)
  · by_cases q : 0 ≤ a ∧ a < cn σ 0
    · exact zp_X11_trued_in hk HX a ra b rb c rc (bb = 1) q.1 q.2 (kq _ _ (frm_0 h) (Or.inl ⟨q.1, q.2, rfl⟩))
    · exact zp_X11_trued_out hk HX a ra b rb c rc (bb = 1) q (kq _ _ (frm_0 h) (Or.inr ⟨q, rfl⟩))
  · by_cases q : 0 ≤ a ∧ a < cn σ 0
    · exact zp_X12_trued_in hr HR a ra b rb c rc (bb = 1) q.1 q.2 (fun h1 f => kq _ h1 f (Or.inl ⟨q.1, q.2, rfl⟩))
    · exact zp_X12_trued_out hr HR a ra b rb c rc (bb = 1) q (fun h1 f => kq _ _ f (Or.inr ⟨q, rfl⟩))
theorem op27 {ad : mA} {B : Nat} : op_27 ad B (Inv B) := by
  intro a 
  rw [← zI_toInt a]
  have ra := in_of a
  generalize a.toInt = a at *
  refine opq_I (ansF a (-1) (fun g r => r = sumZ (fun d => bZ (tipP g d)) (nd g).toNat)) (ansF_u (fun g r r' x y => x.trans y.symm)) (fun h σ hk HX Q kq => ?_) (fun h σ hr HR Q kq => ?_)
  · by_cases q : 0 ≤ a ∧ a < cn σ 0
    · exact zp_X11_tips_in hk HX a ra q.1 q.2 (kq _ _ (frm_0 h) (Or.inl ⟨q.1, q.2, rfl⟩))
    · exact zp_X11_tips_out hk HX a ra q (kq _ _ (frm_0 h) (Or.inr ⟨q, rfl⟩))
  · by_cases q : 0 ≤ a ∧ a < cn σ 0
    · exact zp_X12_tips_in hr HR a ra q.1 q.2 (fun h1 f => kq _ h1 f (Or.inl ⟨q.1, q.2, rfl⟩))
    · exact zp_X12_tips_out hr HR a ra q (fun h1 f => kq _ _ f (Or.inr ⟨q, rfl⟩))
theorem op24 {ad : mA} {B : Nat} : op_24 ad B (Inv B) := by
  intro a 
  rw [← zI_toInt a]
  have ra := in_of a
  generalize a.toInt = a at *
  refine opq_I (ansF a (-1) (fun g r => fmax (lonC g) (lonS g) 36 r)) (ansF_u (fun g r r' x y => fmax_u x y)) (fun h σ hk HX Q kq => ?_) (fun h σ hr HR Q kq => ?_)
  · by_cases q : 0 ≤ a ∧ a < cn σ 0
    · exact zp_X11_lone_in hk HX a ra q.1 q.2 (fun v p => kq v _ (frm_0 h) (Or.inl ⟨q.1, q.2, p⟩))
    · exact zp_X11_lone_out hk HX a ra q (kq _ _ (frm_0 h) (Or.inr ⟨q, rfl⟩))
  · by_cases q : 0 ≤ a ∧ a < cn σ 0
    · exact zp_X12_lone_in hr HR a ra q.1 q.2 (fun v p h1 f => kq v h1 f (Or.inl ⟨q.1, q.2, p⟩))
    · exact zp_X12_lone_out hr HR a ra q (fun h1 f => kq _ _ f (Or.inr ⟨q, rfl⟩))
theorem op25 {ad : mA} {B : Nat} : op_25 ad B (Inv B) := by
  intro a b 
  rw [← zI_toInt a]
  rw [← zI_toInt b]
  have ra := in_of a
  generalize a.toInt = a at *
  have rb := in_of b
  generalize b.toInt = b at *
  refine opq_I (ansF a (-1) (fun g r => fst1 (fun d => upv g d ≠ -1 ∧ strZ g d = b) (nd g) r)) (ansF_u (fun g r r' x y => fst1_u x y)) (fun h σ hk HX Q kq => ?_) (fun h σ hr HR Q kq => ?_)
  · by_cases q : 0 ≤ a ∧ a < cn σ 0
    · exact zp_X11_rank_in hk HX a ra b rb q.1 q.2 (fun v p => kq v _ (frm_0 h) (Or.inl ⟨q.1, q.2, p⟩))
    · exact zp_X11_rank_out hk HX a ra b rb q (kq _ _ (frm_0 h) (Or.inr ⟨q, rfl⟩))
  · by_cases q : 0 ≤ a ∧ a < cn σ 0
    · exact zp_X12_rank_in hr HR a ra b rb q.1 q.2 (fun v p h1 f => kq v h1 f (Or.inl ⟨q.1, q.2, p⟩))
    · exact zp_X12_rank_out hr HR a ra b rb q (fun h1 f => kq _ _ f (Or.inr ⟨q, rfl⟩))
theorem op28 {ad : mA} {B : Nat} : op_28 ad B (Inv B) := by
  intro a bb hb
  rw [← zI_toInt a]
  rw [bb_z hb]
  have ra := in_of a
  generalize a.toInt = a at *
  refine opq_I (ansF a (-1) (fun g r => ∃ k, fmax (swC g) (swS g) 36 k ∧ r = if bb = 1 ∧ k ≠ -1 then swS g k else k)) (ansF_u (fun g r r' x y => by obtain ⟨k, x1, x2⟩ := x; obtain ⟨k', y1, y2⟩ := y; rw [x2, y2, fmax_u x1 y1])) (fun h σ hk HX Q kq => ?_) (fun h σ hr HR Q kq => ?_)
  · by_cases q : 0 ≤ a ∧ a < cn σ 0
    · exact zp_X11_swap_in hk HX a ra (bb = 1) q.1 q.2 (fun v p => kq v _ (frm_0 h) (Or.inl ⟨q.1, q.2, p⟩))
    · exact zp_X11_swap_out hk HX a ra (bb = 1) q (kq _ _ (frm_0 h) (Or.inr ⟨q, rfl⟩))
  · by_cases q : 0 ≤ a ∧ a < cn σ 0
    · exact zp_X12_swap_in hr HR a ra (bb = 1) q.1 q.2 (fun v p h1 f => kq v h1 f (Or.inl ⟨q.1, q.2, p⟩))
    · exact zp_X12_swap_out hr HR a ra (bb = 1) q (fun h1 f => kq _ _ f (Or.inr ⟨q, rfl⟩))

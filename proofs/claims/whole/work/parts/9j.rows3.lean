/-! ROWS of the reference -/
theorem dX12_layRow_0 : decode cX12_layRow 0 = .ok (.iload_n 1, 1) := by decide +kernel
theorem dX12_layRow_1 : decode cX12_layRow 1 = .ok (.ifCond .ne 10, 3) := by decide +kernel
theorem dX12_layRow_4 : decode cX12_layRow 4 = .ok (.aload_n 0, 1) := by decide +kernel
theorem dX12_layRow_5 : decode cX12_layRow 5 = .ok (.invokevirtual 432, 3) := by decide +kernel
theorem dX12_layRow_8 : decode cX12_layRow 8 = .ok (.goto 30, 3) := by decide +kernel
theorem dX12_layRow_11 : decode cX12_layRow 11 = .ok (.iload_n 1, 1) := by decide +kernel
theorem dX12_layRow_12 : decode cX12_layRow 12 = .ok (.iconst 3, 1) := by decide +kernel
theorem dX12_layRow_13 : decode cX12_layRow 13 = .ok (.if_icmp .ge 20, 3) := by decide +kernel
theorem dX12_layRow_16 : decode cX12_layRow 16 = .ok (.aload_n 0, 1) := by decide +kernel
theorem dX12_layRow_17 : decode cX12_layRow 17 = .ok (.iload_n 1, 1) := by decide +kernel
theorem dX12_layRow_18 : decode cX12_layRow 18 = .ok (.iconst 2, 1) := by decide +kernel
theorem dX12_layRow_19 : decode cX12_layRow 19 = .ok (.if_icmp .ne 7, 3) := by decide +kernel
theorem dX12_layRow_22 : decode cX12_layRow 22 = .ok (.iconst 1, 1) := by decide +kernel
theorem dX12_layRow_23 : decode cX12_layRow 23 = .ok (.goto 4, 3) := by decide +kernel
theorem dX12_layRow_26 : decode cX12_layRow 26 = .ok (.iconst 0, 1) := by decide +kernel
theorem dX12_layRow_27 : decode cX12_layRow 27 = .ok (.invokevirtual 435, 3) := by decide +kernel
theorem dX12_layRow_30 : decode cX12_layRow 30 = .ok (.goto 8, 3) := by decide +kernel
theorem dX12_layRow_33 : decode cX12_layRow 33 = .ok (.aload_n 0, 1) := by decide +kernel
theorem dX12_layRow_34 : decode cX12_layRow 34 = .ok (.iload_n 1, 1) := by decide +kernel
theorem dX12_layRow_35 : decode cX12_layRow 35 = .ok (.invokevirtual 439, 3) := by decide +kernel
theorem dX12_layRow_38 : decode cX12_layRow 38 = .ok (.return_, 1) := by decide +kernel
theorem dX12_leaving_0 : decode cX12_leaving 0 = .ok (.aload_n 0, 1) := by decide +kernel
theorem dX12_leaving_1 : decode cX12_leaving 1 = .ok (.iconst 0, 1) := by decide +kernel
theorem dX12_leaving_2 : decode cX12_leaving 2 = .ok (.putfield 103, 3) := by decide +kernel
theorem dX12_leaving_5 : decode cX12_leaving 5 = .ok (.aload_n 0, 1) := by decide +kernel
theorem dX12_leaving_6 : decode cX12_leaving 6 = .ok (.iload_n 1, 1) := by decide +kernel
theorem dX12_leaving_7 : decode cX12_leaving 7 = .ok (.invokevirtual 292, 3) := by decide +kernel
theorem dX12_leaving_10 : decode cX12_leaving 10 = .ok (.ifCond .eq 12, 3) := by decide +kernel
theorem dX12_leaving_13 : decode cX12_leaving 13 = .ok (.iload_n 2, 1) := by decide +kernel
theorem dX12_leaving_14 : decode cX12_leaving 14 = .ok (.iconst 0, 1) := by decide +kernel
theorem dX12_leaving_15 : decode cX12_leaving 15 = .ok (.iconst 5, 1) := by decide +kernel
theorem dX12_leaving_16 : decode cX12_leaving 16 = .ok (.invokestatic 115, 3) := by decide +kernel
theorem dX12_leaving_19 : decode cX12_leaving 19 = .ok (.ifCond .ne 5, 3) := by decide +kernel
theorem dX12_leaving_22 : decode cX12_leaving 22 = .ok (.iconst (-1), 1) := by decide +kernel
theorem dX12_leaving_23 : decode cX12_leaving 23 = .ok (.ireturn, 1) := by decide +kernel
theorem dX12_leaving_24 : decode cX12_leaving 24 = .ok (.aload_n 0, 1) := by decide +kernel
theorem dX12_leaving_25 : decode cX12_leaving 25 = .ok (.iload_n 2, 1) := by decide +kernel
theorem dX12_leaving_26 : decode cX12_leaving 26 = .ok (.invokevirtual 442, 3) := by decide +kernel
theorem dX12_leaving_29 : decode cX12_leaving 29 = .ok (.aload_n 0, 1) := by decide +kernel
theorem dX12_leaving_30 : decode cX12_leaving 30 = .ok (.invokevirtual 403, 3) := by decide +kernel
theorem dX12_leaving_33 : decode cX12_leaving 33 = .ok (.ireturn, 1) := by decide +kernel
theorem dX12_row_0 : decode cX12_row 0 = .ok (.aload_n 0, 1) := by decide +kernel
theorem dX12_row_1 : decode cX12_row 1 = .ok (.iconst 0, 1) := by decide +kernel
theorem dX12_row_2 : decode cX12_row 2 = .ok (.putfield 103, 3) := by decide +kernel
theorem dX12_row_5 : decode cX12_row 5 = .ok (.aload_n 0, 1) := by decide +kernel
theorem dX12_row_6 : decode cX12_row 6 = .ok (.iload_n 1, 1) := by decide +kernel
theorem dX12_row_7 : decode cX12_row 7 = .ok (.invokevirtual 292, 3) := by decide +kernel
theorem dX12_row_10 : decode cX12_row 10 = .ok (.ifCond .eq 26, 3) := by decide +kernel
theorem dX12_row_13 : decode cX12_row 13 = .ok (.iload_n 2, 1) := by decide +kernel
theorem dX12_row_14 : decode cX12_row 14 = .ok (.iconst 1, 1) := by decide +kernel
theorem dX12_row_15 : decode cX12_row 15 = .ok (.iconst 5, 1) := by decide +kernel
theorem dX12_row_16 : decode cX12_row 16 = .ok (.invokestatic 115, 3) := by decide +kernel
theorem dX12_row_19 : decode cX12_row 19 = .ok (.ifCond .eq 17, 3) := by decide +kernel
theorem dX12_row_22 : decode cX12_row 22 = .ok (.iload_n 3, 1) := by decide +kernel
theorem dX12_row_23 : decode cX12_row 23 = .ok (.iconst (-1), 1) := by decide +kernel
theorem dX12_row_24 : decode cX12_row 24 = .ok (.aload_n 0, 1) := by decide +kernel
theorem dX12_row_25 : decode cX12_row 25 = .ok (.getfield 271, 3) := by decide +kernel
theorem dX12_row_28 : decode cX12_row 28 = .ok (.iconst 1, 1) := by decide +kernel
theorem dX12_row_29 : decode cX12_row 29 = .ok (.isub, 1) := by decide +kernel
theorem dX12_row_30 : decode cX12_row 30 = .ok (.invokestatic 115, 3) := by decide +kernel
theorem dX12_row_33 : decode cX12_row 33 = .ok (.ifCond .ne 5, 3) := by decide +kernel
theorem dX12_row_36 : decode cX12_row 36 = .ok (.iconst (-1), 1) := by decide +kernel
theorem dX12_row_37 : decode cX12_row 37 = .ok (.ireturn, 1) := by decide +kernel
theorem dX12_row_38 : decode cX12_row 38 = .ok (.aload_n 0, 1) := by decide +kernel
theorem dX12_row_39 : decode cX12_row 39 = .ok (.iload_n 2, 1) := by decide +kernel
theorem dX12_row_40 : decode cX12_row 40 = .ok (.invokevirtual 442, 3) := by decide +kernel
theorem dX12_row_43 : decode cX12_row 43 = .ok (.iload_n 3, 1) := by decide +kernel
theorem dX12_row_44 : decode cX12_row 44 = .ok (.iconst (-1), 1) := by decide +kernel
theorem dX12_row_45 : decode cX12_row 45 = .ok (.if_icmp .ne 10, 3) := by decide +kernel
theorem dX12_row_48 : decode cX12_row 48 = .ok (.aload_n 0, 1) := by decide +kernel
theorem dX12_row_49 : decode cX12_row 49 = .ok (.invokevirtual 413, 3) := by decide +kernel
theorem dX12_row_52 : decode cX12_row 52 = .ok (.goto 9, 3) := by decide +kernel
theorem dX12_row_55 : decode cX12_row 55 = .ok (.aload_n 0, 1) := by decide +kernel
theorem dX12_row_56 : decode cX12_row 56 = .ok (.getfield 56, 3) := by decide +kernel
theorem dX12_row_59 : decode cX12_row 59 = .ok (.iload_n 3, 1) := by decide +kernel
theorem dX12_row_60 : decode cX12_row 60 = .ok (.iaload, 1) := by decide +kernel
theorem dX12_row_61 : decode cX12_row 61 = .ok (.ireturn, 1) := by decide +kernel
theorem dX12_rows_0 : decode cX12_rows 0 = .ok (.aload_n 0, 1) := by decide +kernel
theorem dX12_rows_1 : decode cX12_rows 1 = .ok (.iconst 0, 1) := by decide +kernel
theorem dX12_rows_2 : decode cX12_rows 2 = .ok (.putfield 103, 3) := by decide +kernel
theorem dX12_rows_5 : decode cX12_rows 5 = .ok (.aload_n 0, 1) := by decide +kernel
theorem dX12_rows_6 : decode cX12_rows 6 = .ok (.iload_n 1, 1) := by decide +kernel
theorem dX12_rows_7 : decode cX12_rows 7 = .ok (.invokevirtual 292, 3) := by decide +kernel
theorem dX12_rows_10 : decode cX12_rows 10 = .ok (.ifCond .eq 12, 3) := by decide +kernel
theorem dX12_rows_13 : decode cX12_rows 13 = .ok (.iload_n 2, 1) := by decide +kernel
theorem dX12_rows_14 : decode cX12_rows 14 = .ok (.iconst 0, 1) := by decide +kernel
theorem dX12_rows_15 : decode cX12_rows 15 = .ok (.iconst 3, 1) := by decide +kernel
theorem dX12_rows_16 : decode cX12_rows 16 = .ok (.invokestatic 115, 3) := by decide +kernel
theorem dX12_rows_19 : decode cX12_rows 19 = .ok (.ifCond .ne 5, 3) := by decide +kernel
theorem dX12_rows_22 : decode cX12_rows 22 = .ok (.iconst (-1), 1) := by decide +kernel
theorem dX12_rows_23 : decode cX12_rows 23 = .ok (.ireturn, 1) := by decide +kernel
theorem dX12_rows_24 : decode cX12_rows 24 = .ok (.iload_n 2, 1) := by decide +kernel
theorem dX12_rows_25 : decode cX12_rows 25 = .ok (.iconst 2, 1) := by decide +kernel
theorem dX12_rows_26 : decode cX12_rows 26 = .ok (.if_icmp .ne 19, 3) := by decide +kernel
theorem dX12_rows_29 : decode cX12_rows 29 = .ok (.aload_n 0, 1) := by decide +kernel
theorem dX12_rows_30 : decode cX12_rows 30 = .ok (.getfield 271, 3) := by decide +kernel
theorem dX12_rows_33 : decode cX12_rows 33 = .ok (.aload_n 0, 1) := by decide +kernel
theorem dX12_rows_34 : decode cX12_rows 34 = .ok (.getfield 274, 3) := by decide +kernel
theorem dX12_rows_37 : decode cX12_rows 37 = .ok (.invokestatic 340, 3) := by decide +kernel
theorem dX12_rows_40 : decode cX12_rows 40 = .ok (.ifCond .ne 5, 3) := by decide +kernel
theorem dX12_rows_43 : decode cX12_rows 43 = .ok (.iconst (-1), 1) := by decide +kernel
theorem dX12_rows_44 : decode cX12_rows 44 = .ok (.ireturn, 1) := by decide +kernel
theorem dX12_rows_45 : decode cX12_rows 45 = .ok (.aload_n 0, 1) := by decide +kernel
theorem dX12_rows_46 : decode cX12_rows 46 = .ok (.iload_n 2, 1) := by decide +kernel
theorem dX12_rows_47 : decode cX12_rows 47 = .ok (.iconst 1, 1) := by decide +kernel
theorem dX12_rows_48 : decode cX12_rows 48 = .ok (.if_icmp .ne 7, 3) := by decide +kernel
theorem dX12_rows_51 : decode cX12_rows 51 = .ok (.iconst 4, 1) := by decide +kernel
theorem dX12_rows_52 : decode cX12_rows 52 = .ok (.goto 13, 3) := by decide +kernel
theorem dX12_rows_55 : decode cX12_rows 55 = .ok (.iload_n 2, 1) := by decide +kernel
theorem dX12_rows_56 : decode cX12_rows 56 = .ok (.iconst 2, 1) := by decide +kernel
theorem dX12_rows_57 : decode cX12_rows 57 = .ok (.if_icmp .ne 7, 3) := by decide +kernel
theorem dX12_rows_60 : decode cX12_rows 60 = .ok (.iconst 5, 1) := by decide +kernel
theorem dX12_rows_61 : decode cX12_rows 61 = .ok (.goto 4, 3) := by decide +kernel
theorem dX12_rows_64 : decode cX12_rows 64 = .ok (.iconst 3, 1) := by decide +kernel
theorem dX12_rows_65 : decode cX12_rows 65 = .ok (.invokevirtual 439, 3) := by decide +kernel
theorem dX12_rows_68 : decode cX12_rows 68 = .ok (.iload_n 2, 1) := by decide +kernel
theorem dX12_rows_69 : decode cX12_rows 69 = .ok (.ifCond .ne 11, 3) := by decide +kernel
theorem dX12_rows_72 : decode cX12_rows 72 = .ok (.aload_n 0, 1) := by decide +kernel
theorem dX12_rows_73 : decode cX12_rows 73 = .ok (.getfield 419, 3) := by decide +kernel
theorem dX12_rows_76 : decode cX12_rows 76 = .ok (.ineg, 1) := by decide +kernel
theorem dX12_rows_77 : decode cX12_rows 77 = .ok (.goto 19, 3) := by decide +kernel
theorem dX12_rows_80 : decode cX12_rows 80 = .ok (.iload_n 2, 1) := by decide +kernel
theorem dX12_rows_81 : decode cX12_rows 81 = .ok (.iconst 3, 1) := by decide +kernel
theorem dX12_rows_82 : decode cX12_rows 82 = .ok (.if_icmp .ne 10, 3) := by decide +kernel
theorem dX12_rows_85 : decode cX12_rows 85 = .ok (.aload_n 0, 1) := by decide +kernel
theorem dX12_rows_86 : decode cX12_rows 86 = .ok (.getfield 422, 3) := by decide +kernel
theorem dX12_rows_89 : decode cX12_rows 89 = .ok (.goto 7, 3) := by decide +kernel
theorem dX12_rows_92 : decode cX12_rows 92 = .ok (.aload_n 0, 1) := by decide +kernel
theorem dX12_rows_93 : decode cX12_rows 93 = .ok (.getfield 419, 3) := by decide +kernel
theorem dX12_rows_96 : decode cX12_rows 96 = .ok (.ireturn, 1) := by decide +kernel
theorem dX12_moves_0 : decode cX12_moves 0 = .ok (.aload_n 0, 1) := by decide +kernel
theorem dX12_moves_1 : decode cX12_moves 1 = .ok (.iconst 0, 1) := by decide +kernel
theorem dX12_moves_2 : decode cX12_moves 2 = .ok (.putfield 103, 3) := by decide +kernel
theorem dX12_moves_5 : decode cX12_moves 5 = .ok (.aload_n 0, 1) := by decide +kernel
theorem dX12_moves_6 : decode cX12_moves 6 = .ok (.iload_n 1, 1) := by decide +kernel
theorem dX12_moves_7 : decode cX12_moves 7 = .ok (.invokevirtual 292, 3) := by decide +kernel
theorem dX12_moves_10 : decode cX12_moves 10 = .ok (.ifCond .eq 12, 3) := by decide +kernel
theorem dX12_moves_13 : decode cX12_moves 13 = .ok (.iload_n 2, 1) := by decide +kernel
theorem dX12_moves_14 : decode cX12_moves 14 = .ok (.iconst 1, 1) := by decide +kernel
theorem dX12_moves_15 : decode cX12_moves 15 = .ok (.iconst 5, 1) := by decide +kernel
theorem dX12_moves_16 : decode cX12_moves 16 = .ok (.invokestatic 115, 3) := by decide +kernel
theorem dX12_moves_19 : decode cX12_moves 19 = .ok (.ifCond .ne 5, 3) := by decide +kernel
theorem dX12_moves_22 : decode cX12_moves 22 = .ok (.iconst (-1), 1) := by decide +kernel
theorem dX12_moves_23 : decode cX12_moves 23 = .ok (.ireturn, 1) := by decide +kernel
theorem dX12_moves_24 : decode cX12_moves 24 = .ok (.aload_n 0, 1) := by decide +kernel
theorem dX12_moves_25 : decode cX12_moves 25 = .ok (.iload_n 2, 1) := by decide +kernel
theorem dX12_moves_26 : decode cX12_moves 26 = .ok (.invokevirtual 442, 3) := by decide +kernel
theorem dX12_moves_29 : decode cX12_moves 29 = .ok (.iconst 0, 1) := by decide +kernel
theorem dX12_moves_30 : decode cX12_moves 30 = .ok (.istore 4, 2) := by decide +kernel
theorem dX12_moves_32 : decode cX12_moves 32 = .ok (.iconst 0, 1) := by decide +kernel
theorem dX12_moves_33 : decode cX12_moves 33 = .ok (.istore 5, 2) := by decide +kernel
theorem dX12_moves_35 : decode cX12_moves 35 = .ok (.iconst 0, 1) := by decide +kernel
theorem dX12_moves_36 : decode cX12_moves 36 = .ok (.istore 6, 2) := by decide +kernel
theorem dX12_moves_38 : decode cX12_moves 38 = .ok (.iload 6, 2) := by decide +kernel
theorem dX12_moves_40 : decode cX12_moves 40 = .ok (.aload_n 0, 1) := by decide +kernel
theorem dX12_moves_41 : decode cX12_moves 41 = .ok (.getfield 271, 3) := by decide +kernel
theorem dX12_moves_44 : decode cX12_moves 44 = .ok (.if_icmp .ge 95, 3) := by decide +kernel
theorem dX12_moves_47 : decode cX12_moves 47 = .ok (.aload_n 0, 1) := by decide +kernel
theorem dX12_moves_48 : decode cX12_moves 48 = .ok (.iload 6, 2) := by decide +kernel
theorem dX12_moves_50 : decode cX12_moves 50 = .ok (.invokevirtual 286, 3) := by decide +kernel
theorem dX12_moves_53 : decode cX12_moves 53 = .ok (.ifCond .eq 13, 3) := by decide +kernel
theorem dX12_moves_56 : decode cX12_moves 56 = .ok (.aload_n 0, 1) := by decide +kernel
theorem dX12_moves_57 : decode cX12_moves 57 = .ok (.getfield 53, 3) := by decide +kernel
theorem dX12_moves_60 : decode cX12_moves 60 = .ok (.iload 6, 2) := by decide +kernel
theorem dX12_moves_62 : decode cX12_moves 62 = .ok (.iaload, 1) := by decide +kernel
theorem dX12_moves_63 : decode cX12_moves 63 = .ok (.goto 5, 3) := by decide +kernel
theorem dX12_moves_66 : decode cX12_moves 66 = .ok (.bipush 6, 2) := by decide +kernel
theorem dX12_moves_68 : decode cX12_moves 68 = .ok (.istore 7, 2) := by decide +kernel
theorem dX12_moves_70 : decode cX12_moves 70 = .ok (.iload 4, 2) := by decide +kernel
theorem dX12_moves_72 : decode cX12_moves 72 = .ok (.iload 7, 2) := by decide +kernel
theorem dX12_moves_74 : decode cX12_moves 74 = .ok (.bipush 6, 2) := by decide +kernel
theorem dX12_moves_76 : decode cX12_moves 76 = .ok (.if_icmp .ge 19, 3) := by decide +kernel
theorem dX12_moves_79 : decode cX12_moves 79 = .ok (.iload 7, 2) := by decide +kernel
theorem dX12_moves_81 : decode cX12_moves 81 = .ok (.aload_n 0, 1) := by decide +kernel
theorem dX12_moves_82 : decode cX12_moves 82 = .ok (.getfield 56, 3) := by decide +kernel
theorem dX12_moves_85 : decode cX12_moves 85 = .ok (.iload 6, 2) := by decide +kernel
theorem dX12_moves_87 : decode cX12_moves 87 = .ok (.iaload, 1) := by decide +kernel
theorem dX12_moves_88 : decode cX12_moves 88 = .ok (.if_icmp .eq 7, 3) := by decide +kernel
theorem dX12_moves_91 : decode cX12_moves 91 = .ok (.iconst 1, 1) := by decide +kernel
theorem dX12_moves_92 : decode cX12_moves 92 = .ok (.goto 4, 3) := by decide +kernel
theorem dX12_moves_95 : decode cX12_moves 95 = .ok (.iconst 0, 1) := by decide +kernel
theorem dX12_moves_96 : decode cX12_moves 96 = .ok (.iadd, 1) := by decide +kernel
theorem dX12_moves_97 : decode cX12_moves 97 = .ok (.istore 4, 2) := by decide +kernel
theorem dX12_moves_99 : decode cX12_moves 99 = .ok (.iload 5, 2) := by decide +kernel
theorem dX12_moves_101 : decode cX12_moves 101 = .ok (.aload_n 0, 1) := by decide +kernel
theorem dX12_moves_102 : decode cX12_moves 102 = .ok (.getfield 56, 3) := by decide +kernel
theorem dX12_moves_105 : decode cX12_moves 105 = .ok (.iload 6, 2) := by decide +kernel
theorem dX12_moves_107 : decode cX12_moves 107 = .ok (.iaload, 1) := by decide +kernel
theorem dX12_moves_108 : decode cX12_moves 108 = .ok (.bipush 6, 2) := by decide +kernel
theorem dX12_moves_110 : decode cX12_moves 110 = .ok (.if_icmp .ge 19, 3) := by decide +kernel
theorem dX12_moves_113 : decode cX12_moves 113 = .ok (.iload 7, 2) := by decide +kernel
theorem dX12_moves_115 : decode cX12_moves 115 = .ok (.aload_n 0, 1) := by decide +kernel
theorem dX12_moves_116 : decode cX12_moves 116 = .ok (.getfield 56, 3) := by decide +kernel
theorem dX12_moves_119 : decode cX12_moves 119 = .ok (.iload 6, 2) := by decide +kernel
theorem dX12_moves_121 : decode cX12_moves 121 = .ok (.iaload, 1) := by decide +kernel
theorem dX12_moves_122 : decode cX12_moves 122 = .ok (.if_icmp .eq 7, 3) := by decide +kernel
theorem dX12_moves_125 : decode cX12_moves 125 = .ok (.iconst 1, 1) := by decide +kernel
theorem dX12_moves_126 : decode cX12_moves 126 = .ok (.goto 4, 3) := by decide +kernel
theorem dX12_moves_129 : decode cX12_moves 129 = .ok (.iconst 0, 1) := by decide +kernel
theorem dX12_moves_130 : decode cX12_moves 130 = .ok (.iadd, 1) := by decide +kernel
theorem dX12_moves_131 : decode cX12_moves 131 = .ok (.istore 5, 2) := by decide +kernel
theorem dX12_moves_133 : decode cX12_moves 133 = .ok (.iinc 6 1, 3) := by decide +kernel
theorem dX12_moves_136 : decode cX12_moves 136 = .ok (.goto (-98), 3) := by decide +kernel
theorem dX12_moves_139 : decode cX12_moves 139 = .ok (.iload_n 3, 1) := by decide +kernel
theorem dX12_moves_140 : decode cX12_moves 140 = .ok (.ifCond .eq 8, 3) := by decide +kernel
theorem dX12_moves_143 : decode cX12_moves 143 = .ok (.iload 5, 2) := by decide +kernel
theorem dX12_moves_145 : decode cX12_moves 145 = .ok (.goto 5, 3) := by decide +kernel
theorem dX12_moves_148 : decode cX12_moves 148 = .ok (.iload 4, 2) := by decide +kernel
theorem dX12_moves_150 : decode cX12_moves 150 = .ok (.ireturn, 1) := by decide +kernel
set_option maxRecDepth 20000 in
theorem tm_12_432 : tMet TB0 12 432 = some (0, M_X12_layTold) := rfl
set_option maxRecDepth 20000 in
theorem tm_12_435 : tMet TB0 12 435 = some (0, M_X12_layAsked) := rfl
set_option maxRecDepth 20000 in
theorem tm_12_439 : tMet TB0 12 439 = some (0, M_X12_findBest) := rfl
set_option maxRecDepth 20000 in
theorem tm_12_442 : tMet TB0 12 442 = some (0, M_X12_layRow) := rfl
/-! ROWS: what is asked of them, and that there is one answer -/
def rwR (g : Int → Int) (how : Int) (r : Int → Int) : Prop := isRw g r ∧ ((how = 0 ∧ ∀ d, 0 ≤ d → d < 6 → r d = tlR g d) ∨ ((how = 1 ∨ how = 2 ∨ how = 3) ∧ stn g r) ∨ ((how = 4 ∨ how = 5) ∧ ∃ v, (0 ≤ v ∧ v < 117649) ∧ fmax (vaB g how) (wtK g how) 117649 v ∧ ∀ d, 0 ≤ d → d < 6 → r d = dgZ v d))
theorem rwR_u {g : Int → Int} (n : (0 ≤ nd g ∧ nd g ≤ 6) ∧ (0 ≤ nu g ∧ nu g ≤ 6)) {how : Int} {r r' : Int → Int} (x : rwR g how r) (y : rwR g how r') : ∀ d, 0 ≤ d → d < 6 → r d = r' d := by
  intro d a b
  rcases x with ⟨x0, x1 | x1 | ⟨x1, v, x2, x3, x4⟩⟩ <;> rcases y with ⟨y0, y1 | y1 | ⟨y1, v', y2, y3, y4⟩⟩
  · rw [x1.2 d a b, y1.2 d a b]
  · omega
  · omega
  · omega
  · exact stn_u n x0 y0 x1.2 y1.2 d a b
  · omega
  · omega
  · omega
  · rw [x4 d a b, y4 d a b, fmax_u x3 y3]
theorem stn_e {g r r' : Int → Int} (n : nd g ≤ 6) (e : ∀ d, 0 ≤ d → d < 6 → r' d = r d) (s : stn g r) : stn g r' := fun d u d0 d1 u0 u1 lv => s d u d0 d1 u0 u1 (lvP_e d0 (by omega) (fun x a b => (e x a b).symm) lv)
def mvP (g r : Int → Int) : Int := sumZ (fun d => bZ (tlR g d < 6 ∧ tlR g d ≠ r d)) (nd g).toNat
def mvR (g r : Int → Int) : Int := sumZ (fun d => bZ (r d < 6 ∧ tlR g d ≠ r d)) (nd g).toNat
theorem mvP_e {g r r' : Int → Int} (n : nd g ≤ 6) (e : ∀ d, 0 ≤ d → d < 6 → r d = r' d) : mvP g r = mvP g r' := sumZ_e (fun d a b => by rw [e d a (by omega)])
theorem mvR_e {g r r' : Int → Int} (n : nd g ≤ 6) (e : ∀ d, 0 ≤ d → d < 6 → r d = r' d) : mvR g r = mvR g r' := sumZ_e (fun d a b => by rw [e d a (by omega)])
/-- just one code stands -/
theorem stC_1 {g : Int → Int} (n : (0 ≤ nd g ∧ nd g ≤ 6) ∧ (0 ≤ nu g ∧ nu g ≤ 6)) : stC g 3 117649 = 1 := by
  obtain ⟨k, hk, vk⟩ := vaB_ex n 3
  have key : ∀ m : Nat, m ≤ 117649 → sumZ (fun k => stB g k) m = if k < (m : Int) then 1 else 0 := by
    intro m
    induction m with
    | zero => intro _; rw [if_neg (by omega)]; rfl
    | succ m ih =>
      intro hm
      have e : sumZ (fun k => stB g k) (m + 1) = sumZ (fun k => stB g k) m + stB g (m : Int) := rfl
      rw [e, ih (by omega)]
      by_cases q : (m : Int) = k
      · rw [q, stB_1 vk, if_neg (by omega), if_pos (by omega)]; rfl
      · have nv : ¬ vaB g 3 (m : Int) := fun z => q (by
          have a := (va3 n).mp z
          have b := (va3 n).mp vk
          exact dg_u (by omega) (by omega) hk.1 hk.2 (stn_u n a.1 b.1 a.2 b.2))
        rw [stB_0 nv]
        by_cases w : k < (m : Int)
        · rw [if_pos w, if_pos (by omega)]; rfl
        · rw [if_neg w, if_neg (by omega)]; rfl
  have := key 117649 (Nat.le_refl _)
  unfold stC
  rw [if_pos rfl]
  rw [if_pos (by omega)] at this
  exact this
def lyE (h : mH) (m : Nat) (g : Int → Int) (how : Int) : Prop := ∃ r, rRw h m g r ∧ rwR g how r
theorem lyE_st {h : mH} {m : Nat} {g : Int → Int} {how : Int} (q : how = 1 ∨ how = 2 ∨ how = 3) (H : stE h m g) : lyE h m g how := by
  obtain ⟨r, h1, h2⟩ := H
  exact ⟨r, h1, h1.1.1, Or.inr (Or.inl ⟨q, h2⟩)⟩
theorem lyE_3 {h : mH} {m : Nat} {g : Int → Int} (n : (0 ≤ nd g ∧ nd g ≤ 6) ∧ (0 ≤ nu g ∧ nu g ≤ 6)) (H : bsE h m g 3) : lyE h m g 3 := by
  obtain ⟨v, h1, h2, h3⟩ := H
  have p := (va3 n).mp (fmax_p h1.2 (by omega))
  exact ⟨dgZ v, h2, p.1, Or.inr (Or.inl ⟨by omega, p.2⟩)⟩
theorem lyE_b {h : mH} {m : Nat} {g : Int → Int} {how : Int} (q : how = 4 ∨ how = 5) (H : bsE h m g how) : lyE h m g how := by
  obtain ⟨v, h1, h2, h3⟩ := H
  exact ⟨dgZ v, h2, h2.1.1, Or.inr (Or.inr ⟨q, v, h1.1, h1.2, fun d a b => rfl⟩)⟩
/-- the four numbers of rows -/
def rwsP (g : Int → Int) (w v : Int) : Prop := (w = 0 ∧ ∃ r, isRw g r ∧ stn g r ∧ v = chR g r) ∨ (w = 1 ∧ ∃ k, fmax (vaB g 4) (wtK g 4) 117649 k ∧ v = wtK g 4 k) ∨ (w = 2 ∧ ((min (nd g) (nu g) = 0 ∧ v = -1) ∨ (min (nd g) (nu g) ≠ 0 ∧ ∃ k, fmax (vaB g 5) (wtK g 5) 117649 k ∧ v = wtK g 5 k))) ∨ (w = 3 ∧ v = 1) ∨ (¬ (0 ≤ w ∧ w ≤ 3) ∧ v = -1)
theorem rwsP_u {g : Int → Int} (n : (0 ≤ nd g ∧ nd g ≤ 6) ∧ (0 ≤ nu g ∧ nu g ≤ 6)) {w v v' : Int} (x : rwsP g w v) (y : rwsP g w v') : v = v' := by
  rcases x with ⟨x0, r, x1, x2, x3⟩ | ⟨x0, k, x1, x2⟩ | ⟨x0, x1 | ⟨x1, k, x2, x3⟩⟩ | x | x <;> rcases y with ⟨y0, r', y1, y2, y3⟩ | ⟨y0, k', y1, y2⟩ | ⟨y0, y1 | ⟨y1, k', y2, y3⟩⟩ | y | y <;> first | omega | skip
  · rw [x3, y3, ch_e n.1.2 (stn_u n x1 y1 x2 y2)]
  · rw [x2, y2, fmax_u x1 y1]
  · rw [x3, y3, fmax_u x2 y2]
set_option maxHeartbeats 400000 in
theorem zp_X12_layRow_0 {ad : mA} {dd : Nat} {h : mH} {Q : mQ} {m : Nat} {g : Int → Int} (hk : rk h m) (HB : rB h m g) (HM : rM h m g)   (wf : wfF g) (kq : ∀ h1, frm (fun a k => (a = m ∧ (k = 45 ∨ k = 46)) ∨ (m + 16 ≤ a ∧ a ≤ m + 21)) h h1 → (lyE h1 m g 0) → Q none h1) : mCal TB0 ad (dd + 8) M_X12_layRow [.ref m, .int (zI 0)] h 0 0 Q := by
  refine ⟨Nat.le_of_ble_eq_true rfl, ?_⟩
  show mEv TB0 ad M_X12_layRow (dd + 8) (0, 0) (mCal TB0 ad (dd + 7)) (fun v h' z => z.1 = 0 ∧ Q v h') 0 [some (.ref m), some (.int (zI 0))] [] h (0, 0)
  have FR0 : frm (fun a k => (a = m ∧ (k = 45 ∨ k = 46)) ∨ (m + 16 ≤ a ∧ a ≤ m + 21)) h h := frm_0 h
  have w1 := rB_n HB
  have w2 := rB_nd HB
  have w3 := rB_nu HB
  refine e_iload_n dX12_layRow_0 rfl ?_
  refine z_if_ne 11 dX12_layRow_1 rfl ⟨by omega, by omega⟩ (fun c1 => ?_) (fun c1 => ?_)
  · exfalso; omega
  · skip
    refine e_aload_n dX12_layRow_4 rfl ?_
    refine e_callV [] dX12_layRow_5 tm_12_432 rfl (Nat.le_of_ble_eq_true rfl) (rk_s hk) (Nat.le_of_ble_eq_true rfl) (Nat.le_refl _) (Nat.le_refl _) rfl (zp_X12_layTold hk HB HM wf (fun  h2 f3 p4 => ?_))
    have k5 := rk_q (frm_s f3) hk
    have H6 := rB_c f3 (fun a k q => by omega) HB
    have H7 := rM_c f3 (fun a k q => by omega) HM
    have FR8 := frm_t FR0 (frm_m (S' := (fun a k => (a = m ∧ (k = 45 ∨ k = 46)) ∨ (m + 16 ≤ a ∧ a ≤ m + 21))) f3 (fun a k q => by omega))
    refine e_goto 38 dX12_layRow_8 rfl ?_
    refine e_vret dX12_layRow_38 rfl ⟨rfl, ?_⟩
    exact kq _ FR8 ⟨tlR g, p4, tlR_w wf, Or.inl ⟨rfl, fun d a b => rfl⟩⟩
set_option maxHeartbeats 400000 in
theorem zp_X12_layRow_1 {ad : mA} {dd : Nat} {h : mH} {Q : mQ} {m : Nat} {g : Int → Int} (hk : rk h m) (HB : rB h m g) (HM : rM h m g)   (wf : wfF g) (kq : ∀ h1, frm (fun a k => (a = m ∧ (k = 45 ∨ k = 46)) ∨ (m + 16 ≤ a ∧ a ≤ m + 21)) h h1 → (lyE h1 m g 1) → Q none h1) : mCal TB0 ad (dd + 8) M_X12_layRow [.ref m, .int (zI 1)] h 0 0 Q := by
  refine ⟨Nat.le_of_ble_eq_true rfl, ?_⟩
  show mEv TB0 ad M_X12_layRow (dd + 8) (0, 0) (mCal TB0 ad (dd + 7)) (fun v h' z => z.1 = 0 ∧ Q v h') 0 [some (.ref m), some (.int (zI 1))] [] h (0, 0)
  have FR0 : frm (fun a k => (a = m ∧ (k = 45 ∨ k = 46)) ∨ (m + 16 ≤ a ∧ a ≤ m + 21)) h h := frm_0 h
  have w1 := rB_n HB
  have w2 := rB_nd HB
  have w3 := rB_nu HB
  refine e_iload_n dX12_layRow_0 rfl ?_
  refine z_if_ne 11 dX12_layRow_1 rfl ⟨by omega, by omega⟩ (fun c1 => ?_) (fun c1 => ?_)
  · skip
    refine e_iload_n dX12_layRow_11 rfl ?_
    refine z_iconst (3) dX12_layRow_12 rfl ?_
    refine z_icmp_ge 33 dX12_layRow_13 rfl ⟨by omega, by omega⟩ ⟨by omega, by omega⟩ (fun c2 => ?_) (fun c2 => ?_)
    · exfalso; omega
    · skip
      refine e_aload_n dX12_layRow_16 rfl ?_
      refine e_iload_n dX12_layRow_17 rfl ?_
      refine z_iconst (2) dX12_layRow_18 rfl ?_
      refine z_icmp_ne 26 dX12_layRow_19 rfl ⟨by omega, by omega⟩ ⟨by omega, by omega⟩ (fun c3 => ?_) (fun c3 => ?_)
      · skip
        refine z_iconst (0) dX12_layRow_26 rfl ?_
        refine e_callV [.int _] dX12_layRow_27 tm_12_435 rfl (Nat.le_of_ble_eq_true rfl) (rk_s hk) (Nat.le_of_ble_eq_true rfl) (Nat.le_refl _) (Nat.le_refl _) rfl (zp_X12_layAsked_0 hk HB (fun  h4 f5 p6 => ?_))
        have k7 := rk_q (frm_s f5) hk
        have H8 := rB_c f5 (fun a k q => by omega) HB
        have H9 := rM_c f5 (fun a k q => by omega) HM
        have FR10 := frm_t FR0 (frm_m (S' := (fun a k => (a = m ∧ (k = 45 ∨ k = 46)) ∨ (m + 16 ≤ a ∧ a ≤ m + 21))) f5 (fun a k q => by omega))
        skip
        refine e_goto 38 dX12_layRow_30 rfl ?_
        refine e_vret dX12_layRow_38 rfl ⟨rfl, ?_⟩
        exact kq _ FR10 (lyE_st (by omega) p6)
      · exfalso; omega
  · exfalso; omega
set_option maxHeartbeats 400000 in
theorem zp_X12_layRow_2 {ad : mA} {dd : Nat} {h : mH} {Q : mQ} {m : Nat} {g : Int → Int} (hk : rk h m) (HB : rB h m g) (HM : rM h m g)   (wf : wfF g) (kq : ∀ h1, frm (fun a k => (a = m ∧ (k = 45 ∨ k = 46)) ∨ (m + 16 ≤ a ∧ a ≤ m + 21)) h h1 → (lyE h1 m g 2) → Q none h1) : mCal TB0 ad (dd + 8) M_X12_layRow [.ref m, .int (zI 2)] h 0 0 Q := by
  refine ⟨Nat.le_of_ble_eq_true rfl, ?_⟩
  show mEv TB0 ad M_X12_layRow (dd + 8) (0, 0) (mCal TB0 ad (dd + 7)) (fun v h' z => z.1 = 0 ∧ Q v h') 0 [some (.ref m), some (.int (zI 2))] [] h (0, 0)
  have FR0 : frm (fun a k => (a = m ∧ (k = 45 ∨ k = 46)) ∨ (m + 16 ≤ a ∧ a ≤ m + 21)) h h := frm_0 h
  have w1 := rB_n HB
  have w2 := rB_nd HB
  have w3 := rB_nu HB
  refine e_iload_n dX12_layRow_0 rfl ?_
  refine z_if_ne 11 dX12_layRow_1 rfl ⟨by omega, by omega⟩ (fun c1 => ?_) (fun c1 => ?_)
  · skip
    refine e_iload_n dX12_layRow_11 rfl ?_
    refine z_iconst (3) dX12_layRow_12 rfl ?_
    refine z_icmp_ge 33 dX12_layRow_13 rfl ⟨by omega, by omega⟩ ⟨by omega, by omega⟩ (fun c2 => ?_) (fun c2 => ?_)
    · exfalso; omega
    · skip
      refine e_aload_n dX12_layRow_16 rfl ?_
      refine e_iload_n dX12_layRow_17 rfl ?_
      refine z_iconst (2) dX12_layRow_18 rfl ?_
      refine z_icmp_ne 26 dX12_layRow_19 rfl ⟨by omega, by omega⟩ ⟨by omega, by omega⟩ (fun c3 => ?_) (fun c3 => ?_)
      · exfalso; omega
      · skip
        refine z_iconst (1) dX12_layRow_22 rfl ?_
        refine e_goto 27 dX12_layRow_23 rfl ?_
        refine e_callV [.int _] dX12_layRow_27 tm_12_435 rfl (Nat.le_of_ble_eq_true rfl) (rk_s hk) (Nat.le_of_ble_eq_true rfl) (Nat.le_refl _) (Nat.le_refl _) rfl (zp_X12_layAsked_1 hk HB (fun  h4 f5 p6 => ?_))
        have k7 := rk_q (frm_s f5) hk
        have H8 := rB_c f5 (fun a k q => by omega) HB
        have H9 := rM_c f5 (fun a k q => by omega) HM
        have FR10 := frm_t FR0 (frm_m (S' := (fun a k => (a = m ∧ (k = 45 ∨ k = 46)) ∨ (m + 16 ≤ a ∧ a ≤ m + 21))) f5 (fun a k q => by omega))
        skip
        refine e_goto 38 dX12_layRow_30 rfl ?_
        refine e_vret dX12_layRow_38 rfl ⟨rfl, ?_⟩
        exact kq _ FR10 (lyE_st (by omega) p6)
  · exfalso; omega
set_option maxHeartbeats 400000 in
theorem zp_X12_layRow_3 {ad : mA} {dd : Nat} {h : mH} {Q : mQ} {m : Nat} {g : Int → Int} (hk : rk h m) (HB : rB h m g) (HM : rM h m g)   (wf : wfF g) (kq : ∀ h1, frm (fun a k => (a = m ∧ (k = 45 ∨ k = 46)) ∨ (m + 16 ≤ a ∧ a ≤ m + 21)) h h1 → (lyE h1 m g 3) → Q none h1) : mCal TB0 ad (dd + 8) M_X12_layRow [.ref m, .int (zI 3)] h 0 0 Q := by
  refine ⟨Nat.le_of_ble_eq_true rfl, ?_⟩
  show mEv TB0 ad M_X12_layRow (dd + 8) (0, 0) (mCal TB0 ad (dd + 7)) (fun v h' z => z.1 = 0 ∧ Q v h') 0 [some (.ref m), some (.int (zI 3))] [] h (0, 0)
  have FR0 : frm (fun a k => (a = m ∧ (k = 45 ∨ k = 46)) ∨ (m + 16 ≤ a ∧ a ≤ m + 21)) h h := frm_0 h
  have w1 := rB_n HB
  have w2 := rB_nd HB
  have w3 := rB_nu HB
  refine e_iload_n dX12_layRow_0 rfl ?_
  refine z_if_ne 11 dX12_layRow_1 rfl ⟨by omega, by omega⟩ (fun c1 => ?_) (fun c1 => ?_)
  · skip
    refine e_iload_n dX12_layRow_11 rfl ?_
    refine z_iconst (3) dX12_layRow_12 rfl ?_
    refine z_icmp_ge 33 dX12_layRow_13 rfl ⟨by omega, by omega⟩ ⟨by omega, by omega⟩ (fun c2 => ?_) (fun c2 => ?_)
    · skip
      refine e_aload_n dX12_layRow_33 rfl ?_
      refine e_iload_n dX12_layRow_34 rfl ?_
      refine e_callV [.int _] dX12_layRow_35 tm_12_439 rfl (Nat.le_of_ble_eq_true rfl) (rk_s hk) (Nat.le_of_ble_eq_true rfl) (Nat.le_refl _) (Nat.le_refl _) rfl (zp_X12_findBest_3 hk HB HM (fun  h3 f4 p5 => ?_))
      have k6 := rk_q (frm_s f4) hk
      have H7 := rB_c f4 (fun a k q => by omega) HB
      have H8 := rM_c f4 (fun a k q => by omega) HM
      have FR9 := frm_t FR0 (frm_m (S' := (fun a k => (a = m ∧ (k = 45 ∨ k = 46)) ∨ (m + 16 ≤ a ∧ a ≤ m + 21))) f4 (fun a k q => by omega))
      skip
      refine e_vret dX12_layRow_38 rfl ⟨rfl, ?_⟩
      exact kq _ FR9 (lyE_3 (by omega) p5)
    · exfalso; omega
  · exfalso; omega
set_option maxHeartbeats 400000 in
theorem zp_X12_layRow_4 {ad : mA} {dd : Nat} {h : mH} {Q : mQ} {m : Nat} {g : Int → Int} (hk : rk h m) (HB : rB h m g) (HM : rM h m g)   (wf : wfF g) (kq : ∀ h1, frm (fun a k => (a = m ∧ (k = 45 ∨ k = 46)) ∨ (m + 16 ≤ a ∧ a ≤ m + 21)) h h1 → (lyE h1 m g 4) → Q none h1) : mCal TB0 ad (dd + 8) M_X12_layRow [.ref m, .int (zI 4)] h 0 0 Q := by
  refine ⟨Nat.le_of_ble_eq_true rfl, ?_⟩
  show mEv TB0 ad M_X12_layRow (dd + 8) (0, 0) (mCal TB0 ad (dd + 7)) (fun v h' z => z.1 = 0 ∧ Q v h') 0 [some (.ref m), some (.int (zI 4))] [] h (0, 0)
  have FR0 : frm (fun a k => (a = m ∧ (k = 45 ∨ k = 46)) ∨ (m + 16 ≤ a ∧ a ≤ m + 21)) h h := frm_0 h
  have w1 := rB_n HB
  have w2 := rB_nd HB
  have w3 := rB_nu HB
  refine e_iload_n dX12_layRow_0 rfl ?_
  refine z_if_ne 11 dX12_layRow_1 rfl ⟨by omega, by omega⟩ (fun c1 => ?_) (fun c1 => ?_)
  · skip
    refine e_iload_n dX12_layRow_11 rfl ?_
    refine z_iconst (3) dX12_layRow_12 rfl ?_
    refine z_icmp_ge 33 dX12_layRow_13 rfl ⟨by omega, by omega⟩ ⟨by omega, by omega⟩ (fun c2 => ?_) (fun c2 => ?_)
    · skip
      refine e_aload_n dX12_layRow_33 rfl ?_
      refine e_iload_n dX12_layRow_34 rfl ?_
      refine e_callV [.int _] dX12_layRow_35 tm_12_439 rfl (Nat.le_of_ble_eq_true rfl) (rk_s hk) (Nat.le_of_ble_eq_true rfl) (Nat.le_refl _) (Nat.le_refl _) rfl (zp_X12_findBest_4 hk HB HM (fun  h3 f4 p5 => ?_))
      have k6 := rk_q (frm_s f4) hk
      have H7 := rB_c f4 (fun a k q => by omega) HB
      have H8 := rM_c f4 (fun a k q => by omega) HM
      have FR9 := frm_t FR0 (frm_m (S' := (fun a k => (a = m ∧ (k = 45 ∨ k = 46)) ∨ (m + 16 ≤ a ∧ a ≤ m + 21))) f4 (fun a k q => by omega))
      skip
      refine e_vret dX12_layRow_38 rfl ⟨rfl, ?_⟩
      exact kq _ FR9 (lyE_b (by omega) p5)
    · exfalso; omega
  · exfalso; omega
set_option maxHeartbeats 400000 in
theorem zp_X12_layRow_5 {ad : mA} {dd : Nat} {h : mH} {Q : mQ} {m : Nat} {g : Int → Int} (hk : rk h m) (HB : rB h m g) (HM : rM h m g)   (wf : wfF g) (kq : ∀ h1, frm (fun a k => (a = m ∧ (k = 45 ∨ k = 46)) ∨ (m + 16 ≤ a ∧ a ≤ m + 21)) h h1 → (lyE h1 m g 5) → Q none h1) : mCal TB0 ad (dd + 8) M_X12_layRow [.ref m, .int (zI 5)] h 0 0 Q := by
  refine ⟨Nat.le_of_ble_eq_true rfl, ?_⟩
  show mEv TB0 ad M_X12_layRow (dd + 8) (0, 0) (mCal TB0 ad (dd + 7)) (fun v h' z => z.1 = 0 ∧ Q v h') 0 [some (.ref m), some (.int (zI 5))] [] h (0, 0)
  have FR0 : frm (fun a k => (a = m ∧ (k = 45 ∨ k = 46)) ∨ (m + 16 ≤ a ∧ a ≤ m + 21)) h h := frm_0 h
  have w1 := rB_n HB
  have w2 := rB_nd HB
  have w3 := rB_nu HB
  refine e_iload_n dX12_layRow_0 rfl ?_
  refine z_if_ne 11 dX12_layRow_1 rfl ⟨by omega, by omega⟩ (fun c1 => ?_) (fun c1 => ?_)
  · skip
    refine e_iload_n dX12_layRow_11 rfl ?_
    refine z_iconst (3) dX12_layRow_12 rfl ?_
    refine z_icmp_ge 33 dX12_layRow_13 rfl ⟨by omega, by omega⟩ ⟨by omega, by omega⟩ (fun c2 => ?_) (fun c2 => ?_)
    · skip
      refine e_aload_n dX12_layRow_33 rfl ?_
      refine e_iload_n dX12_layRow_34 rfl ?_
      refine e_callV [.int _] dX12_layRow_35 tm_12_439 rfl (Nat.le_of_ble_eq_true rfl) (rk_s hk) (Nat.le_of_ble_eq_true rfl) (Nat.le_refl _) (Nat.le_refl _) rfl (zp_X12_findBest_5 hk HB HM (fun  h3 f4 p5 => ?_))
      have k6 := rk_q (frm_s f4) hk
      have H7 := rB_c f4 (fun a k q => by omega) HB
      have H8 := rM_c f4 (fun a k q => by omega) HM
      have FR9 := frm_t FR0 (frm_m (S' := (fun a k => (a = m ∧ (k = 45 ∨ k = 46)) ∨ (m + 16 ≤ a ∧ a ≤ m + 21))) f4 (fun a k q => by omega))
      skip
      refine e_vret dX12_layRow_38 rfl ⟨rfl, ?_⟩
      exact kq _ FR9 (lyE_b (by omega) p5)
    · exfalso; omega
  · exfalso; omega
set_option maxHeartbeats 1000000 in
theorem zp_X12_leaving_0 {ad : mA} {dd : Nat} {h : mH} {Q : mQ} {m : Nat} {σ : Sg} (hk : rk h m) (HR : refT h m 0 σ)  (f : Int) (f_r : -2147483648 ≤ f ∧ f < 2147483648) (p1 : 0 ≤ f) (p2 : f < cn σ 0) (kq : ∀ v : Int, (∃ r, rwR (sG σ f) 0 r ∧ v = lvN (sG σ f) r) → ∀ h1, frm (fun a i => a = m ∨ (m + 9 ≤ a ∧ a < m + 30)) h h1 → Q (some (.int (zI v))) h1) : mCal TB0 ad (dd + 9) M_X12_leaving [.ref m, .int (zI f), .int (zI 0)] h 0 0 Q := by
  refine ⟨Nat.le_of_ble_eq_true rfl, ?_⟩
  show mEv TB0 ad M_X12_leaving (dd + 9) (0, 0) (mCal TB0 ad (dd + 8)) (fun v h' z => z.1 = 0 ∧ Q v h') 0 [some (.ref m), some (.int (zI f)), some (.int (zI 0))] [] h (0, 0)
  have FR0 : frm (fun a i => a = m ∨ (m + 9 ≤ a ∧ a < m + 30)) h h := frm_0 h
  have w1 := wS_n (refT_w HR)
  have W := (refT_w HR).2.2.1 f p1 p2
  refine e_aload_n dX12_leaving_0 rfl ?_
  refine z_iconst (0) dX12_leaving_1 rfl ?_
  refine z_put dX12_leaving_2 tf_12_103 (rk_s hk) rfl (Or.inl rfl) (fun h1 e2 => ?_)
  have f3 := frm_1 e2
  have k4 := rk_q (frm_s f3) hk
  have H5 := refT_c f3 (fun a k q1 q2 => by omega) HR
  have FR6 := frm_t FR0 (frm_m (S' := (fun a i => a = m ∨ (m + 9 ≤ a ∧ a < m + 30))) f3 (fun a k q => by omega))
  refine e_aload_n dX12_leaving_5 rfl ?_
  refine e_iload_n dX12_leaving_6 rfl ?_
  refine e_callV [.int _] dX12_leaving_7 tm_12_292 rfl (Nat.le_of_ble_eq_true rfl) (rk_s k4) (Nat.le_of_ble_eq_true rfl) (Nat.le_refl _) (Nat.le_refl _) rfl (zp_X12_hand_in k4 H5 f ⟨by omega, by omega⟩ (by omega) (by omega) (fun  h7 f8 p9 p10 p11 p12 => ?_))
  have k13 := rk_q (frm_s f8) k4
  have H14 := refT_c f8 (fun a k q1 q2 => by omega) H5
  have FR15 := frm_t FR6 (frm_m (S' := (fun a i => a = m ∨ (m + 9 ≤ a ∧ a < m + 30))) f8 (fun a k q => by omega))
  have w5 := rB_n p9
  have w6 := rC_n p11
  refine z_ifb_eq 22 dX12_leaving_10 rfl (fun c16 => ?_) (fun c16 => ?_)
  · exact absurd trivial c16
  · skip
    refine e_iload_n dX12_leaving_13 rfl ?_
    refine z_iconst (0) dX12_leaving_14 rfl ?_
    refine z_iconst (5) dX12_leaving_15 rfl ?_
    refine e_callS [.int _, .int _, .int _] dX12_leaving_16 tm_12_115 rfl (Nat.le_of_ble_eq_true rfl) (Nat.le_refl _) (Nat.le_refl _) rfl (zp_X12_in 0 ⟨by omega, by omega⟩ 0 ⟨by omega, by omega⟩ 5 ⟨by omega, by omega⟩ ?_)
    refine z_ifb_ne 24 dX12_leaving_19 rfl (fun c17 => ?_) (fun c17 => ?_)
    · skip
      refine e_aload_n dX12_leaving_24 rfl ?_
      refine e_iload_n dX12_leaving_25 rfl ?_
      refine e_callV [.int _] dX12_leaving_26 tm_12_442 rfl (Nat.le_of_ble_eq_true rfl) (rk_s k13) (Nat.le_of_ble_eq_true rfl) (Nat.le_refl _) (Nat.le_refl _) rfl (zp_X12_layRow_0 k13 p9 p10 W (fun  h18 f19 p20 => ?_))
      have k21 := rk_q (frm_s f19) k13
      have H22 := refT_c f19 (fun a k q1 q2 => by omega) H14
      have H23 := rB_c f19 (fun a k q => by omega) p9
      have H24 := rM_c f19 (fun a k q => by omega) p10
      have H25 := rC_c f19 (fun a k q => by omega) p11
      have H26 := rK_c f19 (fun a k q1 q2 => by omega) p12
      have FR27 := frm_t FR15 (frm_m (S' := (fun a i => a = m ∨ (m + 9 ≤ a ∧ a < m + 30))) f19 (fun a k q => by omega))
      obtain ⟨r, RW, RR⟩ := p20
      refine e_aload_n dX12_leaving_29 rfl ?_
      refine e_callV [] dX12_leaving_30 tm_12_403 rfl (Nat.le_of_ble_eq_true rfl) (rk_s k21) (Nat.le_of_ble_eq_true rfl) (Nat.le_refl _) (Nat.le_refl _) rfl (zp_X12_leavingNow k21 H23 RW (fun  h28 f29 p30 => ?_))
      have k31 := rk_q (frm_s f29) k21
      have H32 := refT_c f29 (fun a k q1 q2 => by omega) H22
      have H33 := rB_c f29 (fun a k q => by omega) H23
      have H34 := rM_c f29 (fun a k q => by omega) H24
      have H35 := rC_c f29 (fun a k q => by omega) H25
      have H36 := rK_c f29 (fun a k q1 q2 => by omega) H26
      have H37 := rRw_c f29 (fun a k q => by omega) RW
      have FR38 := frm_t FR27 (frm_m (S' := (fun a i => a = m ∨ (m + 9 ≤ a ∧ a < m + 30))) f29 (fun a k q => by omega))
      have y39 := lvN_b (show (0 ≤ nd (sG σ f) ∧ nd (sG σ f) ≤ 6) ∧ (0 ≤ nu (sG σ f) ∧ nu (sG σ f) ≤ 6) by omega) r
      refine z_iret dX12_leaving_33 rfl ⟨rfl, ?_⟩
      refine kq _ ?_ _ FR38
      exact ⟨r, RR, rfl⟩
    · exfalso; omega
set_option maxHeartbeats 1000000 in
theorem zp_X12_leaving_1 {ad : mA} {dd : Nat} {h : mH} {Q : mQ} {m : Nat} {σ : Sg} (hk : rk h m) (HR : refT h m 0 σ)  (f : Int) (f_r : -2147483648 ≤ f ∧ f < 2147483648) (p1 : 0 ≤ f) (p2 : f < cn σ 0) (kq : ∀ v : Int, (∃ r, rwR (sG σ f) 1 r ∧ v = lvN (sG σ f) r) → ∀ h1, frm (fun a i => a = m ∨ (m + 9 ≤ a ∧ a < m + 30)) h h1 → Q (some (.int (zI v))) h1) : mCal TB0 ad (dd + 9) M_X12_leaving [.ref m, .int (zI f), .int (zI 1)] h 0 0 Q := by
  refine ⟨Nat.le_of_ble_eq_true rfl, ?_⟩
  show mEv TB0 ad M_X12_leaving (dd + 9) (0, 0) (mCal TB0 ad (dd + 8)) (fun v h' z => z.1 = 0 ∧ Q v h') 0 [some (.ref m), some (.int (zI f)), some (.int (zI 1))] [] h (0, 0)
  have FR0 : frm (fun a i => a = m ∨ (m + 9 ≤ a ∧ a < m + 30)) h h := frm_0 h
  have w1 := wS_n (refT_w HR)
  have W := (refT_w HR).2.2.1 f p1 p2
  refine e_aload_n dX12_leaving_0 rfl ?_
  refine z_iconst (0) dX12_leaving_1 rfl ?_
  refine z_put dX12_leaving_2 tf_12_103 (rk_s hk) rfl (Or.inl rfl) (fun h1 e2 => ?_)
  have f3 := frm_1 e2
  have k4 := rk_q (frm_s f3) hk
  have H5 := refT_c f3 (fun a k q1 q2 => by omega) HR
  have FR6 := frm_t FR0 (frm_m (S' := (fun a i => a = m ∨ (m + 9 ≤ a ∧ a < m + 30))) f3 (fun a k q => by omega))
  refine e_aload_n dX12_leaving_5 rfl ?_
  refine e_iload_n dX12_leaving_6 rfl ?_
  refine e_callV [.int _] dX12_leaving_7 tm_12_292 rfl (Nat.le_of_ble_eq_true rfl) (rk_s k4) (Nat.le_of_ble_eq_true rfl) (Nat.le_refl _) (Nat.le_refl _) rfl (zp_X12_hand_in k4 H5 f ⟨by omega, by omega⟩ (by omega) (by omega) (fun  h7 f8 p9 p10 p11 p12 => ?_))
  have k13 := rk_q (frm_s f8) k4
  have H14 := refT_c f8 (fun a k q1 q2 => by omega) H5
  have FR15 := frm_t FR6 (frm_m (S' := (fun a i => a = m ∨ (m + 9 ≤ a ∧ a < m + 30))) f8 (fun a k q => by omega))
  have w5 := rB_n p9
  have w6 := rC_n p11
  refine z_ifb_eq 22 dX12_leaving_10 rfl (fun c16 => ?_) (fun c16 => ?_)
  · exact absurd trivial c16
  · skip
    refine e_iload_n dX12_leaving_13 rfl ?_
    refine z_iconst (0) dX12_leaving_14 rfl ?_
    refine z_iconst (5) dX12_leaving_15 rfl ?_
    refine e_callS [.int _, .int _, .int _] dX12_leaving_16 tm_12_115 rfl (Nat.le_of_ble_eq_true rfl) (Nat.le_refl _) (Nat.le_refl _) rfl (zp_X12_in 1 ⟨by omega, by omega⟩ 0 ⟨by omega, by omega⟩ 5 ⟨by omega, by omega⟩ ?_)
    refine z_ifb_ne 24 dX12_leaving_19 rfl (fun c17 => ?_) (fun c17 => ?_)
    · skip
      refine e_aload_n dX12_leaving_24 rfl ?_
      refine e_iload_n dX12_leaving_25 rfl ?_
      refine e_callV [.int _] dX12_leaving_26 tm_12_442 rfl (Nat.le_of_ble_eq_true rfl) (rk_s k13) (Nat.le_of_ble_eq_true rfl) (Nat.le_refl _) (Nat.le_refl _) rfl (zp_X12_layRow_1 k13 p9 p10 W (fun  h18 f19 p20 => ?_))
      have k21 := rk_q (frm_s f19) k13
      have H22 := refT_c f19 (fun a k q1 q2 => by omega) H14
      have H23 := rB_c f19 (fun a k q => by omega) p9
      have H24 := rM_c f19 (fun a k q => by omega) p10
      have H25 := rC_c f19 (fun a k q => by omega) p11
      have H26 := rK_c f19 (fun a k q1 q2 => by omega) p12
      have FR27 := frm_t FR15 (frm_m (S' := (fun a i => a = m ∨ (m + 9 ≤ a ∧ a < m + 30))) f19 (fun a k q => by omega))
      obtain ⟨r, RW, RR⟩ := p20
      refine e_aload_n dX12_leaving_29 rfl ?_
      refine e_callV [] dX12_leaving_30 tm_12_403 rfl (Nat.le_of_ble_eq_true rfl) (rk_s k21) (Nat.le_of_ble_eq_true rfl) (Nat.le_refl _) (Nat.le_refl _) rfl (zp_X12_leavingNow k21 H23 RW (fun  h28 f29 p30 => ?_))
      have k31 := rk_q (frm_s f29) k21
      have H32 := refT_c f29 (fun a k q1 q2 => by omega) H22
      have H33 := rB_c f29 (fun a k q => by omega) H23
      have H34 := rM_c f29 (fun a k q => by omega) H24
      have H35 := rC_c f29 (fun a k q => by omega) H25
      have H36 := rK_c f29 (fun a k q1 q2 => by omega) H26
      have H37 := rRw_c f29 (fun a k q => by omega) RW
      have FR38 := frm_t FR27 (frm_m (S' := (fun a i => a = m ∨ (m + 9 ≤ a ∧ a < m + 30))) f29 (fun a k q => by omega))
      have y39 := lvN_b (show (0 ≤ nd (sG σ f) ∧ nd (sG σ f) ≤ 6) ∧ (0 ≤ nu (sG σ f) ∧ nu (sG σ f) ≤ 6) by omega) r
      refine z_iret dX12_leaving_33 rfl ⟨rfl, ?_⟩
      refine kq _ ?_ _ FR38
      exact ⟨r, RR, rfl⟩
    · exfalso; omega
set_option maxHeartbeats 1000000 in
theorem zp_X12_row_1 {ad : mA} {dd : Nat} {h : mH} {Q : mQ} {m : Nat} {σ : Sg} (hk : rk h m) (HR : refT h m 0 σ)  (f : Int) (f_r : -2147483648 ≤ f ∧ f < 2147483648) (k : Int) (k_r : -2147483648 ≤ k ∧ k < 2147483648) (p1 : 0 ≤ f) (p2 : f < cn σ 0) (kq : ∀ v : Int, (((-1 ≤ k ∧ k < nd (sG σ f)) ∧ ∃ r, rwR (sG σ f) 1 r ∧ v = if k = -1 then inR r else r k) ∨ (¬ (-1 ≤ k ∧ k < nd (sG σ f)) ∧ v = -1)) → ∀ h1, frm (fun a i => a = m ∨ (m + 9 ≤ a ∧ a < m + 30)) h h1 → Q (some (.int (zI v))) h1) : mCal TB0 ad (dd + 9) M_X12_row [.ref m, .int (zI f), .int (zI 1), .int (zI k)] h 0 0 Q := by
  refine ⟨Nat.le_of_ble_eq_true rfl, ?_⟩
  show mEv TB0 ad M_X12_row (dd + 9) (0, 0) (mCal TB0 ad (dd + 8)) (fun v h' z => z.1 = 0 ∧ Q v h') 0 [some (.ref m), some (.int (zI f)), some (.int (zI 1)), some (.int (zI k))] [] h (0, 0)
  have FR0 : frm (fun a i => a = m ∨ (m + 9 ≤ a ∧ a < m + 30)) h h := frm_0 h
  have w1 := wS_n (refT_w HR)
  have W := (refT_w HR).2.2.1 f p1 p2
  refine e_aload_n dX12_row_0 rfl ?_
  refine z_iconst (0) dX12_row_1 rfl ?_
  refine z_put dX12_row_2 tf_12_103 (rk_s hk) rfl (Or.inl rfl) (fun h1 e2 => ?_)
  have f3 := frm_1 e2
  have k4 := rk_q (frm_s f3) hk
  have H5 := refT_c f3 (fun a k q1 q2 => by omega) HR
  have FR6 := frm_t FR0 (frm_m (S' := (fun a i => a = m ∨ (m + 9 ≤ a ∧ a < m + 30))) f3 (fun a k q => by omega))
  refine e_aload_n dX12_row_5 rfl ?_
  refine e_iload_n dX12_row_6 rfl ?_
  refine e_callV [.int _] dX12_row_7 tm_12_292 rfl (Nat.le_of_ble_eq_true rfl) (rk_s k4) (Nat.le_of_ble_eq_true rfl) (Nat.le_refl _) (Nat.le_refl _) rfl (zp_X12_hand_in k4 H5 f ⟨by omega, by omega⟩ (by omega) (by omega) (fun  h7 f8 p9 p10 p11 p12 => ?_))
  have k13 := rk_q (frm_s f8) k4
  have H14 := refT_c f8 (fun a k q1 q2 => by omega) H5
  have FR15 := frm_t FR6 (frm_m (S' := (fun a i => a = m ∨ (m + 9 ≤ a ∧ a < m + 30))) f8 (fun a k q => by omega))
  have w5 := rB_n p9
  have w6 := rC_n p11
  refine z_ifb_eq 36 dX12_row_10 rfl (fun c16 => ?_) (fun c16 => ?_)
  · exact absurd trivial c16
  · skip
    refine e_iload_n dX12_row_13 rfl ?_
    refine z_iconst (1) dX12_row_14 rfl ?_
    refine z_iconst (5) dX12_row_15 rfl ?_
    refine e_callS [.int _, .int _, .int _] dX12_row_16 tm_12_115 rfl (Nat.le_of_ble_eq_true rfl) (Nat.le_refl _) (Nat.le_refl _) rfl (zp_X12_in 1 ⟨by omega, by omega⟩ 1 ⟨by omega, by omega⟩ 5 ⟨by omega, by omega⟩ ?_)
    refine z_ifb_eq 36 dX12_row_19 rfl (fun c17 => ?_) (fun c17 => ?_)
    · exfalso; omega
    · skip
      refine e_iload_n dX12_row_22 rfl ?_
      refine z_iconst (-1) dX12_row_23 rfl ?_
      refine e_aload_n dX12_row_24 rfl ?_
      refine z_get (nd (sG σ f)) dX12_row_25 tf_12_271 (rk_s k13) (Or.inl rfl) (rB_nd p9) ?_
      have y18 := rB_n p9
      refine z_iconst (1) dX12_row_28 rfl ?_
      refine z_isub dX12_row_29 ?_
      refine e_callS [.int _, .int _, .int _] dX12_row_30 tm_12_115 rfl (Nat.le_of_ble_eq_true rfl) (Nat.le_refl _) (Nat.le_refl _) rfl (zp_X12_in k ⟨by omega, by omega⟩ (-1) ⟨by omega, by omega⟩ ((nd (sG σ f)) - 1) ⟨by omega, by omega⟩ ?_)
      refine z_ifb_ne 38 dX12_row_33 rfl (fun c19 => ?_) (fun c19 => ?_)
      · skip
        refine e_aload_n dX12_row_38 rfl ?_
        refine e_iload_n dX12_row_39 rfl ?_
        refine e_callV [.int _] dX12_row_40 tm_12_442 rfl (Nat.le_of_ble_eq_true rfl) (rk_s k13) (Nat.le_of_ble_eq_true rfl) (Nat.le_refl _) (Nat.le_refl _) rfl (zp_X12_layRow_1 k13 p9 p10 W (fun  h20 f21 p22 => ?_))
        have k23 := rk_q (frm_s f21) k13
        have H24 := refT_c f21 (fun a k q1 q2 => by omega) H14
        have H25 := rB_c f21 (fun a k q => by omega) p9
        have H26 := rM_c f21 (fun a k q => by omega) p10
        have H27 := rC_c f21 (fun a k q => by omega) p11
        have H28 := rK_c f21 (fun a k q1 q2 => by omega) p12
        have FR29 := frm_t FR15 (frm_m (S' := (fun a i => a = m ∨ (m + 9 ≤ a ∧ a < m + 30))) f21 (fun a k q => by omega))
        obtain ⟨r, RW, RR⟩ := p22
        refine e_iload_n dX12_row_43 rfl ?_
        refine z_iconst (-1) dX12_row_44 rfl ?_
        refine z_icmp_ne 55 dX12_row_45 rfl ⟨by omega, by omega⟩ ⟨by omega, by omega⟩ (fun c30 => ?_) (fun c30 => ?_)
        · skip
          refine e_aload_n dX12_row_55 rfl ?_
          refine e_get (.ref (m + 16)) dX12_row_56 tf_12_56 (rk_s k23) (congrArg va_rf (rk_r16 k23)) ?_
          refine e_iload_n dX12_row_59 rfl ?_
          refine z_ild (r k) dX12_row_60 (rk_a16 k23) (by decide) (by omega) (by omega) (RW.2 k (by omega) (by omega)) ?_
          have y31 := isRw_f RW.1.1 (show 0 ≤ k by omega) (by omega)
          have y32 := RW.1.2 k (by omega) (by omega)
          refine z_iret dX12_row_61 rfl ⟨rfl, ?_⟩
          refine kq _ ?_ _ FR29
          first | exact Or.inr ⟨by omega, rfl⟩ | exact Or.inl ⟨by omega, r, RR, by rw [if_pos (by omega)]⟩ | exact Or.inl ⟨by omega, r, RR, by rw [if_neg (by omega)]⟩
        · skip
          refine e_aload_n dX12_row_48 rfl ?_
          refine e_callV [] dX12_row_49 tm_12_413 rfl (Nat.le_of_ble_eq_true rfl) (rk_s k23) (Nat.le_of_ble_eq_true rfl) (Nat.le_refl _) (Nat.le_refl _) rfl (zp_X12_inRow k23 RW ?_)
          have y33 := inR_b r
          refine e_goto 61 dX12_row_52 rfl ?_
          refine z_iret dX12_row_61 rfl ⟨rfl, ?_⟩
          refine kq _ ?_ _ FR29
          first | exact Or.inr ⟨by omega, rfl⟩ | exact Or.inl ⟨by omega, r, RR, by rw [if_pos (by omega)]⟩ | exact Or.inl ⟨by omega, r, RR, by rw [if_neg (by omega)]⟩
      · skip
        refine z_iconst (-1) dX12_row_36 rfl ?_
        refine z_iret dX12_row_37 rfl ⟨rfl, ?_⟩
        refine kq _ ?_ _ FR15
        first | exact Or.inr ⟨by omega, rfl⟩ | exact Or.inl ⟨by omega, r, RR, by rw [if_pos (by omega)]⟩ | exact Or.inl ⟨by omega, r, RR, by rw [if_neg (by omega)]⟩
set_option maxHeartbeats 1000000 in
theorem zp_X12_moves_1 {ad : mA} {dd : Nat} {h : mH} {Q : mQ} {m : Nat} {σ : Sg} (hk : rk h m) (HR : refT h m 0 σ)  (f : Int) (f_r : -2147483648 ≤ f ∧ f < 2147483648) (p : Prop) [Decidable p] (p1 : 0 ≤ f) (p2 : f < cn σ 0) (kq : ∀ v : Int, (∃ r, rwR (sG σ f) 1 r ∧ v = if p then mvR (sG σ f) r else mvP (sG σ f) r) → ∀ h1, frm (fun a i => a = m ∨ (m + 9 ≤ a ∧ a < m + 30)) h h1 → Q (some (.int (zI v))) h1) : mCal TB0 ad (dd + 9) M_X12_moves [.ref m, .int (zI f), .int (zI 1), .int (zI (bZ p))] h 0 0 Q := by
  refine ⟨Nat.le_of_ble_eq_true rfl, ?_⟩
  show mEv TB0 ad M_X12_moves (dd + 9) (0, 0) (mCal TB0 ad (dd + 8)) (fun v h' z => z.1 = 0 ∧ Q v h') 0 [some (.ref m), some (.int (zI f)), some (.int (zI 1)), some (.int (zI (bZ p))), none, none, none, none] [] h (0, 0)
  have FR0 : frm (fun a i => a = m ∨ (m + 9 ≤ a ∧ a < m + 30)) h h := frm_0 h
  have w1 := wS_n (refT_w HR)
  have W := (refT_w HR).2.2.1 f p1 p2
  refine e_aload_n dX12_moves_0 rfl ?_
  refine z_iconst (0) dX12_moves_1 rfl ?_
  refine z_put dX12_moves_2 tf_12_103 (rk_s hk) rfl (Or.inl rfl) (fun h1 e2 => ?_)
  have f3 := frm_1 e2
  have k4 := rk_q (frm_s f3) hk
  have H5 := refT_c f3 (fun a k q1 q2 => by omega) HR
  have FR6 := frm_t FR0 (frm_m (S' := (fun a i => a = m ∨ (m + 9 ≤ a ∧ a < m + 30))) f3 (fun a k q => by omega))
  refine e_aload_n dX12_moves_5 rfl ?_
  refine e_iload_n dX12_moves_6 rfl ?_
  refine e_callV [.int _] dX12_moves_7 tm_12_292 rfl (Nat.le_of_ble_eq_true rfl) (rk_s k4) (Nat.le_of_ble_eq_true rfl) (Nat.le_refl _) (Nat.le_refl _) rfl (zp_X12_hand_in k4 H5 f ⟨by omega, by omega⟩ (by omega) (by omega) (fun  h7 f8 p9 p10 p11 p12 => ?_))
  have k13 := rk_q (frm_s f8) k4
  have H14 := refT_c f8 (fun a k q1 q2 => by omega) H5
  have FR15 := frm_t FR6 (frm_m (S' := (fun a i => a = m ∨ (m + 9 ≤ a ∧ a < m + 30))) f8 (fun a k q => by omega))
  have w5 := rB_n p9
  have w6 := rC_n p11
  refine z_ifb_eq 22 dX12_moves_10 rfl (fun c16 => ?_) (fun c16 => ?_)
  · exact absurd trivial c16
  · skip
    refine e_iload_n dX12_moves_13 rfl ?_
    refine z_iconst (1) dX12_moves_14 rfl ?_
    refine z_iconst (5) dX12_moves_15 rfl ?_
    refine e_callS [.int _, .int _, .int _] dX12_moves_16 tm_12_115 rfl (Nat.le_of_ble_eq_true rfl) (Nat.le_refl _) (Nat.le_refl _) rfl (zp_X12_in 1 ⟨by omega, by omega⟩ 1 ⟨by omega, by omega⟩ 5 ⟨by omega, by omega⟩ ?_)
    refine z_ifb_ne 24 dX12_moves_19 rfl (fun c17 => ?_) (fun c17 => ?_)
    · skip
      refine e_aload_n dX12_moves_24 rfl ?_
      refine e_iload_n dX12_moves_25 rfl ?_
      refine e_callV [.int _] dX12_moves_26 tm_12_442 rfl (Nat.le_of_ble_eq_true rfl) (rk_s k13) (Nat.le_of_ble_eq_true rfl) (Nat.le_refl _) (Nat.le_refl _) rfl (zp_X12_layRow_1 k13 p9 p10 W (fun  h18 f19 p20 => ?_))
      have k21 := rk_q (frm_s f19) k13
      have H22 := refT_c f19 (fun a k q1 q2 => by omega) H14
      have H23 := rB_c f19 (fun a k q => by omega) p9
      have H24 := rM_c f19 (fun a k q => by omega) p10
      have H25 := rC_c f19 (fun a k q => by omega) p11
      have H26 := rK_c f19 (fun a k q1 q2 => by omega) p12
      have FR27 := frm_t FR15 (frm_m (S' := (fun a i => a = m ∨ (m + 9 ≤ a ∧ a < m + 30))) f19 (fun a k q => by omega))
      obtain ⟨r, RW, RR⟩ := p20
      refine z_iconst (0) dX12_moves_29 rfl ?_
      refine e_istore (L' := [_, _, _, _, _, _, _, _]) dX12_moves_30 (Nat.le_of_ble_eq_true rfl) rfl ?_
      refine z_iconst (0) dX12_moves_32 rfl ?_
      refine e_istore (L' := [_, _, _, _, _, _, _, _]) dX12_moves_33 (Nat.le_of_ble_eq_true rfl) rfl ?_
      refine z_iconst (0) dX12_moves_35 rfl ?_
      refine e_istore (L' := [_, _, _, _, _, _, _, _]) dX12_moves_36 (Nat.le_of_ble_eq_true rfl) rfl ?_
      have lp28 : ∀ (n28 : Nat) (s t d : Int), (nd (sG σ f) - d).toNat = n28 → (0 ≤ d ∧ d ≤ nd (sG σ f)) → ((0 ≤ s ∧ s ≤ d) ∧ (0 ≤ t ∧ t ≤ d)) → (s = sumZ (fun d => bZ (tlR (sG σ f) d < 6 ∧ tlR (sG σ f) d ≠ r d)) d.toNat) → (t = sumZ (fun d => bZ (r d < 6 ∧ tlR (sG σ f) d ≠ r d)) d.toNat) → mEv TB0 ad M_X12_moves (dd + 9) (0, 0) (mCal TB0 ad (dd + 8)) (fun v h' z => z.1 = 0 ∧ Q v h') 38 [some (.ref m), some (.int (zI f)), some (.int (zI 1)), some (.int (zI (bZ p))), some (.int (zI s)), some (.int (zI t)), some (.int (zI d)), none] [] h18 (0, 0) := by
        intro n28
        induction n28 using Nat.strongRecOn with
        | ind n28 ih28 =>
        intro s t d  hn28  I1 I2 I3 I4
        refine e_iload dX12_moves_38 rfl ?_
        refine e_aload_n dX12_moves_40 rfl ?_
        refine z_get (nd (sG σ f)) dX12_moves_41 tf_12_271 (rk_s k21) (Or.inl rfl) (rB_nd H23) ?_
        have y29 := rB_n H23
        refine z_icmp_ge 139 dX12_moves_44 rfl ⟨by omega, by omega⟩ ⟨by omega, by omega⟩ (fun c30 => ?_) (fun c30 => ?_)
        · skip
          refine e_iload_n dX12_moves_139 rfl ?_
          refine z_ifb_eq 148 dX12_moves_140 rfl (fun c31 => ?_) (fun c31 => ?_)
          · skip
            refine e_iload dX12_moves_148 rfl ?_
            refine z_iret dX12_moves_150 rfl ⟨rfl, ?_⟩
            refine kq _ ?_ _ FR27
            first | exact ⟨r, RR, by rw [if_pos (by assumption), I4, show d = nd (sG σ f) by omega]; rfl⟩ | exact ⟨r, RR, by rw [if_neg (by assumption), I3, show d = nd (sG σ f) by omega]; rfl⟩
          · skip
            refine e_iload dX12_moves_143 rfl ?_
            refine e_goto 150 dX12_moves_145 rfl ?_
            refine z_iret dX12_moves_150 rfl ⟨rfl, ?_⟩
            refine kq _ ?_ _ FR27
            first | exact ⟨r, RR, by rw [if_pos (by assumption), I4, show d = nd (sG σ f) by omega]; rfl⟩ | exact ⟨r, RR, by rw [if_neg (by assumption), I3, show d = nd (sG σ f) by omega]; rfl⟩
        · skip
          refine e_aload_n dX12_moves_47 rfl ?_
          refine e_iload dX12_moves_48 rfl ?_
          refine e_callV [.int _] dX12_moves_50 tm_12_286 rfl (Nat.le_of_ble_eq_true rfl) (rk_s k21) (Nat.le_of_ble_eq_true rfl) (Nat.le_refl _) (Nat.le_refl _) rfl (zp_X12_isPaired k21 H24 d ⟨by omega, by omega⟩ (by omega) (by omega) ?_)
          have y32 := wM_d (rM_w H24) (show 0 ≤ d by omega) (by omega)
          refine z_ifb_eq 66 dX12_moves_53 rfl (fun c33 => ?_) (fun c33 => ?_)
          · skip
            refine z_bipush (6) dX12_moves_66 rfl ?_
            refine e_istore (L' := [_, _, _, _, _, _, _, _]) dX12_moves_68 (Nat.le_of_ble_eq_true rfl) rfl ?_
            refine e_iload dX12_moves_70 rfl ?_
            refine e_iload dX12_moves_72 rfl ?_
            refine z_bipush (6) dX12_moves_74 rfl ?_
            refine z_icmp_ge 95 dX12_moves_76 rfl ⟨by omega, by omega⟩ ⟨by omega, by omega⟩ (fun c34 => ?_) (fun c34 => ?_)
            · skip
              refine z_iconst (0) dX12_moves_95 rfl ?_
              refine z_iadd dX12_moves_96 ?_
              refine e_istore (L' := [_, _, _, _, _, _, _, _]) dX12_moves_97 (Nat.le_of_ble_eq_true rfl) rfl ?_
              refine e_iload dX12_moves_99 rfl ?_
              refine e_aload_n dX12_moves_101 rfl ?_
              refine e_get (.ref (m + 16)) dX12_moves_102 tf_12_56 (rk_s k21) (congrArg va_rf (rk_r16 k21)) ?_
              refine e_iload dX12_moves_105 rfl ?_
              refine z_ild (r d) dX12_moves_107 (rk_a16 k21) (by decide) (by omega) (by omega) (RW.2 d (by omega) (by omega)) ?_
              have y35 := isRw_f RW.1.1 (show 0 ≤ d by omega) (by omega)
              have y36 := RW.1.2 d (by omega) (by omega)
              refine z_bipush (6) dX12_moves_108 rfl ?_
              refine z_icmp_ge 129 dX12_moves_110 rfl ⟨by omega, by omega⟩ ⟨by omega, by omega⟩ (fun c37 => ?_) (fun c37 => ?_)
              · skip
                refine z_iconst (0) dX12_moves_129 rfl ?_
                refine z_iadd dX12_moves_130 ?_
                refine e_istore (L' := [_, _, _, _, _, _, _, _]) dX12_moves_131 (Nat.le_of_ble_eq_true rfl) rfl ?_
                refine z_iinc (L' := [_, _, _, _, _, _, _, _]) dX12_moves_133 rfl rfl ?_
                refine e_goto 38 dX12_moves_136 rfl ?_
                exact mEv_wk (by exact ⟨Or.inr rfl, Or.inr rfl, Or.inr rfl, Or.inr rfl, Or.inr rfl, Or.inr rfl, Or.inr rfl, Or.inl rfl, trivial⟩) (ih28 _ (by omega) (s + 0) (t + 0) (d + 1)  rfl  (by omega) (by omega) (by rw [sumZ_s (by omega), tlR_m (by omega) (by omega)]; first | (rw [if_pos (by omega)]; first | (rw [bZ_1 (by omega)]; omega) | (rw [bZ_0 (by omega)]; omega)) | (rw [if_neg (by omega)]; first | (rw [bZ_1 (by omega)]; omega) | (rw [bZ_0 (by omega)]; omega))) (by rw [sumZ_s (by omega), tlR_m (by omega) (by omega)]; first | (rw [if_pos (by omega)]; first | (rw [bZ_1 (by omega)]; omega) | (rw [bZ_0 (by omega)]; omega)) | (rw [if_neg (by omega)]; first | (rw [bZ_1 (by omega)]; omega) | (rw [bZ_0 (by omega)]; omega))))
              · skip
                refine e_iload dX12_moves_113 rfl ?_
                refine e_aload_n dX12_moves_115 rfl ?_
                refine e_get (.ref (m + 16)) dX12_moves_116 tf_12_56 (rk_s k21) (congrArg va_rf (rk_r16 k21)) ?_
                refine e_iload dX12_moves_119 rfl ?_
                refine z_ild (r d) dX12_moves_121 (rk_a16 k21) (by decide) (by omega) (by omega) (RW.2 d (by omega) (by omega)) ?_
                have y38 := isRw_f RW.1.1 (show 0 ≤ d by omega) (by omega)
                have y39 := RW.1.2 d (by omega) (by omega)
                refine z_icmp_eq 129 dX12_moves_122 rfl ⟨by omega, by omega⟩ ⟨by omega, by omega⟩ (fun c40 => ?_) (fun c40 => ?_)
                · skip
                  refine z_iconst (0) dX12_moves_129 rfl ?_
                  refine z_iadd dX12_moves_130 ?_
                  refine e_istore (L' := [_, _, _, _, _, _, _, _]) dX12_moves_131 (Nat.le_of_ble_eq_true rfl) rfl ?_
                  refine z_iinc (L' := [_, _, _, _, _, _, _, _]) dX12_moves_133 rfl rfl ?_
                  refine e_goto 38 dX12_moves_136 rfl ?_
                  exact mEv_wk (by exact ⟨Or.inr rfl, Or.inr rfl, Or.inr rfl, Or.inr rfl, Or.inr rfl, Or.inr rfl, Or.inr rfl, Or.inl rfl, trivial⟩) (ih28 _ (by omega) (s + 0) (t + 0) (d + 1)  rfl  (by omega) (by omega) (by rw [sumZ_s (by omega), tlR_m (by omega) (by omega)]; first | (rw [if_pos (by omega)]; first | (rw [bZ_1 (by omega)]; omega) | (rw [bZ_0 (by omega)]; omega)) | (rw [if_neg (by omega)]; first | (rw [bZ_1 (by omega)]; omega) | (rw [bZ_0 (by omega)]; omega))) (by rw [sumZ_s (by omega), tlR_m (by omega) (by omega)]; first | (rw [if_pos (by omega)]; first | (rw [bZ_1 (by omega)]; omega) | (rw [bZ_0 (by omega)]; omega)) | (rw [if_neg (by omega)]; first | (rw [bZ_1 (by omega)]; omega) | (rw [bZ_0 (by omega)]; omega))))
                · skip
                  refine z_iconst (1) dX12_moves_125 rfl ?_
                  refine e_goto 130 dX12_moves_126 rfl ?_
                  refine z_iadd dX12_moves_130 ?_
                  refine e_istore (L' := [_, _, _, _, _, _, _, _]) dX12_moves_131 (Nat.le_of_ble_eq_true rfl) rfl ?_
                  refine z_iinc (L' := [_, _, _, _, _, _, _, _]) dX12_moves_133 rfl rfl ?_
                  refine e_goto 38 dX12_moves_136 rfl ?_
                  exact mEv_wk (by exact ⟨Or.inr rfl, Or.inr rfl, Or.inr rfl, Or.inr rfl, Or.inr rfl, Or.inr rfl, Or.inr rfl, Or.inl rfl, trivial⟩) (ih28 _ (by omega) (s + 0) (t + 1) (d + 1)  rfl  (by omega) (by omega) (by rw [sumZ_s (by omega), tlR_m (by omega) (by omega)]; first | (rw [if_pos (by omega)]; first | (rw [bZ_1 (by omega)]; omega) | (rw [bZ_0 (by omega)]; omega)) | (rw [if_neg (by omega)]; first | (rw [bZ_1 (by omega)]; omega) | (rw [bZ_0 (by omega)]; omega))) (by rw [sumZ_s (by omega), tlR_m (by omega) (by omega)]; first | (rw [if_pos (by omega)]; first | (rw [bZ_1 (by omega)]; omega) | (rw [bZ_0 (by omega)]; omega)) | (rw [if_neg (by omega)]; first | (rw [bZ_1 (by omega)]; omega) | (rw [bZ_0 (by omega)]; omega))))
            · exfalso; omega
          · skip
            refine e_aload_n dX12_moves_56 rfl ?_
            refine e_get (.ref (m + 15)) dX12_moves_57 tf_12_53 (rk_s k21) (congrArg va_rf (rk_r15 k21)) ?_
            refine e_iload dX12_moves_60 rfl ?_
            refine z_ild (dm (sG σ f) d) dX12_moves_62 (rk_a15 k21) (by decide) (by omega) (by omega) (rM_d H24 (by omega) (by omega)) ?_
            have y41 := wM_d (rM_w H24) (show 0 ≤ d by omega) (by omega)
            refine e_goto 68 dX12_moves_63 rfl ?_
            refine e_istore (L' := [_, _, _, _, _, _, _, _]) dX12_moves_68 (Nat.le_of_ble_eq_true rfl) rfl ?_
            refine e_iload dX12_moves_70 rfl ?_
            refine e_iload dX12_moves_72 rfl ?_
            refine z_bipush (6) dX12_moves_74 rfl ?_
            refine z_icmp_ge 95 dX12_moves_76 rfl ⟨by omega, by omega⟩ ⟨by omega, by omega⟩ (fun c42 => ?_) (fun c42 => ?_)
            · skip
              refine z_iconst (0) dX12_moves_95 rfl ?_
              refine z_iadd dX12_moves_96 ?_
              refine e_istore (L' := [_, _, _, _, _, _, _, _]) dX12_moves_97 (Nat.le_of_ble_eq_true rfl) rfl ?_
              refine e_iload dX12_moves_99 rfl ?_
              refine e_aload_n dX12_moves_101 rfl ?_
              refine e_get (.ref (m + 16)) dX12_moves_102 tf_12_56 (rk_s k21) (congrArg va_rf (rk_r16 k21)) ?_
              refine e_iload dX12_moves_105 rfl ?_
              refine z_ild (r d) dX12_moves_107 (rk_a16 k21) (by decide) (by omega) (by omega) (RW.2 d (by omega) (by omega)) ?_
              have y43 := isRw_f RW.1.1 (show 0 ≤ d by omega) (by omega)
              have y44 := RW.1.2 d (by omega) (by omega)
              refine z_bipush (6) dX12_moves_108 rfl ?_
              refine z_icmp_ge 129 dX12_moves_110 rfl ⟨by omega, by omega⟩ ⟨by omega, by omega⟩ (fun c45 => ?_) (fun c45 => ?_)
              · skip
                refine z_iconst (0) dX12_moves_129 rfl ?_
                refine z_iadd dX12_moves_130 ?_
                refine e_istore (L' := [_, _, _, _, _, _, _, _]) dX12_moves_131 (Nat.le_of_ble_eq_true rfl) rfl ?_
                refine z_iinc (L' := [_, _, _, _, _, _, _, _]) dX12_moves_133 rfl rfl ?_
                refine e_goto 38 dX12_moves_136 rfl ?_
                exact mEv_wk (by exact ⟨Or.inr rfl, Or.inr rfl, Or.inr rfl, Or.inr rfl, Or.inr rfl, Or.inr rfl, Or.inr rfl, Or.inl rfl, trivial⟩) (ih28 _ (by omega) (s + 0) (t + 0) (d + 1)  rfl  (by omega) (by omega) (by rw [sumZ_s (by omega), tlR_m (by omega) (by omega)]; first | (rw [if_pos (by omega)]; first | (rw [bZ_1 (by omega)]; omega) | (rw [bZ_0 (by omega)]; omega)) | (rw [if_neg (by omega)]; first | (rw [bZ_1 (by omega)]; omega) | (rw [bZ_0 (by omega)]; omega))) (by rw [sumZ_s (by omega), tlR_m (by omega) (by omega)]; first | (rw [if_pos (by omega)]; first | (rw [bZ_1 (by omega)]; omega) | (rw [bZ_0 (by omega)]; omega)) | (rw [if_neg (by omega)]; first | (rw [bZ_1 (by omega)]; omega) | (rw [bZ_0 (by omega)]; omega))))
              · skip
                refine e_iload dX12_moves_113 rfl ?_
                refine e_aload_n dX12_moves_115 rfl ?_
                refine e_get (.ref (m + 16)) dX12_moves_116 tf_12_56 (rk_s k21) (congrArg va_rf (rk_r16 k21)) ?_
                refine e_iload dX12_moves_119 rfl ?_
                refine z_ild (r d) dX12_moves_121 (rk_a16 k21) (by decide) (by omega) (by omega) (RW.2 d (by omega) (by omega)) ?_
                have y46 := isRw_f RW.1.1 (show 0 ≤ d by omega) (by omega)
                have y47 := RW.1.2 d (by omega) (by omega)
                refine z_icmp_eq 129 dX12_moves_122 rfl ⟨by omega, by omega⟩ ⟨by omega, by omega⟩ (fun c48 => ?_) (fun c48 => ?_)
                · skip
                  refine z_iconst (0) dX12_moves_129 rfl ?_
                  refine z_iadd dX12_moves_130 ?_
                  refine e_istore (L' := [_, _, _, _, _, _, _, _]) dX12_moves_131 (Nat.le_of_ble_eq_true rfl) rfl ?_
                  refine z_iinc (L' := [_, _, _, _, _, _, _, _]) dX12_moves_133 rfl rfl ?_
                  refine e_goto 38 dX12_moves_136 rfl ?_
                  exact mEv_wk (by exact ⟨Or.inr rfl, Or.inr rfl, Or.inr rfl, Or.inr rfl, Or.inr rfl, Or.inr rfl, Or.inr rfl, Or.inl rfl, trivial⟩) (ih28 _ (by omega) (s + 0) (t + 0) (d + 1)  rfl  (by omega) (by omega) (by rw [sumZ_s (by omega), tlR_m (by omega) (by omega)]; first | (rw [if_pos (by omega)]; first | (rw [bZ_1 (by omega)]; omega) | (rw [bZ_0 (by omega)]; omega)) | (rw [if_neg (by omega)]; first | (rw [bZ_1 (by omega)]; omega) | (rw [bZ_0 (by omega)]; omega))) (by rw [sumZ_s (by omega), tlR_m (by omega) (by omega)]; first | (rw [if_pos (by omega)]; first | (rw [bZ_1 (by omega)]; omega) | (rw [bZ_0 (by omega)]; omega)) | (rw [if_neg (by omega)]; first | (rw [bZ_1 (by omega)]; omega) | (rw [bZ_0 (by omega)]; omega))))
                · skip
                  refine z_iconst (1) dX12_moves_125 rfl ?_
                  refine e_goto 130 dX12_moves_126 rfl ?_
                  refine z_iadd dX12_moves_130 ?_
                  refine e_istore (L' := [_, _, _, _, _, _, _, _]) dX12_moves_131 (Nat.le_of_ble_eq_true rfl) rfl ?_
                  refine z_iinc (L' := [_, _, _, _, _, _, _, _]) dX12_moves_133 rfl rfl ?_
                  refine e_goto 38 dX12_moves_136 rfl ?_
                  exact mEv_wk (by exact ⟨Or.inr rfl, Or.inr rfl, Or.inr rfl, Or.inr rfl, Or.inr rfl, Or.inr rfl, Or.inr rfl, Or.inl rfl, trivial⟩) (ih28 _ (by omega) (s + 0) (t + 1) (d + 1)  rfl  (by omega) (by omega) (by rw [sumZ_s (by omega), tlR_m (by omega) (by omega)]; first | (rw [if_pos (by omega)]; first | (rw [bZ_1 (by omega)]; omega) | (rw [bZ_0 (by omega)]; omega)) | (rw [if_neg (by omega)]; first | (rw [bZ_1 (by omega)]; omega) | (rw [bZ_0 (by omega)]; omega))) (by rw [sumZ_s (by omega), tlR_m (by omega) (by omega)]; first | (rw [if_pos (by omega)]; first | (rw [bZ_1 (by omega)]; omega) | (rw [bZ_0 (by omega)]; omega)) | (rw [if_neg (by omega)]; first | (rw [bZ_1 (by omega)]; omega) | (rw [bZ_0 (by omega)]; omega))))
            · skip
              refine e_iload dX12_moves_79 rfl ?_
              refine e_aload_n dX12_moves_81 rfl ?_
              refine e_get (.ref (m + 16)) dX12_moves_82 tf_12_56 (rk_s k21) (congrArg va_rf (rk_r16 k21)) ?_
              refine e_iload dX12_moves_85 rfl ?_
              refine z_ild (r d) dX12_moves_87 (rk_a16 k21) (by decide) (by omega) (by omega) (RW.2 d (by omega) (by omega)) ?_
              have y49 := isRw_f RW.1.1 (show 0 ≤ d by omega) (by omega)
              have y50 := RW.1.2 d (by omega) (by omega)
              refine z_icmp_eq 95 dX12_moves_88 rfl ⟨by omega, by omega⟩ ⟨by omega, by omega⟩ (fun c51 => ?_) (fun c51 => ?_)
              · skip
                refine z_iconst (0) dX12_moves_95 rfl ?_
                refine z_iadd dX12_moves_96 ?_
                refine e_istore (L' := [_, _, _, _, _, _, _, _]) dX12_moves_97 (Nat.le_of_ble_eq_true rfl) rfl ?_
                refine e_iload dX12_moves_99 rfl ?_
                refine e_aload_n dX12_moves_101 rfl ?_
                refine e_get (.ref (m + 16)) dX12_moves_102 tf_12_56 (rk_s k21) (congrArg va_rf (rk_r16 k21)) ?_
                refine e_iload dX12_moves_105 rfl ?_
                refine z_ild (r d) dX12_moves_107 (rk_a16 k21) (by decide) (by omega) (by omega) (RW.2 d (by omega) (by omega)) ?_
                have y52 := isRw_f RW.1.1 (show 0 ≤ d by omega) (by omega)
                have y53 := RW.1.2 d (by omega) (by omega)
                refine z_bipush (6) dX12_moves_108 rfl ?_
                refine z_icmp_ge 129 dX12_moves_110 rfl ⟨by omega, by omega⟩ ⟨by omega, by omega⟩ (fun c54 => ?_) (fun c54 => ?_)
                · skip
                  refine z_iconst (0) dX12_moves_129 rfl ?_
                  refine z_iadd dX12_moves_130 ?_
                  refine e_istore (L' := [_, _, _, _, _, _, _, _]) dX12_moves_131 (Nat.le_of_ble_eq_true rfl) rfl ?_
                  refine z_iinc (L' := [_, _, _, _, _, _, _, _]) dX12_moves_133 rfl rfl ?_
                  refine e_goto 38 dX12_moves_136 rfl ?_
                  exact mEv_wk (by exact ⟨Or.inr rfl, Or.inr rfl, Or.inr rfl, Or.inr rfl, Or.inr rfl, Or.inr rfl, Or.inr rfl, Or.inl rfl, trivial⟩) (ih28 _ (by omega) (s + 0) (t + 0) (d + 1)  rfl  (by omega) (by omega) (by rw [sumZ_s (by omega), tlR_m (by omega) (by omega)]; first | (rw [if_pos (by omega)]; first | (rw [bZ_1 (by omega)]; omega) | (rw [bZ_0 (by omega)]; omega)) | (rw [if_neg (by omega)]; first | (rw [bZ_1 (by omega)]; omega) | (rw [bZ_0 (by omega)]; omega))) (by rw [sumZ_s (by omega), tlR_m (by omega) (by omega)]; first | (rw [if_pos (by omega)]; first | (rw [bZ_1 (by omega)]; omega) | (rw [bZ_0 (by omega)]; omega)) | (rw [if_neg (by omega)]; first | (rw [bZ_1 (by omega)]; omega) | (rw [bZ_0 (by omega)]; omega))))
                · skip
                  refine e_iload dX12_moves_113 rfl ?_
                  refine e_aload_n dX12_moves_115 rfl ?_
                  refine e_get (.ref (m + 16)) dX12_moves_116 tf_12_56 (rk_s k21) (congrArg va_rf (rk_r16 k21)) ?_
                  refine e_iload dX12_moves_119 rfl ?_
                  refine z_ild (r d) dX12_moves_121 (rk_a16 k21) (by decide) (by omega) (by omega) (RW.2 d (by omega) (by omega)) ?_
                  have y55 := isRw_f RW.1.1 (show 0 ≤ d by omega) (by omega)
                  have y56 := RW.1.2 d (by omega) (by omega)
                  refine z_icmp_eq 129 dX12_moves_122 rfl ⟨by omega, by omega⟩ ⟨by omega, by omega⟩ (fun c57 => ?_) (fun c57 => ?_)
                  · skip
                    refine z_iconst (0) dX12_moves_129 rfl ?_
                    refine z_iadd dX12_moves_130 ?_
                    refine e_istore (L' := [_, _, _, _, _, _, _, _]) dX12_moves_131 (Nat.le_of_ble_eq_true rfl) rfl ?_
                    refine z_iinc (L' := [_, _, _, _, _, _, _, _]) dX12_moves_133 rfl rfl ?_
                    refine e_goto 38 dX12_moves_136 rfl ?_
                    exact mEv_wk (by exact ⟨Or.inr rfl, Or.inr rfl, Or.inr rfl, Or.inr rfl, Or.inr rfl, Or.inr rfl, Or.inr rfl, Or.inl rfl, trivial⟩) (ih28 _ (by omega) (s + 0) (t + 0) (d + 1)  rfl  (by omega) (by omega) (by rw [sumZ_s (by omega), tlR_m (by omega) (by omega)]; first | (rw [if_pos (by omega)]; first | (rw [bZ_1 (by omega)]; omega) | (rw [bZ_0 (by omega)]; omega)) | (rw [if_neg (by omega)]; first | (rw [bZ_1 (by omega)]; omega) | (rw [bZ_0 (by omega)]; omega))) (by rw [sumZ_s (by omega), tlR_m (by omega) (by omega)]; first | (rw [if_pos (by omega)]; first | (rw [bZ_1 (by omega)]; omega) | (rw [bZ_0 (by omega)]; omega)) | (rw [if_neg (by omega)]; first | (rw [bZ_1 (by omega)]; omega) | (rw [bZ_0 (by omega)]; omega))))
                  · skip
                    refine z_iconst (1) dX12_moves_125 rfl ?_
                    refine e_goto 130 dX12_moves_126 rfl ?_
                    refine z_iadd dX12_moves_130 ?_
                    refine e_istore (L' := [_, _, _, _, _, _, _, _]) dX12_moves_131 (Nat.le_of_ble_eq_true rfl) rfl ?_
                    refine z_iinc (L' := [_, _, _, _, _, _, _, _]) dX12_moves_133 rfl rfl ?_
                    refine e_goto 38 dX12_moves_136 rfl ?_
                    exact mEv_wk (by exact ⟨Or.inr rfl, Or.inr rfl, Or.inr rfl, Or.inr rfl, Or.inr rfl, Or.inr rfl, Or.inr rfl, Or.inl rfl, trivial⟩) (ih28 _ (by omega) (s + 0) (t + 1) (d + 1)  rfl  (by omega) (by omega) (by rw [sumZ_s (by omega), tlR_m (by omega) (by omega)]; first | (rw [if_pos (by omega)]; first | (rw [bZ_1 (by omega)]; omega) | (rw [bZ_0 (by omega)]; omega)) | (rw [if_neg (by omega)]; first | (rw [bZ_1 (by omega)]; omega) | (rw [bZ_0 (by omega)]; omega))) (by rw [sumZ_s (by omega), tlR_m (by omega) (by omega)]; first | (rw [if_pos (by omega)]; first | (rw [bZ_1 (by omega)]; omega) | (rw [bZ_0 (by omega)]; omega)) | (rw [if_neg (by omega)]; first | (rw [bZ_1 (by omega)]; omega) | (rw [bZ_0 (by omega)]; omega))))
              · skip
                refine z_iconst (1) dX12_moves_91 rfl ?_
                refine e_goto 96 dX12_moves_92 rfl ?_
                refine z_iadd dX12_moves_96 ?_
                refine e_istore (L' := [_, _, _, _, _, _, _, _]) dX12_moves_97 (Nat.le_of_ble_eq_true rfl) rfl ?_
                refine e_iload dX12_moves_99 rfl ?_
                refine e_aload_n dX12_moves_101 rfl ?_
                refine e_get (.ref (m + 16)) dX12_moves_102 tf_12_56 (rk_s k21) (congrArg va_rf (rk_r16 k21)) ?_
                refine e_iload dX12_moves_105 rfl ?_
                refine z_ild (r d) dX12_moves_107 (rk_a16 k21) (by decide) (by omega) (by omega) (RW.2 d (by omega) (by omega)) ?_
                have y58 := isRw_f RW.1.1 (show 0 ≤ d by omega) (by omega)
                have y59 := RW.1.2 d (by omega) (by omega)
                refine z_bipush (6) dX12_moves_108 rfl ?_
                refine z_icmp_ge 129 dX12_moves_110 rfl ⟨by omega, by omega⟩ ⟨by omega, by omega⟩ (fun c60 => ?_) (fun c60 => ?_)
                · skip
                  refine z_iconst (0) dX12_moves_129 rfl ?_
                  refine z_iadd dX12_moves_130 ?_
                  refine e_istore (L' := [_, _, _, _, _, _, _, _]) dX12_moves_131 (Nat.le_of_ble_eq_true rfl) rfl ?_
                  refine z_iinc (L' := [_, _, _, _, _, _, _, _]) dX12_moves_133 rfl rfl ?_
                  refine e_goto 38 dX12_moves_136 rfl ?_
                  exact mEv_wk (by exact ⟨Or.inr rfl, Or.inr rfl, Or.inr rfl, Or.inr rfl, Or.inr rfl, Or.inr rfl, Or.inr rfl, Or.inl rfl, trivial⟩) (ih28 _ (by omega) (s + 1) (t + 0) (d + 1)  rfl  (by omega) (by omega) (by rw [sumZ_s (by omega), tlR_m (by omega) (by omega)]; first | (rw [if_pos (by omega)]; first | (rw [bZ_1 (by omega)]; omega) | (rw [bZ_0 (by omega)]; omega)) | (rw [if_neg (by omega)]; first | (rw [bZ_1 (by omega)]; omega) | (rw [bZ_0 (by omega)]; omega))) (by rw [sumZ_s (by omega), tlR_m (by omega) (by omega)]; first | (rw [if_pos (by omega)]; first | (rw [bZ_1 (by omega)]; omega) | (rw [bZ_0 (by omega)]; omega)) | (rw [if_neg (by omega)]; first | (rw [bZ_1 (by omega)]; omega) | (rw [bZ_0 (by omega)]; omega))))
                · skip
                  refine e_iload dX12_moves_113 rfl ?_
                  refine e_aload_n dX12_moves_115 rfl ?_
                  refine e_get (.ref (m + 16)) dX12_moves_116 tf_12_56 (rk_s k21) (congrArg va_rf (rk_r16 k21)) ?_
                  refine e_iload dX12_moves_119 rfl ?_
                  refine z_ild (r d) dX12_moves_121 (rk_a16 k21) (by decide) (by omega) (by omega) (RW.2 d (by omega) (by omega)) ?_
                  have y61 := isRw_f RW.1.1 (show 0 ≤ d by omega) (by omega)
                  have y62 := RW.1.2 d (by omega) (by omega)
                  refine z_icmp_eq 129 dX12_moves_122 rfl ⟨by omega, by omega⟩ ⟨by omega, by omega⟩ (fun c63 => ?_) (fun c63 => ?_)
                  · skip
                    refine z_iconst (0) dX12_moves_129 rfl ?_
                    refine z_iadd dX12_moves_130 ?_
                    refine e_istore (L' := [_, _, _, _, _, _, _, _]) dX12_moves_131 (Nat.le_of_ble_eq_true rfl) rfl ?_
                    refine z_iinc (L' := [_, _, _, _, _, _, _, _]) dX12_moves_133 rfl rfl ?_
                    refine e_goto 38 dX12_moves_136 rfl ?_
                    exact mEv_wk (by exact ⟨Or.inr rfl, Or.inr rfl, Or.inr rfl, Or.inr rfl, Or.inr rfl, Or.inr rfl, Or.inr rfl, Or.inl rfl, trivial⟩) (ih28 _ (by omega) (s + 1) (t + 0) (d + 1)  rfl  (by omega) (by omega) (by rw [sumZ_s (by omega), tlR_m (by omega) (by omega)]; first | (rw [if_pos (by omega)]; first | (rw [bZ_1 (by omega)]; omega) | (rw [bZ_0 (by omega)]; omega)) | (rw [if_neg (by omega)]; first | (rw [bZ_1 (by omega)]; omega) | (rw [bZ_0 (by omega)]; omega))) (by rw [sumZ_s (by omega), tlR_m (by omega) (by omega)]; first | (rw [if_pos (by omega)]; first | (rw [bZ_1 (by omega)]; omega) | (rw [bZ_0 (by omega)]; omega)) | (rw [if_neg (by omega)]; first | (rw [bZ_1 (by omega)]; omega) | (rw [bZ_0 (by omega)]; omega))))
                  · skip
                    refine z_iconst (1) dX12_moves_125 rfl ?_
                    refine e_goto 130 dX12_moves_126 rfl ?_
                    refine z_iadd dX12_moves_130 ?_
                    refine e_istore (L' := [_, _, _, _, _, _, _, _]) dX12_moves_131 (Nat.le_of_ble_eq_true rfl) rfl ?_
                    refine z_iinc (L' := [_, _, _, _, _, _, _, _]) dX12_moves_133 rfl rfl ?_
                    refine e_goto 38 dX12_moves_136 rfl ?_
                    exact mEv_wk (by exact ⟨Or.inr rfl, Or.inr rfl, Or.inr rfl, Or.inr rfl, Or.inr rfl, Or.inr rfl, Or.inr rfl, Or.inl rfl, trivial⟩) (ih28 _ (by omega) (s + 1) (t + 1) (d + 1)  rfl  (by omega) (by omega) (by rw [sumZ_s (by omega), tlR_m (by omega) (by omega)]; first | (rw [if_pos (by omega)]; first | (rw [bZ_1 (by omega)]; omega) | (rw [bZ_0 (by omega)]; omega)) | (rw [if_neg (by omega)]; first | (rw [bZ_1 (by omega)]; omega) | (rw [bZ_0 (by omega)]; omega))) (by rw [sumZ_s (by omega), tlR_m (by omega) (by omega)]; first | (rw [if_pos (by omega)]; first | (rw [bZ_1 (by omega)]; omega) | (rw [bZ_0 (by omega)]; omega)) | (rw [if_neg (by omega)]; first | (rw [bZ_1 (by omega)]; omega) | (rw [bZ_0 (by omega)]; omega))))
      exact lp28 _ 0 0 0  rfl  (by omega) (by omega) rfl rfl
    · exfalso; omega
set_option maxHeartbeats 1000000 in
theorem zp_X12_leaving_2 {ad : mA} {dd : Nat} {h : mH} {Q : mQ} {m : Nat} {σ : Sg} (hk : rk h m) (HR : refT h m 0 σ)  (f : Int) (f_r : -2147483648 ≤ f ∧ f < 2147483648) (p1 : 0 ≤ f) (p2 : f < cn σ 0) (kq : ∀ v : Int, (∃ r, rwR (sG σ f) 2 r ∧ v = lvN (sG σ f) r) → ∀ h1, frm (fun a i => a = m ∨ (m + 9 ≤ a ∧ a < m + 30)) h h1 → Q (some (.int (zI v))) h1) : mCal TB0 ad (dd + 9) M_X12_leaving [.ref m, .int (zI f), .int (zI 2)] h 0 0 Q := by
  refine ⟨Nat.le_of_ble_eq_true rfl, ?_⟩
  show mEv TB0 ad M_X12_leaving (dd + 9) (0, 0) (mCal TB0 ad (dd + 8)) (fun v h' z => z.1 = 0 ∧ Q v h') 0 [some (.ref m), some (.int (zI f)), some (.int (zI 2))] [] h (0, 0)
  have FR0 : frm (fun a i => a = m ∨ (m + 9 ≤ a ∧ a < m + 30)) h h := frm_0 h
  have w1 := wS_n (refT_w HR)
  have W := (refT_w HR).2.2.1 f p1 p2
  refine e_aload_n dX12_leaving_0 rfl ?_
  refine z_iconst (0) dX12_leaving_1 rfl ?_
  refine z_put dX12_leaving_2 tf_12_103 (rk_s hk) rfl (Or.inl rfl) (fun h1 e2 => ?_)
  have f3 := frm_1 e2
  have k4 := rk_q (frm_s f3) hk
  have H5 := refT_c f3 (fun a k q1 q2 => by omega) HR
  have FR6 := frm_t FR0 (frm_m (S' := (fun a i => a = m ∨ (m + 9 ≤ a ∧ a < m + 30))) f3 (fun a k q => by omega))
  refine e_aload_n dX12_leaving_5 rfl ?_
  refine e_iload_n dX12_leaving_6 rfl ?_
  refine e_callV [.int _] dX12_leaving_7 tm_12_292 rfl (Nat.le_of_ble_eq_true rfl) (rk_s k4) (Nat.le_of_ble_eq_true rfl) (Nat.le_refl _) (Nat.le_refl _) rfl (zp_X12_hand_in k4 H5 f ⟨by omega, by omega⟩ (by omega) (by omega) (fun  h7 f8 p9 p10 p11 p12 => ?_))
  have k13 := rk_q (frm_s f8) k4
  have H14 := refT_c f8 (fun a k q1 q2 => by omega) H5
  have FR15 := frm_t FR6 (frm_m (S' := (fun a i => a = m ∨ (m + 9 ≤ a ∧ a < m + 30))) f8 (fun a k q => by omega))
  have w5 := rB_n p9
  have w6 := rC_n p11
  refine z_ifb_eq 22 dX12_leaving_10 rfl (fun c16 => ?_) (fun c16 => ?_)
  · exact absurd trivial c16
  · skip
    refine e_iload_n dX12_leaving_13 rfl ?_
    refine z_iconst (0) dX12_leaving_14 rfl ?_
    refine z_iconst (5) dX12_leaving_15 rfl ?_
    refine e_callS [.int _, .int _, .int _] dX12_leaving_16 tm_12_115 rfl (Nat.le_of_ble_eq_true rfl) (Nat.le_refl _) (Nat.le_refl _) rfl (zp_X12_in 2 ⟨by omega, by omega⟩ 0 ⟨by omega, by omega⟩ 5 ⟨by omega, by omega⟩ ?_)
    refine z_ifb_ne 24 dX12_leaving_19 rfl (fun c17 => ?_) (fun c17 => ?_)
    · skip
      refine e_aload_n dX12_leaving_24 rfl ?_
      refine e_iload_n dX12_leaving_25 rfl ?_
      refine e_callV [.int _] dX12_leaving_26 tm_12_442 rfl (Nat.le_of_ble_eq_true rfl) (rk_s k13) (Nat.le_of_ble_eq_true rfl) (Nat.le_refl _) (Nat.le_refl _) rfl (zp_X12_layRow_2 k13 p9 p10 W (fun  h18 f19 p20 => ?_))
      have k21 := rk_q (frm_s f19) k13
      have H22 := refT_c f19 (fun a k q1 q2 => by omega) H14
      have H23 := rB_c f19 (fun a k q => by omega) p9
      have H24 := rM_c f19 (fun a k q => by omega) p10
      have H25 := rC_c f19 (fun a k q => by omega) p11
      have H26 := rK_c f19 (fun a k q1 q2 => by omega) p12
      have FR27 := frm_t FR15 (frm_m (S' := (fun a i => a = m ∨ (m + 9 ≤ a ∧ a < m + 30))) f19 (fun a k q => by omega))
      obtain ⟨r, RW, RR⟩ := p20
      refine e_aload_n dX12_leaving_29 rfl ?_
      refine e_callV [] dX12_leaving_30 tm_12_403 rfl (Nat.le_of_ble_eq_true rfl) (rk_s k21) (Nat.le_of_ble_eq_true rfl) (Nat.le_refl _) (Nat.le_refl _) rfl (zp_X12_leavingNow k21 H23 RW (fun  h28 f29 p30 => ?_))
      have k31 := rk_q (frm_s f29) k21
      have H32 := refT_c f29 (fun a k q1 q2 => by omega) H22
      have H33 := rB_c f29 (fun a k q => by omega) H23
      have H34 := rM_c f29 (fun a k q => by omega) H24
      have H35 := rC_c f29 (fun a k q => by omega) H25
      have H36 := rK_c f29 (fun a k q1 q2 => by omega) H26
      have H37 := rRw_c f29 (fun a k q => by omega) RW
      have FR38 := frm_t FR27 (frm_m (S' := (fun a i => a = m ∨ (m + 9 ≤ a ∧ a < m + 30))) f29 (fun a k q => by omega))
      have y39 := lvN_b (show (0 ≤ nd (sG σ f) ∧ nd (sG σ f) ≤ 6) ∧ (0 ≤ nu (sG σ f) ∧ nu (sG σ f) ≤ 6) by omega) r
      refine z_iret dX12_leaving_33 rfl ⟨rfl, ?_⟩
      refine kq _ ?_ _ FR38
      exact ⟨r, RR, rfl⟩
    · exfalso; omega
set_option maxHeartbeats 1000000 in
theorem zp_X12_row_2 {ad : mA} {dd : Nat} {h : mH} {Q : mQ} {m : Nat} {σ : Sg} (hk : rk h m) (HR : refT h m 0 σ)  (f : Int) (f_r : -2147483648 ≤ f ∧ f < 2147483648) (k : Int) (k_r : -2147483648 ≤ k ∧ k < 2147483648) (p1 : 0 ≤ f) (p2 : f < cn σ 0) (kq : ∀ v : Int, (((-1 ≤ k ∧ k < nd (sG σ f)) ∧ ∃ r, rwR (sG σ f) 2 r ∧ v = if k = -1 then inR r else r k) ∨ (¬ (-1 ≤ k ∧ k < nd (sG σ f)) ∧ v = -1)) → ∀ h1, frm (fun a i => a = m ∨ (m + 9 ≤ a ∧ a < m + 30)) h h1 → Q (some (.int (zI v))) h1) : mCal TB0 ad (dd + 9) M_X12_row [.ref m, .int (zI f), .int (zI 2), .int (zI k)] h 0 0 Q := by
  refine ⟨Nat.le_of_ble_eq_true rfl, ?_⟩
  show mEv TB0 ad M_X12_row (dd + 9) (0, 0) (mCal TB0 ad (dd + 8)) (fun v h' z => z.1 = 0 ∧ Q v h') 0 [some (.ref m), some (.int (zI f)), some (.int (zI 2)), some (.int (zI k))] [] h (0, 0)
  have FR0 : frm (fun a i => a = m ∨ (m + 9 ≤ a ∧ a < m + 30)) h h := frm_0 h
  have w1 := wS_n (refT_w HR)
  have W := (refT_w HR).2.2.1 f p1 p2
  refine e_aload_n dX12_row_0 rfl ?_
  refine z_iconst (0) dX12_row_1 rfl ?_
  refine z_put dX12_row_2 tf_12_103 (rk_s hk) rfl (Or.inl rfl) (fun h1 e2 => ?_)
  have f3 := frm_1 e2
  have k4 := rk_q (frm_s f3) hk
  have H5 := refT_c f3 (fun a k q1 q2 => by omega) HR
  have FR6 := frm_t FR0 (frm_m (S' := (fun a i => a = m ∨ (m + 9 ≤ a ∧ a < m + 30))) f3 (fun a k q => by omega))
  refine e_aload_n dX12_row_5 rfl ?_
  refine e_iload_n dX12_row_6 rfl ?_
  refine e_callV [.int _] dX12_row_7 tm_12_292 rfl (Nat.le_of_ble_eq_true rfl) (rk_s k4) (Nat.le_of_ble_eq_true rfl) (Nat.le_refl _) (Nat.le_refl _) rfl (zp_X12_hand_in k4 H5 f ⟨by omega, by omega⟩ (by omega) (by omega) (fun  h7 f8 p9 p10 p11 p12 => ?_))
  have k13 := rk_q (frm_s f8) k4
  have H14 := refT_c f8 (fun a k q1 q2 => by omega) H5
  have FR15 := frm_t FR6 (frm_m (S' := (fun a i => a = m ∨ (m + 9 ≤ a ∧ a < m + 30))) f8 (fun a k q => by omega))
  have w5 := rB_n p9
  have w6 := rC_n p11
  refine z_ifb_eq 36 dX12_row_10 rfl (fun c16 => ?_) (fun c16 => ?_)
  · exact absurd trivial c16
  · skip
    refine e_iload_n dX12_row_13 rfl ?_
    refine z_iconst (1) dX12_row_14 rfl ?_
    refine z_iconst (5) dX12_row_15 rfl ?_
    refine e_callS [.int _, .int _, .int _] dX12_row_16 tm_12_115 rfl (Nat.le_of_ble_eq_true rfl) (Nat.le_refl _) (Nat.le_refl _) rfl (zp_X12_in 2 ⟨by omega, by omega⟩ 1 ⟨by omega, by omega⟩ 5 ⟨by omega, by omega⟩ ?_)
    refine z_ifb_eq 36 dX12_row_19 rfl (fun c17 => ?_) (fun c17 => ?_)
    · exfalso; omega
    · skip
      refine e_iload_n dX12_row_22 rfl ?_
      refine z_iconst (-1) dX12_row_23 rfl ?_
      refine e_aload_n dX12_row_24 rfl ?_
      refine z_get (nd (sG σ f)) dX12_row_25 tf_12_271 (rk_s k13) (Or.inl rfl) (rB_nd p9) ?_
      have y18 := rB_n p9
      refine z_iconst (1) dX12_row_28 rfl ?_
      refine z_isub dX12_row_29 ?_
      refine e_callS [.int _, .int _, .int _] dX12_row_30 tm_12_115 rfl (Nat.le_of_ble_eq_true rfl) (Nat.le_refl _) (Nat.le_refl _) rfl (zp_X12_in k ⟨by omega, by omega⟩ (-1) ⟨by omega, by omega⟩ ((nd (sG σ f)) - 1) ⟨by omega, by omega⟩ ?_)
      refine z_ifb_ne 38 dX12_row_33 rfl (fun c19 => ?_) (fun c19 => ?_)
      · skip
        refine e_aload_n dX12_row_38 rfl ?_
        refine e_iload_n dX12_row_39 rfl ?_
        refine e_callV [.int _] dX12_row_40 tm_12_442 rfl (Nat.le_of_ble_eq_true rfl) (rk_s k13) (Nat.le_of_ble_eq_true rfl) (Nat.le_refl _) (Nat.le_refl _) rfl (zp_X12_layRow_2 k13 p9 p10 W (fun  h20 f21 p22 => ?_))
        have k23 := rk_q (frm_s f21) k13
        have H24 := refT_c f21 (fun a k q1 q2 => by omega) H14
        have H25 := rB_c f21 (fun a k q => by omega) p9
        have H26 := rM_c f21 (fun a k q => by omega) p10
        have H27 := rC_c f21 (fun a k q => by omega) p11
        have H28 := rK_c f21 (fun a k q1 q2 => by omega) p12
        have FR29 := frm_t FR15 (frm_m (S' := (fun a i => a = m ∨ (m + 9 ≤ a ∧ a < m + 30))) f21 (fun a k q => by omega))
        obtain ⟨r, RW, RR⟩ := p22
        refine e_iload_n dX12_row_43 rfl ?_
        refine z_iconst (-1) dX12_row_44 rfl ?_
        refine z_icmp_ne 55 dX12_row_45 rfl ⟨by omega, by omega⟩ ⟨by omega, by omega⟩ (fun c30 => ?_) (fun c30 => ?_)
        · skip
          refine e_aload_n dX12_row_55 rfl ?_
          refine e_get (.ref (m + 16)) dX12_row_56 tf_12_56 (rk_s k23) (congrArg va_rf (rk_r16 k23)) ?_
          refine e_iload_n dX12_row_59 rfl ?_
          refine z_ild (r k) dX12_row_60 (rk_a16 k23) (by decide) (by omega) (by omega) (RW.2 k (by omega) (by omega)) ?_
          have y31 := isRw_f RW.1.1 (show 0 ≤ k by omega) (by omega)
          have y32 := RW.1.2 k (by omega) (by omega)
          refine z_iret dX12_row_61 rfl ⟨rfl, ?_⟩
          refine kq _ ?_ _ FR29
          first | exact Or.inr ⟨by omega, rfl⟩ | exact Or.inl ⟨by omega, r, RR, by rw [if_pos (by omega)]⟩ | exact Or.inl ⟨by omega, r, RR, by rw [if_neg (by omega)]⟩
        · skip
          refine e_aload_n dX12_row_48 rfl ?_
          refine e_callV [] dX12_row_49 tm_12_413 rfl (Nat.le_of_ble_eq_true rfl) (rk_s k23) (Nat.le_of_ble_eq_true rfl) (Nat.le_refl _) (Nat.le_refl _) rfl (zp_X12_inRow k23 RW ?_)
          have y33 := inR_b r
          refine e_goto 61 dX12_row_52 rfl ?_
          refine z_iret dX12_row_61 rfl ⟨rfl, ?_⟩
          refine kq _ ?_ _ FR29
          first | exact Or.inr ⟨by omega, rfl⟩ | exact Or.inl ⟨by omega, r, RR, by rw [if_pos (by omega)]⟩ | exact Or.inl ⟨by omega, r, RR, by rw [if_neg (by omega)]⟩
      · skip
        refine z_iconst (-1) dX12_row_36 rfl ?_
        refine z_iret dX12_row_37 rfl ⟨rfl, ?_⟩
        refine kq _ ?_ _ FR15
        first | exact Or.inr ⟨by omega, rfl⟩ | exact Or.inl ⟨by omega, r, RR, by rw [if_pos (by omega)]⟩ | exact Or.inl ⟨by omega, r, RR, by rw [if_neg (by omega)]⟩
set_option maxHeartbeats 1000000 in
theorem zp_X12_moves_2 {ad : mA} {dd : Nat} {h : mH} {Q : mQ} {m : Nat} {σ : Sg} (hk : rk h m) (HR : refT h m 0 σ)  (f : Int) (f_r : -2147483648 ≤ f ∧ f < 2147483648) (p : Prop) [Decidable p] (p1 : 0 ≤ f) (p2 : f < cn σ 0) (kq : ∀ v : Int, (∃ r, rwR (sG σ f) 2 r ∧ v = if p then mvR (sG σ f) r else mvP (sG σ f) r) → ∀ h1, frm (fun a i => a = m ∨ (m + 9 ≤ a ∧ a < m + 30)) h h1 → Q (some (.int (zI v))) h1) : mCal TB0 ad (dd + 9) M_X12_moves [.ref m, .int (zI f), .int (zI 2), .int (zI (bZ p))] h 0 0 Q := by
  refine ⟨Nat.le_of_ble_eq_true rfl, ?_⟩
  show mEv TB0 ad M_X12_moves (dd + 9) (0, 0) (mCal TB0 ad (dd + 8)) (fun v h' z => z.1 = 0 ∧ Q v h') 0 [some (.ref m), some (.int (zI f)), some (.int (zI 2)), some (.int (zI (bZ p))), none, none, none, none] [] h (0, 0)
  have FR0 : frm (fun a i => a = m ∨ (m + 9 ≤ a ∧ a < m + 30)) h h := frm_0 h
  have w1 := wS_n (refT_w HR)
  have W := (refT_w HR).2.2.1 f p1 p2
  refine e_aload_n dX12_moves_0 rfl ?_
  refine z_iconst (0) dX12_moves_1 rfl ?_
  refine z_put dX12_moves_2 tf_12_103 (rk_s hk) rfl (Or.inl rfl) (fun h1 e2 => ?_)
  have f3 := frm_1 e2
  have k4 := rk_q (frm_s f3) hk
  have H5 := refT_c f3 (fun a k q1 q2 => by omega) HR
  have FR6 := frm_t FR0 (frm_m (S' := (fun a i => a = m ∨ (m + 9 ≤ a ∧ a < m + 30))) f3 (fun a k q => by omega))
  refine e_aload_n dX12_moves_5 rfl ?_
  refine e_iload_n dX12_moves_6 rfl ?_
  refine e_callV [.int _] dX12_moves_7 tm_12_292 rfl (Nat.le_of_ble_eq_true rfl) (rk_s k4) (Nat.le_of_ble_eq_true rfl) (Nat.le_refl _) (Nat.le_refl _) rfl (zp_X12_hand_in k4 H5 f ⟨by omega, by omega⟩ (by omega) (by omega) (fun  h7 f8 p9 p10 p11 p12 => ?_))
  have k13 := rk_q (frm_s f8) k4
  have H14 := refT_c f8 (fun a k q1 q2 => by omega) H5
  have FR15 := frm_t FR6 (frm_m (S' := (fun a i => a = m ∨ (m + 9 ≤ a ∧ a < m + 30))) f8 (fun a k q => by omega))
  have w5 := rB_n p9
  have w6 := rC_n p11
  refine z_ifb_eq 22 dX12_moves_10 rfl (fun c16 => ?_) (fun c16 => ?_)
  · exact absurd trivial c16
  · skip
    refine e_iload_n dX12_moves_13 rfl ?_
    refine z_iconst (1) dX12_moves_14 rfl ?_
    refine z_iconst (5) dX12_moves_15 rfl ?_
    refine e_callS [.int _, .int _, .int _] dX12_moves_16 tm_12_115 rfl (Nat.le_of_ble_eq_true rfl) (Nat.le_refl _) (Nat.le_refl _) rfl (zp_X12_in 2 ⟨by omega, by omega⟩ 1 ⟨by omega, by omega⟩ 5 ⟨by omega, by omega⟩ ?_)
    refine z_ifb_ne 24 dX12_moves_19 rfl (fun c17 => ?_) (fun c17 => ?_)
    · skip
      refine e_aload_n dX12_moves_24 rfl ?_
      refine e_iload_n dX12_moves_25 rfl ?_
      refine e_callV [.int _] dX12_moves_26 tm_12_442 rfl (Nat.le_of_ble_eq_true rfl) (rk_s k13) (Nat.le_of_ble_eq_true rfl) (Nat.le_refl _) (Nat.le_refl _) rfl (zp_X12_layRow_2 k13 p9 p10 W (fun  h18 f19 p20 => ?_))
      have k21 := rk_q (frm_s f19) k13
      have H22 := refT_c f19 (fun a k q1 q2 => by omega) H14
      have H23 := rB_c f19 (fun a k q => by omega) p9
      have H24 := rM_c f19 (fun a k q => by omega) p10
      have H25 := rC_c f19 (fun a k q => by omega) p11
      have H26 := rK_c f19 (fun a k q1 q2 => by omega) p12
      have FR27 := frm_t FR15 (frm_m (S' := (fun a i => a = m ∨ (m + 9 ≤ a ∧ a < m + 30))) f19 (fun a k q => by omega))
      obtain ⟨r, RW, RR⟩ := p20
      refine z_iconst (0) dX12_moves_29 rfl ?_
      refine e_istore (L' := [_, _, _, _, _, _, _, _]) dX12_moves_30 (Nat.le_of_ble_eq_true rfl) rfl ?_
      refine z_iconst (0) dX12_moves_32 rfl ?_
      refine e_istore (L' := [_, _, _, _, _, _, _, _]) dX12_moves_33 (Nat.le_of_ble_eq_true rfl) rfl ?_
      refine z_iconst (0) dX12_moves_35 rfl ?_
      refine e_istore (L' := [_, _, _, _, _, _, _, _]) dX12_moves_36 (Nat.le_of_ble_eq_true rfl) rfl ?_
      have lp28 : ∀ (n28 : Nat) (s t d : Int), (nd (sG σ f) - d).toNat = n28 → (0 ≤ d ∧ d ≤ nd (sG σ f)) → ((0 ≤ s ∧ s ≤ d) ∧ (0 ≤ t ∧ t ≤ d)) → (s = sumZ (fun d => bZ (tlR (sG σ f) d < 6 ∧ tlR (sG σ f) d ≠ r d)) d.toNat) → (t = sumZ (fun d => bZ (r d < 6 ∧ tlR (sG σ f) d ≠ r d)) d.toNat) → mEv TB0 ad M_X12_moves (dd + 9) (0, 0) (mCal TB0 ad (dd + 8)) (fun v h' z => z.1 = 0 ∧ Q v h') 38 [some (.ref m), some (.int (zI f)), some (.int (zI 2)), some (.int (zI (bZ p))), some (.int (zI s)), some (.int (zI t)), some (.int (zI d)), none] [] h18 (0, 0) := by
        intro n28
        induction n28 using Nat.strongRecOn with
        | ind n28 ih28 =>
        intro s t d  hn28  I1 I2 I3 I4
        refine e_iload dX12_moves_38 rfl ?_
        refine e_aload_n dX12_moves_40 rfl ?_
        refine z_get (nd (sG σ f)) dX12_moves_41 tf_12_271 (rk_s k21) (Or.inl rfl) (rB_nd H23) ?_
        have y29 := rB_n H23
        refine z_icmp_ge 139 dX12_moves_44 rfl ⟨by omega, by omega⟩ ⟨by omega, by omega⟩ (fun c30 => ?_) (fun c30 => ?_)
        · skip
          refine e_iload_n dX12_moves_139 rfl ?_
          refine z_ifb_eq 148 dX12_moves_140 rfl (fun c31 => ?_) (fun c31 => ?_)
          · skip
            refine e_iload dX12_moves_148 rfl ?_
            refine z_iret dX12_moves_150 rfl ⟨rfl, ?_⟩
            refine kq _ ?_ _ FR27
            first | exact ⟨r, RR, by rw [if_pos (by assumption), I4, show d = nd (sG σ f) by omega]; rfl⟩ | exact ⟨r, RR, by rw [if_neg (by assumption), I3, show d = nd (sG σ f) by omega]; rfl⟩
          · skip
            refine e_iload dX12_moves_143 rfl ?_
            refine e_goto 150 dX12_moves_145 rfl ?_
            refine z_iret dX12_moves_150 rfl ⟨rfl, ?_⟩
            refine kq _ ?_ _ FR27
            first | exact ⟨r, RR, by rw [if_pos (by assumption), I4, show d = nd (sG σ f) by omega]; rfl⟩ | exact ⟨r, RR, by rw [if_neg (by assumption), I3, show d = nd (sG σ f) by omega]; rfl⟩
        · skip
          refine e_aload_n dX12_moves_47 rfl ?_
          refine e_iload dX12_moves_48 rfl ?_
          refine e_callV [.int _] dX12_moves_50 tm_12_286 rfl (Nat.le_of_ble_eq_true rfl) (rk_s k21) (Nat.le_of_ble_eq_true rfl) (Nat.le_refl _) (Nat.le_refl _) rfl (zp_X12_isPaired k21 H24 d ⟨by omega, by omega⟩ (by omega) (by omega) ?_)
          have y32 := wM_d (rM_w H24) (show 0 ≤ d by omega) (by omega)
          refine z_ifb_eq 66 dX12_moves_53 rfl (fun c33 => ?_) (fun c33 => ?_)
          · skip
            refine z_bipush (6) dX12_moves_66 rfl ?_
            refine e_istore (L' := [_, _, _, _, _, _, _, _]) dX12_moves_68 (Nat.le_of_ble_eq_true rfl) rfl ?_
            refine e_iload dX12_moves_70 rfl ?_
            refine e_iload dX12_moves_72 rfl ?_
            refine z_bipush (6) dX12_moves_74 rfl ?_
            refine z_icmp_ge 95 dX12_moves_76 rfl ⟨by omega, by omega⟩ ⟨by omega, by omega⟩ (fun c34 => ?_) (fun c34 => ?_)
            · skip
              refine z_iconst (0) dX12_moves_95 rfl ?_
              refine z_iadd dX12_moves_96 ?_
              refine e_istore (L' := [_, _, _, _, _, _, _, _]) dX12_moves_97 (Nat.le_of_ble_eq_true rfl) rfl ?_
              refine e_iload dX12_moves_99 rfl ?_
              refine e_aload_n dX12_moves_101 rfl ?_
              refine e_get (.ref (m + 16)) dX12_moves_102 tf_12_56 (rk_s k21) (congrArg va_rf (rk_r16 k21)) ?_
              refine e_iload dX12_moves_105 rfl ?_
              refine z_ild (r d) dX12_moves_107 (rk_a16 k21) (by decide) (by omega) (by omega) (RW.2 d (by omega) (by omega)) ?_
              have y35 := isRw_f RW.1.1 (show 0 ≤ d by omega) (by omega)
              have y36 := RW.1.2 d (by omega) (by omega)
              refine z_bipush (6) dX12_moves_108 rfl ?_
              refine z_icmp_ge 129 dX12_moves_110 rfl ⟨by omega, by omega⟩ ⟨by omega, by omega⟩ (fun c37 => ?_) (fun c37 => ?_)
              · skip
                refine z_iconst (0) dX12_moves_129 rfl ?_
                refine z_iadd dX12_moves_130 ?_
                refine e_istore (L' := [_, _, _, _, _, _, _, _]) dX12_moves_131 (Nat.le_of_ble_eq_true rfl) rfl ?_
                refine z_iinc (L' := [_, _, _, _, _, _, _, _]) dX12_moves_133 rfl rfl ?_
                refine e_goto 38 dX12_moves_136 rfl ?_
                exact mEv_wk (by exact ⟨Or.inr rfl, Or.inr rfl, Or.inr rfl, Or.inr rfl, Or.inr rfl, Or.inr rfl, Or.inr rfl, Or.inl rfl, trivial⟩) (ih28 _ (by omega) (s + 0) (t + 0) (d + 1)  rfl  (by omega) (by omega) (by rw [sumZ_s (by omega), tlR_m (by omega) (by omega)]; first | (rw [if_pos (by omega)]; first | (rw [bZ_1 (by omega)]; omega) | (rw [bZ_0 (by omega)]; omega)) | (rw [if_neg (by omega)]; first | (rw [bZ_1 (by omega)]; omega) | (rw [bZ_0 (by omega)]; omega))) (by rw [sumZ_s (by omega), tlR_m (by omega) (by omega)]; first | (rw [if_pos (by omega)]; first | (rw [bZ_1 (by omega)]; omega) | (rw [bZ_0 (by omega)]; omega)) | (rw [if_neg (by omega)]; first | (rw [bZ_1 (by omega)]; omega) | (rw [bZ_0 (by omega)]; omega))))
              · skip
                refine e_iload dX12_moves_113 rfl ?_
                refine e_aload_n dX12_moves_115 rfl ?_
                refine e_get (.ref (m + 16)) dX12_moves_116 tf_12_56 (rk_s k21) (congrArg va_rf (rk_r16 k21)) ?_
                refine e_iload dX12_moves_119 rfl ?_
                refine z_ild (r d) dX12_moves_121 (rk_a16 k21) (by decide) (by omega) (by omega) (RW.2 d (by omega) (by omega)) ?_
                have y38 := isRw_f RW.1.1 (show 0 ≤ d by omega) (by omega)
                have y39 := RW.1.2 d (by omega) (by omega)
                refine z_icmp_eq 129 dX12_moves_122 rfl ⟨by omega, by omega⟩ ⟨by omega, by omega⟩ (fun c40 => ?_) (fun c40 => ?_)
                · skip
                  refine z_iconst (0) dX12_moves_129 rfl ?_
                  refine z_iadd dX12_moves_130 ?_
                  refine e_istore (L' := [_, _, _, _, _, _, _, _]) dX12_moves_131 (Nat.le_of_ble_eq_true rfl) rfl ?_
                  refine z_iinc (L' := [_, _, _, _, _, _, _, _]) dX12_moves_133 rfl rfl ?_
                  refine e_goto 38 dX12_moves_136 rfl ?_
                  exact mEv_wk (by exact ⟨Or.inr rfl, Or.inr rfl, Or.inr rfl, Or.inr rfl, Or.inr rfl, Or.inr rfl, Or.inr rfl, Or.inl rfl, trivial⟩) (ih28 _ (by omega) (s + 0) (t + 0) (d + 1)  rfl  (by omega) (by omega) (by rw [sumZ_s (by omega), tlR_m (by omega) (by omega)]; first | (rw [if_pos (by omega)]; first | (rw [bZ_1 (by omega)]; omega) | (rw [bZ_0 (by omega)]; omega)) | (rw [if_neg (by omega)]; first | (rw [bZ_1 (by omega)]; omega) | (rw [bZ_0 (by omega)]; omega))) (by rw [sumZ_s (by omega), tlR_m (by omega) (by omega)]; first | (rw [if_pos (by omega)]; first | (rw [bZ_1 (by omega)]; omega) | (rw [bZ_0 (by omega)]; omega)) | (rw [if_neg (by omega)]; first | (rw [bZ_1 (by omega)]; omega) | (rw [bZ_0 (by omega)]; omega))))
                · skip
                  refine z_iconst (1) dX12_moves_125 rfl ?_
                  refine e_goto 130 dX12_moves_126 rfl ?_
                  refine z_iadd dX12_moves_130 ?_
                  refine e_istore (L' := [_, _, _, _, _, _, _, _]) dX12_moves_131 (Nat.le_of_ble_eq_true rfl) rfl ?_
                  refine z_iinc (L' := [_, _, _, _, _, _, _, _]) dX12_moves_133 rfl rfl ?_
                  refine e_goto 38 dX12_moves_136 rfl ?_
                  exact mEv_wk (by exact ⟨Or.inr rfl, Or.inr rfl, Or.inr rfl, Or.inr rfl, Or.inr rfl, Or.inr rfl, Or.inr rfl, Or.inl rfl, trivial⟩) (ih28 _ (by omega) (s + 0) (t + 1) (d + 1)  rfl  (by omega) (by omega) (by rw [sumZ_s (by omega), tlR_m (by omega) (by omega)]; first | (rw [if_pos (by omega)]; first | (rw [bZ_1 (by omega)]; omega) | (rw [bZ_0 (by omega)]; omega)) | (rw [if_neg (by omega)]; first | (rw [bZ_1 (by omega)]; omega) | (rw [bZ_0 (by omega)]; omega))) (by rw [sumZ_s (by omega), tlR_m (by omega) (by omega)]; first | (rw [if_pos (by omega)]; first | (rw [bZ_1 (by omega)]; omega) | (rw [bZ_0 (by omega)]; omega)) | (rw [if_neg (by omega)]; first | (rw [bZ_1 (by omega)]; omega) | (rw [bZ_0 (by omega)]; omega))))
            · exfalso; omega
          · skip
            refine e_aload_n dX12_moves_56 rfl ?_
            refine e_get (.ref (m + 15)) dX12_moves_57 tf_12_53 (rk_s k21) (congrArg va_rf (rk_r15 k21)) ?_
            refine e_iload dX12_moves_60 rfl ?_
            refine z_ild (dm (sG σ f) d) dX12_moves_62 (rk_a15 k21) (by decide) (by omega) (by omega) (rM_d H24 (by omega) (by omega)) ?_
            have y41 := wM_d (rM_w H24) (show 0 ≤ d by omega) (by omega)
            refine e_goto 68 dX12_moves_63 rfl ?_
            refine e_istore (L' := [_, _, _, _, _, _, _, _]) dX12_moves_68 (Nat.le_of_ble_eq_true rfl) rfl ?_
            refine e_iload dX12_moves_70 rfl ?_
            refine e_iload dX12_moves_72 rfl ?_
            refine z_bipush (6) dX12_moves_74 rfl ?_
            refine z_icmp_ge 95 dX12_moves_76 rfl ⟨by omega, by omega⟩ ⟨by omega, by omega⟩ (fun c42 => ?_) (fun c42 => ?_)
            · skip
              refine z_iconst (0) dX12_moves_95 rfl ?_
              refine z_iadd dX12_moves_96 ?_
              refine e_istore (L' := [_, _, _, _, _, _, _, _]) dX12_moves_97 (Nat.le_of_ble_eq_true rfl) rfl ?_
              refine e_iload dX12_moves_99 rfl ?_
              refine e_aload_n dX12_moves_101 rfl ?_
              refine e_get (.ref (m + 16)) dX12_moves_102 tf_12_56 (rk_s k21) (congrArg va_rf (rk_r16 k21)) ?_
              refine e_iload dX12_moves_105 rfl ?_
              refine z_ild (r d) dX12_moves_107 (rk_a16 k21) (by decide) (by omega) (by omega) (RW.2 d (by omega) (by omega)) ?_
              have y43 := isRw_f RW.1.1 (show 0 ≤ d by omega) (by omega)
              have y44 := RW.1.2 d (by omega) (by omega)
              refine z_bipush (6) dX12_moves_108 rfl ?_
              refine z_icmp_ge 129 dX12_moves_110 rfl ⟨by omega, by omega⟩ ⟨by omega, by omega⟩ (fun c45 => ?_) (fun c45 => ?_)
              · skip
                refine z_iconst (0) dX12_moves_129 rfl ?_
                refine z_iadd dX12_moves_130 ?_
                refine e_istore (L' := [_, _, _, _, _, _, _, _]) dX12_moves_131 (Nat.le_of_ble_eq_true rfl) rfl ?_
                refine z_iinc (L' := [_, _, _, _, _, _, _, _]) dX12_moves_133 rfl rfl ?_
                refine e_goto 38 dX12_moves_136 rfl ?_
                exact mEv_wk (by exact ⟨Or.inr rfl, Or.inr rfl, Or.inr rfl, Or.inr rfl, Or.inr rfl, Or.inr rfl, Or.inr rfl, Or.inl rfl, trivial⟩) (ih28 _ (by omega) (s + 0) (t + 0) (d + 1)  rfl  (by omega) (by omega) (by rw [sumZ_s (by omega), tlR_m (by omega) (by omega)]; first | (rw [if_pos (by omega)]; first | (rw [bZ_1 (by omega)]; omega) | (rw [bZ_0 (by omega)]; omega)) | (rw [if_neg (by omega)]; first | (rw [bZ_1 (by omega)]; omega) | (rw [bZ_0 (by omega)]; omega))) (by rw [sumZ_s (by omega), tlR_m (by omega) (by omega)]; first | (rw [if_pos (by omega)]; first | (rw [bZ_1 (by omega)]; omega) | (rw [bZ_0 (by omega)]; omega)) | (rw [if_neg (by omega)]; first | (rw [bZ_1 (by omega)]; omega) | (rw [bZ_0 (by omega)]; omega))))
              · skip
                refine e_iload dX12_moves_113 rfl ?_
                refine e_aload_n dX12_moves_115 rfl ?_
                refine e_get (.ref (m + 16)) dX12_moves_116 tf_12_56 (rk_s k21) (congrArg va_rf (rk_r16 k21)) ?_
                refine e_iload dX12_moves_119 rfl ?_
                refine z_ild (r d) dX12_moves_121 (rk_a16 k21) (by decide) (by omega) (by omega) (RW.2 d (by omega) (by omega)) ?_
                have y46 := isRw_f RW.1.1 (show 0 ≤ d by omega) (by omega)
                have y47 := RW.1.2 d (by omega) (by omega)
                refine z_icmp_eq 129 dX12_moves_122 rfl ⟨by omega, by omega⟩ ⟨by omega, by omega⟩ (fun c48 => ?_) (fun c48 => ?_)
                · skip
                  refine z_iconst (0) dX12_moves_129 rfl ?_
                  refine z_iadd dX12_moves_130 ?_
                  refine e_istore (L' := [_, _, _, _, _, _, _, _]) dX12_moves_131 (Nat.le_of_ble_eq_true rfl) rfl ?_
                  refine z_iinc (L' := [_, _, _, _, _, _, _, _]) dX12_moves_133 rfl rfl ?_
                  refine e_goto 38 dX12_moves_136 rfl ?_
                  exact mEv_wk (by exact ⟨Or.inr rfl, Or.inr rfl, Or.inr rfl, Or.inr rfl, Or.inr rfl, Or.inr rfl, Or.inr rfl, Or.inl rfl, trivial⟩) (ih28 _ (by omega) (s + 0) (t + 0) (d + 1)  rfl  (by omega) (by omega) (by rw [sumZ_s (by omega), tlR_m (by omega) (by omega)]; first | (rw [if_pos (by omega)]; first | (rw [bZ_1 (by omega)]; omega) | (rw [bZ_0 (by omega)]; omega)) | (rw [if_neg (by omega)]; first | (rw [bZ_1 (by omega)]; omega) | (rw [bZ_0 (by omega)]; omega))) (by rw [sumZ_s (by omega), tlR_m (by omega) (by omega)]; first | (rw [if_pos (by omega)]; first | (rw [bZ_1 (by omega)]; omega) | (rw [bZ_0 (by omega)]; omega)) | (rw [if_neg (by omega)]; first | (rw [bZ_1 (by omega)]; omega) | (rw [bZ_0 (by omega)]; omega))))
                · skip
                  refine z_iconst (1) dX12_moves_125 rfl ?_
                  refine e_goto 130 dX12_moves_126 rfl ?_
                  refine z_iadd dX12_moves_130 ?_
                  refine e_istore (L' := [_, _, _, _, _, _, _, _]) dX12_moves_131 (Nat.le_of_ble_eq_true rfl) rfl ?_
                  refine z_iinc (L' := [_, _, _, _, _, _, _, _]) dX12_moves_133 rfl rfl ?_
                  refine e_goto 38 dX12_moves_136 rfl ?_
                  exact mEv_wk (by exact ⟨Or.inr rfl, Or.inr rfl, Or.inr rfl, Or.inr rfl, Or.inr rfl, Or.inr rfl, Or.inr rfl, Or.inl rfl, trivial⟩) (ih28 _ (by omega) (s + 0) (t + 1) (d + 1)  rfl  (by omega) (by omega) (by rw [sumZ_s (by omega), tlR_m (by omega) (by omega)]; first | (rw [if_pos (by omega)]; first | (rw [bZ_1 (by omega)]; omega) | (rw [bZ_0 (by omega)]; omega)) | (rw [if_neg (by omega)]; first | (rw [bZ_1 (by omega)]; omega) | (rw [bZ_0 (by omega)]; omega))) (by rw [sumZ_s (by omega), tlR_m (by omega) (by omega)]; first | (rw [if_pos (by omega)]; first | (rw [bZ_1 (by omega)]; omega) | (rw [bZ_0 (by omega)]; omega)) | (rw [if_neg (by omega)]; first | (rw [bZ_1 (by omega)]; omega) | (rw [bZ_0 (by omega)]; omega))))
            · skip
              refine e_iload dX12_moves_79 rfl ?_
              refine e_aload_n dX12_moves_81 rfl ?_
              refine e_get (.ref (m + 16)) dX12_moves_82 tf_12_56 (rk_s k21) (congrArg va_rf (rk_r16 k21)) ?_
              refine e_iload dX12_moves_85 rfl ?_
              refine z_ild (r d) dX12_moves_87 (rk_a16 k21) (by decide) (by omega) (by omega) (RW.2 d (by omega) (by omega)) ?_
              have y49 := isRw_f RW.1.1 (show 0 ≤ d by omega) (by omega)
              have y50 := RW.1.2 d (by omega) (by omega)
              refine z_icmp_eq 95 dX12_moves_88 rfl ⟨by omega, by omega⟩ ⟨by omega, by omega⟩ (fun c51 => ?_) (fun c51 => ?_)
              · skip
                refine z_iconst (0) dX12_moves_95 rfl ?_
                refine z_iadd dX12_moves_96 ?_
                refine e_istore (L' := [_, _, _, _, _, _, _, _]) dX12_moves_97 (Nat.le_of_ble_eq_true rfl) rfl ?_
                refine e_iload dX12_moves_99 rfl ?_
                refine e_aload_n dX12_moves_101 rfl ?_
                refine e_get (.ref (m + 16)) dX12_moves_102 tf_12_56 (rk_s k21) (congrArg va_rf (rk_r16 k21)) ?_
                refine e_iload dX12_moves_105 rfl ?_
                refine z_ild (r d) dX12_moves_107 (rk_a16 k21) (by decide) (by omega) (by omega) (RW.2 d (by omega) (by omega)) ?_
                have y52 := isRw_f RW.1.1 (show 0 ≤ d by omega) (by omega)
                have y53 := RW.1.2 d (by omega) (by omega)
                refine z_bipush (6) dX12_moves_108 rfl ?_
                refine z_icmp_ge 129 dX12_moves_110 rfl ⟨by omega, by omega⟩ ⟨by omega, by omega⟩ (fun c54 => ?_) (fun c54 => ?_)
                · skip
                  refine z_iconst (0) dX12_moves_129 rfl ?_
                  refine z_iadd dX12_moves_130 ?_
                  refine e_istore (L' := [_, _, _, _, _, _, _, _]) dX12_moves_131 (Nat.le_of_ble_eq_true rfl) rfl ?_
                  refine z_iinc (L' := [_, _, _, _, _, _, _, _]) dX12_moves_133 rfl rfl ?_
                  refine e_goto 38 dX12_moves_136 rfl ?_
                  exact mEv_wk (by exact ⟨Or.inr rfl, Or.inr rfl, Or.inr rfl, Or.inr rfl, Or.inr rfl, Or.inr rfl, Or.inr rfl, Or.inl rfl, trivial⟩) (ih28 _ (by omega) (s + 0) (t + 0) (d + 1)  rfl  (by omega) (by omega) (by rw [sumZ_s (by omega), tlR_m (by omega) (by omega)]; first | (rw [if_pos (by omega)]; first | (rw [bZ_1 (by omega)]; omega) | (rw [bZ_0 (by omega)]; omega)) | (rw [if_neg (by omega)]; first | (rw [bZ_1 (by omega)]; omega) | (rw [bZ_0 (by omega)]; omega))) (by rw [sumZ_s (by omega), tlR_m (by omega) (by omega)]; first | (rw [if_pos (by omega)]; first | (rw [bZ_1 (by omega)]; omega) | (rw [bZ_0 (by omega)]; omega)) | (rw [if_neg (by omega)]; first | (rw [bZ_1 (by omega)]; omega) | (rw [bZ_0 (by omega)]; omega))))
                · skip
                  refine e_iload dX12_moves_113 rfl ?_
                  refine e_aload_n dX12_moves_115 rfl ?_
                  refine e_get (.ref (m + 16)) dX12_moves_116 tf_12_56 (rk_s k21) (congrArg va_rf (rk_r16 k21)) ?_
                  refine e_iload dX12_moves_119 rfl ?_
                  refine z_ild (r d) dX12_moves_121 (rk_a16 k21) (by decide) (by omega) (by omega) (RW.2 d (by omega) (by omega)) ?_
                  have y55 := isRw_f RW.1.1 (show 0 ≤ d by omega) (by omega)
                  have y56 := RW.1.2 d (by omega) (by omega)
                  refine z_icmp_eq 129 dX12_moves_122 rfl ⟨by omega, by omega⟩ ⟨by omega, by omega⟩ (fun c57 => ?_) (fun c57 => ?_)
                  · skip
                    refine z_iconst (0) dX12_moves_129 rfl ?_
                    refine z_iadd dX12_moves_130 ?_
                    refine e_istore (L' := [_, _, _, _, _, _, _, _]) dX12_moves_131 (Nat.le_of_ble_eq_true rfl) rfl ?_
                    refine z_iinc (L' := [_, _, _, _, _, _, _, _]) dX12_moves_133 rfl rfl ?_
                    refine e_goto 38 dX12_moves_136 rfl ?_
                    exact mEv_wk (by exact ⟨Or.inr rfl, Or.inr rfl, Or.inr rfl, Or.inr rfl, Or.inr rfl, Or.inr rfl, Or.inr rfl, Or.inl rfl, trivial⟩) (ih28 _ (by omega) (s + 0) (t + 0) (d + 1)  rfl  (by omega) (by omega) (by rw [sumZ_s (by omega), tlR_m (by omega) (by omega)]; first | (rw [if_pos (by omega)]; first | (rw [bZ_1 (by omega)]; omega) | (rw [bZ_0 (by omega)]; omega)) | (rw [if_neg (by omega)]; first | (rw [bZ_1 (by omega)]; omega) | (rw [bZ_0 (by omega)]; omega))) (by rw [sumZ_s (by omega), tlR_m (by omega) (by omega)]; first | (rw [if_pos (by omega)]; first | (rw [bZ_1 (by omega)]; omega) | (rw [bZ_0 (by omega)]; omega)) | (rw [if_neg (by omega)]; first | (rw [bZ_1 (by omega)]; omega) | (rw [bZ_0 (by omega)]; omega))))
                  · skip
                    refine z_iconst (1) dX12_moves_125 rfl ?_
                    refine e_goto 130 dX12_moves_126 rfl ?_
                    refine z_iadd dX12_moves_130 ?_
                    refine e_istore (L' := [_, _, _, _, _, _, _, _]) dX12_moves_131 (Nat.le_of_ble_eq_true rfl) rfl ?_
                    refine z_iinc (L' := [_, _, _, _, _, _, _, _]) dX12_moves_133 rfl rfl ?_
                    refine e_goto 38 dX12_moves_136 rfl ?_
                    exact mEv_wk (by exact ⟨Or.inr rfl, Or.inr rfl, Or.inr rfl, Or.inr rfl, Or.inr rfl, Or.inr rfl, Or.inr rfl, Or.inl rfl, trivial⟩) (ih28 _ (by omega) (s + 0) (t + 1) (d + 1)  rfl  (by omega) (by omega) (by rw [sumZ_s (by omega), tlR_m (by omega) (by omega)]; first | (rw [if_pos (by omega)]; first | (rw [bZ_1 (by omega)]; omega) | (rw [bZ_0 (by omega)]; omega)) | (rw [if_neg (by omega)]; first | (rw [bZ_1 (by omega)]; omega) | (rw [bZ_0 (by omega)]; omega))) (by rw [sumZ_s (by omega), tlR_m (by omega) (by omega)]; first | (rw [if_pos (by omega)]; first | (rw [bZ_1 (by omega)]; omega) | (rw [bZ_0 (by omega)]; omega)) | (rw [if_neg (by omega)]; first | (rw [bZ_1 (by omega)]; omega) | (rw [bZ_0 (by omega)]; omega))))
              · skip
                refine z_iconst (1) dX12_moves_91 rfl ?_
                refine e_goto 96 dX12_moves_92 rfl ?_
                refine z_iadd dX12_moves_96 ?_
                refine e_istore (L' := [_, _, _, _, _, _, _, _]) dX12_moves_97 (Nat.le_of_ble_eq_true rfl) rfl ?_
                refine e_iload dX12_moves_99 rfl ?_
                refine e_aload_n dX12_moves_101 rfl ?_
                refine e_get (.ref (m + 16)) dX12_moves_102 tf_12_56 (rk_s k21) (congrArg va_rf (rk_r16 k21)) ?_
                refine e_iload dX12_moves_105 rfl ?_
                refine z_ild (r d) dX12_moves_107 (rk_a16 k21) (by decide) (by omega) (by omega) (RW.2 d (by omega) (by omega)) ?_
                have y58 := isRw_f RW.1.1 (show 0 ≤ d by omega) (by omega)
                have y59 := RW.1.2 d (by omega) (by omega)
                refine z_bipush (6) dX12_moves_108 rfl ?_
                refine z_icmp_ge 129 dX12_moves_110 rfl ⟨by omega, by omega⟩ ⟨by omega, by omega⟩ (fun c60 => ?_) (fun c60 => ?_)
                · skip
                  refine z_iconst (0) dX12_moves_129 rfl ?_
                  refine z_iadd dX12_moves_130 ?_
                  refine e_istore (L' := [_, _, _, _, _, _, _, _]) dX12_moves_131 (Nat.le_of_ble_eq_true rfl) rfl ?_
                  refine z_iinc (L' := [_, _, _, _, _, _, _, _]) dX12_moves_133 rfl rfl ?_
                  refine e_goto 38 dX12_moves_136 rfl ?_
                  exact mEv_wk (by exact ⟨Or.inr rfl, Or.inr rfl, Or.inr rfl, Or.inr rfl, Or.inr rfl, Or.inr rfl, Or.inr rfl, Or.inl rfl, trivial⟩) (ih28 _ (by omega) (s + 1) (t + 0) (d + 1)  rfl  (by omega) (by omega) (by rw [sumZ_s (by omega), tlR_m (by omega) (by omega)]; first | (rw [if_pos (by omega)]; first | (rw [bZ_1 (by omega)]; omega) | (rw [bZ_0 (by omega)]; omega)) | (rw [if_neg (by omega)]; first | (rw [bZ_1 (by omega)]; omega) | (rw [bZ_0 (by omega)]; omega))) (by rw [sumZ_s (by omega), tlR_m (by omega) (by omega)]; first | (rw [if_pos (by omega)]; first | (rw [bZ_1 (by omega)]; omega) | (rw [bZ_0 (by omega)]; omega)) | (rw [if_neg (by omega)]; first | (rw [bZ_1 (by omega)]; omega) | (rw [bZ_0 (by omega)]; omega))))
                · skip
                  refine e_iload dX12_moves_113 rfl ?_
                  refine e_aload_n dX12_moves_115 rfl ?_
                  refine e_get (.ref (m + 16)) dX12_moves_116 tf_12_56 (rk_s k21) (congrArg va_rf (rk_r16 k21)) ?_
                  refine e_iload dX12_moves_119 rfl ?_
                  refine z_ild (r d) dX12_moves_121 (rk_a16 k21) (by decide) (by omega) (by omega) (RW.2 d (by omega) (by omega)) ?_
                  have y61 := isRw_f RW.1.1 (show 0 ≤ d by omega) (by omega)
                  have y62 := RW.1.2 d (by omega) (by omega)
                  refine z_icmp_eq 129 dX12_moves_122 rfl ⟨by omega, by omega⟩ ⟨by omega, by omega⟩ (fun c63 => ?_) (fun c63 => ?_)
                  · skip
                    refine z_iconst (0) dX12_moves_129 rfl ?_
                    refine z_iadd dX12_moves_130 ?_
                    refine e_istore (L' := [_, _, _, _, _, _, _, _]) dX12_moves_131 (Nat.le_of_ble_eq_true rfl) rfl ?_
                    refine z_iinc (L' := [_, _, _, _, _, _, _, _]) dX12_moves_133 rfl rfl ?_
                    refine e_goto 38 dX12_moves_136 rfl ?_
                    exact mEv_wk (by exact ⟨Or.inr rfl, Or.inr rfl, Or.inr rfl, Or.inr rfl, Or.inr rfl, Or.inr rfl, Or.inr rfl, Or.inl rfl, trivial⟩) (ih28 _ (by omega) (s + 1) (t + 0) (d + 1)  rfl  (by omega) (by omega) (by rw [sumZ_s (by omega), tlR_m (by omega) (by omega)]; first | (rw [if_pos (by omega)]; first | (rw [bZ_1 (by omega)]; omega) | (rw [bZ_0 (by omega)]; omega)) | (rw [if_neg (by omega)]; first | (rw [bZ_1 (by omega)]; omega) | (rw [bZ_0 (by omega)]; omega))) (by rw [sumZ_s (by omega), tlR_m (by omega) (by omega)]; first | (rw [if_pos (by omega)]; first | (rw [bZ_1 (by omega)]; omega) | (rw [bZ_0 (by omega)]; omega)) | (rw [if_neg (by omega)]; first | (rw [bZ_1 (by omega)]; omega) | (rw [bZ_0 (by omega)]; omega))))
                  · skip
                    refine z_iconst (1) dX12_moves_125 rfl ?_
                    refine e_goto 130 dX12_moves_126 rfl ?_
                    refine z_iadd dX12_moves_130 ?_
                    refine e_istore (L' := [_, _, _, _, _, _, _, _]) dX12_moves_131 (Nat.le_of_ble_eq_true rfl) rfl ?_
                    refine z_iinc (L' := [_, _, _, _, _, _, _, _]) dX12_moves_133 rfl rfl ?_
                    refine e_goto 38 dX12_moves_136 rfl ?_
                    exact mEv_wk (by exact ⟨Or.inr rfl, Or.inr rfl, Or.inr rfl, Or.inr rfl, Or.inr rfl, Or.inr rfl, Or.inr rfl, Or.inl rfl, trivial⟩) (ih28 _ (by omega) (s + 1) (t + 1) (d + 1)  rfl  (by omega) (by omega) (by rw [sumZ_s (by omega), tlR_m (by omega) (by omega)]; first | (rw [if_pos (by omega)]; first | (rw [bZ_1 (by omega)]; omega) | (rw [bZ_0 (by omega)]; omega)) | (rw [if_neg (by omega)]; first | (rw [bZ_1 (by omega)]; omega) | (rw [bZ_0 (by omega)]; omega))) (by rw [sumZ_s (by omega), tlR_m (by omega) (by omega)]; first | (rw [if_pos (by omega)]; first | (rw [bZ_1 (by omega)]; omega) | (rw [bZ_0 (by omega)]; omega)) | (rw [if_neg (by omega)]; first | (rw [bZ_1 (by omega)]; omega) | (rw [bZ_0 (by omega)]; omega))))
      exact lp28 _ 0 0 0  rfl  (by omega) (by omega) rfl rfl
    · exfalso; omega
set_option maxHeartbeats 1000000 in
theorem zp_X12_leaving_3 {ad : mA} {dd : Nat} {h : mH} {Q : mQ} {m : Nat} {σ : Sg} (hk : rk h m) (HR : refT h m 0 σ)  (f : Int) (f_r : -2147483648 ≤ f ∧ f < 2147483648) (p1 : 0 ≤ f) (p2 : f < cn σ 0) (kq : ∀ v : Int, (∃ r, rwR (sG σ f) 3 r ∧ v = lvN (sG σ f) r) → ∀ h1, frm (fun a i => a = m ∨ (m + 9 ≤ a ∧ a < m + 30)) h h1 → Q (some (.int (zI v))) h1) : mCal TB0 ad (dd + 9) M_X12_leaving [.ref m, .int (zI f), .int (zI 3)] h 0 0 Q := by
  refine ⟨Nat.le_of_ble_eq_true rfl, ?_⟩
  show mEv TB0 ad M_X12_leaving (dd + 9) (0, 0) (mCal TB0 ad (dd + 8)) (fun v h' z => z.1 = 0 ∧ Q v h') 0 [some (.ref m), some (.int (zI f)), some (.int (zI 3))] [] h (0, 0)
  have FR0 : frm (fun a i => a = m ∨ (m + 9 ≤ a ∧ a < m + 30)) h h := frm_0 h
  have w1 := wS_n (refT_w HR)
  have W := (refT_w HR).2.2.1 f p1 p2
  refine e_aload_n dX12_leaving_0 rfl ?_
  refine z_iconst (0) dX12_leaving_1 rfl ?_
  refine z_put dX12_leaving_2 tf_12_103 (rk_s hk) rfl (Or.inl rfl) (fun h1 e2 => ?_)
  have f3 := frm_1 e2
  have k4 := rk_q (frm_s f3) hk
  have H5 := refT_c f3 (fun a k q1 q2 => by omega) HR
  have FR6 := frm_t FR0 (frm_m (S' := (fun a i => a = m ∨ (m + 9 ≤ a ∧ a < m + 30))) f3 (fun a k q => by omega))
  refine e_aload_n dX12_leaving_5 rfl ?_
  refine e_iload_n dX12_leaving_6 rfl ?_
  refine e_callV [.int _] dX12_leaving_7 tm_12_292 rfl (Nat.le_of_ble_eq_true rfl) (rk_s k4) (Nat.le_of_ble_eq_true rfl) (Nat.le_refl _) (Nat.le_refl _) rfl (zp_X12_hand_in k4 H5 f ⟨by omega, by omega⟩ (by omega) (by omega) (fun  h7 f8 p9 p10 p11 p12 => ?_))
  have k13 := rk_q (frm_s f8) k4
  have H14 := refT_c f8 (fun a k q1 q2 => by omega) H5
  have FR15 := frm_t FR6 (frm_m (S' := (fun a i => a = m ∨ (m + 9 ≤ a ∧ a < m + 30))) f8 (fun a k q => by omega))
  have w5 := rB_n p9
  have w6 := rC_n p11
  refine z_ifb_eq 22 dX12_leaving_10 rfl (fun c16 => ?_) (fun c16 => ?_)
  · exact absurd trivial c16
  · skip
    refine e_iload_n dX12_leaving_13 rfl ?_
    refine z_iconst (0) dX12_leaving_14 rfl ?_
    refine z_iconst (5) dX12_leaving_15 rfl ?_
    refine e_callS [.int _, .int _, .int _] dX12_leaving_16 tm_12_115 rfl (Nat.le_of_ble_eq_true rfl) (Nat.le_refl _) (Nat.le_refl _) rfl (zp_X12_in 3 ⟨by omega, by omega⟩ 0 ⟨by omega, by omega⟩ 5 ⟨by omega, by omega⟩ ?_)
    refine z_ifb_ne 24 dX12_leaving_19 rfl (fun c17 => ?_) (fun c17 => ?_)
    · skip
      refine e_aload_n dX12_leaving_24 rfl ?_
      refine e_iload_n dX12_leaving_25 rfl ?_
      refine e_callV [.int _] dX12_leaving_26 tm_12_442 rfl (Nat.le_of_ble_eq_true rfl) (rk_s k13) (Nat.le_of_ble_eq_true rfl) (Nat.le_refl _) (Nat.le_refl _) rfl (zp_X12_layRow_3 k13 p9 p10 W (fun  h18 f19 p20 => ?_))
      have k21 := rk_q (frm_s f19) k13
      have H22 := refT_c f19 (fun a k q1 q2 => by omega) H14
      have H23 := rB_c f19 (fun a k q => by omega) p9
      have H24 := rM_c f19 (fun a k q => by omega) p10
      have H25 := rC_c f19 (fun a k q => by omega) p11
      have H26 := rK_c f19 (fun a k q1 q2 => by omega) p12
      have FR27 := frm_t FR15 (frm_m (S' := (fun a i => a = m ∨ (m + 9 ≤ a ∧ a < m + 30))) f19 (fun a k q => by omega))
      obtain ⟨r, RW, RR⟩ := p20
      refine e_aload_n dX12_leaving_29 rfl ?_
      refine e_callV [] dX12_leaving_30 tm_12_403 rfl (Nat.le_of_ble_eq_true rfl) (rk_s k21) (Nat.le_of_ble_eq_true rfl) (Nat.le_refl _) (Nat.le_refl _) rfl (zp_X12_leavingNow k21 H23 RW (fun  h28 f29 p30 => ?_))
      have k31 := rk_q (frm_s f29) k21
      have H32 := refT_c f29 (fun a k q1 q2 => by omega) H22
      have H33 := rB_c f29 (fun a k q => by omega) H23
      have H34 := rM_c f29 (fun a k q => by omega) H24
      have H35 := rC_c f29 (fun a k q => by omega) H25
      have H36 := rK_c f29 (fun a k q1 q2 => by omega) H26
      have H37 := rRw_c f29 (fun a k q => by omega) RW
      have FR38 := frm_t FR27 (frm_m (S' := (fun a i => a = m ∨ (m + 9 ≤ a ∧ a < m + 30))) f29 (fun a k q => by omega))
      have y39 := lvN_b (show (0 ≤ nd (sG σ f) ∧ nd (sG σ f) ≤ 6) ∧ (0 ≤ nu (sG σ f) ∧ nu (sG σ f) ≤ 6) by omega) r
      refine z_iret dX12_leaving_33 rfl ⟨rfl, ?_⟩
      refine kq _ ?_ _ FR38
      exact ⟨r, RR, rfl⟩
    · exfalso; omega
set_option maxHeartbeats 1000000 in
theorem zp_X12_row_3 {ad : mA} {dd : Nat} {h : mH} {Q : mQ} {m : Nat} {σ : Sg} (hk : rk h m) (HR : refT h m 0 σ)  (f : Int) (f_r : -2147483648 ≤ f ∧ f < 2147483648) (k : Int) (k_r : -2147483648 ≤ k ∧ k < 2147483648) (p1 : 0 ≤ f) (p2 : f < cn σ 0) (kq : ∀ v : Int, (((-1 ≤ k ∧ k < nd (sG σ f)) ∧ ∃ r, rwR (sG σ f) 3 r ∧ v = if k = -1 then inR r else r k) ∨ (¬ (-1 ≤ k ∧ k < nd (sG σ f)) ∧ v = -1)) → ∀ h1, frm (fun a i => a = m ∨ (m + 9 ≤ a ∧ a < m + 30)) h h1 → Q (some (.int (zI v))) h1) : mCal TB0 ad (dd + 9) M_X12_row [.ref m, .int (zI f), .int (zI 3), .int (zI k)] h 0 0 Q := by
  refine ⟨Nat.le_of_ble_eq_true rfl, ?_⟩
  show mEv TB0 ad M_X12_row (dd + 9) (0, 0) (mCal TB0 ad (dd + 8)) (fun v h' z => z.1 = 0 ∧ Q v h') 0 [some (.ref m), some (.int (zI f)), some (.int (zI 3)), some (.int (zI k))] [] h (0, 0)
  have FR0 : frm (fun a i => a = m ∨ (m + 9 ≤ a ∧ a < m + 30)) h h := frm_0 h
  have w1 := wS_n (refT_w HR)
  have W := (refT_w HR).2.2.1 f p1 p2
  refine e_aload_n dX12_row_0 rfl ?_
  refine z_iconst (0) dX12_row_1 rfl ?_
  refine z_put dX12_row_2 tf_12_103 (rk_s hk) rfl (Or.inl rfl) (fun h1 e2 => ?_)
  have f3 := frm_1 e2
  have k4 := rk_q (frm_s f3) hk
  have H5 := refT_c f3 (fun a k q1 q2 => by omega) HR
  have FR6 := frm_t FR0 (frm_m (S' := (fun a i => a = m ∨ (m + 9 ≤ a ∧ a < m + 30))) f3 (fun a k q => by omega))
  refine e_aload_n dX12_row_5 rfl ?_
  refine e_iload_n dX12_row_6 rfl ?_
  refine e_callV [.int _] dX12_row_7 tm_12_292 rfl (Nat.le_of_ble_eq_true rfl) (rk_s k4) (Nat.le_of_ble_eq_true rfl) (Nat.le_refl _) (Nat.le_refl _) rfl (zp_X12_hand_in k4 H5 f ⟨by omega, by omega⟩ (by omega) (by omega) (fun  h7 f8 p9 p10 p11 p12 => ?_))
  have k13 := rk_q (frm_s f8) k4
  have H14 := refT_c f8 (fun a k q1 q2 => by omega) H5
  have FR15 := frm_t FR6 (frm_m (S' := (fun a i => a = m ∨ (m + 9 ≤ a ∧ a < m + 30))) f8 (fun a k q => by omega))
  have w5 := rB_n p9
  have w6 := rC_n p11
  refine z_ifb_eq 36 dX12_row_10 rfl (fun c16 => ?_) (fun c16 => ?_)
  · exact absurd trivial c16
  · skip
    refine e_iload_n dX12_row_13 rfl ?_
    refine z_iconst (1) dX12_row_14 rfl ?_
    refine z_iconst (5) dX12_row_15 rfl ?_
    refine e_callS [.int _, .int _, .int _] dX12_row_16 tm_12_115 rfl (Nat.le_of_ble_eq_true rfl) (Nat.le_refl _) (Nat.le_refl _) rfl (zp_X12_in 3 ⟨by omega, by omega⟩ 1 ⟨by omega, by omega⟩ 5 ⟨by omega, by omega⟩ ?_)
    refine z_ifb_eq 36 dX12_row_19 rfl (fun c17 => ?_) (fun c17 => ?_)
    · exfalso; omega
    · skip
      refine e_iload_n dX12_row_22 rfl ?_
      refine z_iconst (-1) dX12_row_23 rfl ?_
      refine e_aload_n dX12_row_24 rfl ?_
      refine z_get (nd (sG σ f)) dX12_row_25 tf_12_271 (rk_s k13) (Or.inl rfl) (rB_nd p9) ?_
      have y18 := rB_n p9
      refine z_iconst (1) dX12_row_28 rfl ?_
      refine z_isub dX12_row_29 ?_
      refine e_callS [.int _, .int _, .int _] dX12_row_30 tm_12_115 rfl (Nat.le_of_ble_eq_true rfl) (Nat.le_refl _) (Nat.le_refl _) rfl (zp_X12_in k ⟨by omega, by omega⟩ (-1) ⟨by omega, by omega⟩ ((nd (sG σ f)) - 1) ⟨by omega, by omega⟩ ?_)
      refine z_ifb_ne 38 dX12_row_33 rfl (fun c19 => ?_) (fun c19 => ?_)
      · skip
        refine e_aload_n dX12_row_38 rfl ?_
        refine e_iload_n dX12_row_39 rfl ?_
        refine e_callV [.int _] dX12_row_40 tm_12_442 rfl (Nat.le_of_ble_eq_true rfl) (rk_s k13) (Nat.le_of_ble_eq_true rfl) (Nat.le_refl _) (Nat.le_refl _) rfl (zp_X12_layRow_3 k13 p9 p10 W (fun  h20 f21 p22 => ?_))
        have k23 := rk_q (frm_s f21) k13
        have H24 := refT_c f21 (fun a k q1 q2 => by omega) H14
        have H25 := rB_c f21 (fun a k q => by omega) p9
        have H26 := rM_c f21 (fun a k q => by omega) p10
        have H27 := rC_c f21 (fun a k q => by omega) p11
        have H28 := rK_c f21 (fun a k q1 q2 => by omega) p12
        have FR29 := frm_t FR15 (frm_m (S' := (fun a i => a = m ∨ (m + 9 ≤ a ∧ a < m + 30))) f21 (fun a k q => by omega))
        obtain ⟨r, RW, RR⟩ := p22
        refine e_iload_n dX12_row_43 rfl ?_
        refine z_iconst (-1) dX12_row_44 rfl ?_
        refine z_icmp_ne 55 dX12_row_45 rfl ⟨by omega, by omega⟩ ⟨by omega, by omega⟩ (fun c30 => ?_) (fun c30 => ?_)
        · skip
          refine e_aload_n dX12_row_55 rfl ?_
          refine e_get (.ref (m + 16)) dX12_row_56 tf_12_56 (rk_s k23) (congrArg va_rf (rk_r16 k23)) ?_
          refine e_iload_n dX12_row_59 rfl ?_
          refine z_ild (r k) dX12_row_60 (rk_a16 k23) (by decide) (by omega) (by omega) (RW.2 k (by omega) (by omega)) ?_
          have y31 := isRw_f RW.1.1 (show 0 ≤ k by omega) (by omega)
          have y32 := RW.1.2 k (by omega) (by omega)
          refine z_iret dX12_row_61 rfl ⟨rfl, ?_⟩
          refine kq _ ?_ _ FR29
          first | exact Or.inr ⟨by omega, rfl⟩ | exact Or.inl ⟨by omega, r, RR, by rw [if_pos (by omega)]⟩ | exact Or.inl ⟨by omega, r, RR, by rw [if_neg (by omega)]⟩
        · skip
          refine e_aload_n dX12_row_48 rfl ?_
          refine e_callV [] dX12_row_49 tm_12_413 rfl (Nat.le_of_ble_eq_true rfl) (rk_s k23) (Nat.le_of_ble_eq_true rfl) (Nat.le_refl _) (Nat.le_refl _) rfl (zp_X12_inRow k23 RW ?_)
          have y33 := inR_b r
          refine e_goto 61 dX12_row_52 rfl ?_
          refine z_iret dX12_row_61 rfl ⟨rfl, ?_⟩
          refine kq _ ?_ _ FR29
          first | exact Or.inr ⟨by omega, rfl⟩ | exact Or.inl ⟨by omega, r, RR, by rw [if_pos (by omega)]⟩ | exact Or.inl ⟨by omega, r, RR, by rw [if_neg (by omega)]⟩
      · skip
        refine z_iconst (-1) dX12_row_36 rfl ?_
        refine z_iret dX12_row_37 rfl ⟨rfl, ?_⟩
        refine kq _ ?_ _ FR15
        first | exact Or.inr ⟨by omega, rfl⟩ | exact Or.inl ⟨by omega, r, RR, by rw [if_pos (by omega)]⟩ | exact Or.inl ⟨by omega, r, RR, by rw [if_neg (by omega)]⟩
set_option maxHeartbeats 1000000 in
theorem zp_X12_moves_3 {ad : mA} {dd : Nat} {h : mH} {Q : mQ} {m : Nat} {σ : Sg} (hk : rk h m) (HR : refT h m 0 σ)  (f : Int) (f_r : -2147483648 ≤ f ∧ f < 2147483648) (p : Prop) [Decidable p] (p1 : 0 ≤ f) (p2 : f < cn σ 0) (kq : ∀ v : Int, (∃ r, rwR (sG σ f) 3 r ∧ v = if p then mvR (sG σ f) r else mvP (sG σ f) r) → ∀ h1, frm (fun a i => a = m ∨ (m + 9 ≤ a ∧ a < m + 30)) h h1 → Q (some (.int (zI v))) h1) : mCal TB0 ad (dd + 9) M_X12_moves [.ref m, .int (zI f), .int (zI 3), .int (zI (bZ p))] h 0 0 Q := by
  refine ⟨Nat.le_of_ble_eq_true rfl, ?_⟩
  show mEv TB0 ad M_X12_moves (dd + 9) (0, 0) (mCal TB0 ad (dd + 8)) (fun v h' z => z.1 = 0 ∧ Q v h') 0 [some (.ref m), some (.int (zI f)), some (.int (zI 3)), some (.int (zI (bZ p))), none, none, none, none] [] h (0, 0)
  have FR0 : frm (fun a i => a = m ∨ (m + 9 ≤ a ∧ a < m + 30)) h h := frm_0 h
  have w1 := wS_n (refT_w HR)
  have W := (refT_w HR).2.2.1 f p1 p2
  refine e_aload_n dX12_moves_0 rfl ?_
  refine z_iconst (0) dX12_moves_1 rfl ?_
  refine z_put dX12_moves_2 tf_12_103 (rk_s hk) rfl (Or.inl rfl) (fun h1 e2 => ?_)
  have f3 := frm_1 e2
  have k4 := rk_q (frm_s f3) hk
  have H5 := refT_c f3 (fun a k q1 q2 => by omega) HR
  have FR6 := frm_t FR0 (frm_m (S' := (fun a i => a = m ∨ (m + 9 ≤ a ∧ a < m + 30))) f3 (fun a k q => by omega))
  refine e_aload_n dX12_moves_5 rfl ?_
  refine e_iload_n dX12_moves_6 rfl ?_
  refine e_callV [.int _] dX12_moves_7 tm_12_292 rfl (Nat.le_of_ble_eq_true rfl) (rk_s k4) (Nat.le_of_ble_eq_true rfl) (Nat.le_refl _) (Nat.le_refl _) rfl (zp_X12_hand_in k4 H5 f ⟨by omega, by omega⟩ (by omega) (by omega) (fun  h7 f8 p9 p10 p11 p12 => ?_))
  have k13 := rk_q (frm_s f8) k4
  have H14 := refT_c f8 (fun a k q1 q2 => by omega) H5
  have FR15 := frm_t FR6 (frm_m (S' := (fun a i => a = m ∨ (m + 9 ≤ a ∧ a < m + 30))) f8 (fun a k q => by omega))
  have w5 := rB_n p9
  have w6 := rC_n p11
  refine z_ifb_eq 22 dX12_moves_10 rfl (fun c16 => ?_) (fun c16 => ?_)
  · exact absurd trivial c16
  · skip
    refine e_iload_n dX12_moves_13 rfl ?_
    refine z_iconst (1) dX12_moves_14 rfl ?_
    refine z_iconst (5) dX12_moves_15 rfl ?_
    refine e_callS [.int _, .int _, .int _] dX12_moves_16 tm_12_115 rfl (Nat.le_of_ble_eq_true rfl) (Nat.le_refl _) (Nat.le_refl _) rfl (zp_X12_in 3 ⟨by omega, by omega⟩ 1 ⟨by omega, by omega⟩ 5 ⟨by omega, by omega⟩ ?_)
    refine z_ifb_ne 24 dX12_moves_19 rfl (fun c17 => ?_) (fun c17 => ?_)
    · skip
      refine e_aload_n dX12_moves_24 rfl ?_
      refine e_iload_n dX12_moves_25 rfl ?_
      refine e_callV [.int _] dX12_moves_26 tm_12_442 rfl (Nat.le_of_ble_eq_true rfl) (rk_s k13) (Nat.le_of_ble_eq_true rfl) (Nat.le_refl _) (Nat.le_refl _) rfl (zp_X12_layRow_3 k13 p9 p10 W (fun  h18 f19 p20 => ?_))
      have k21 := rk_q (frm_s f19) k13
      have H22 := refT_c f19 (fun a k q1 q2 => by omega) H14
      have H23 := rB_c f19 (fun a k q => by omega) p9
      have H24 := rM_c f19 (fun a k q => by omega) p10
      have H25 := rC_c f19 (fun a k q => by omega) p11
      have H26 := rK_c f19 (fun a k q1 q2 => by omega) p12
      have FR27 := frm_t FR15 (frm_m (S' := (fun a i => a = m ∨ (m + 9 ≤ a ∧ a < m + 30))) f19 (fun a k q => by omega))
      obtain ⟨r, RW, RR⟩ := p20
      refine z_iconst (0) dX12_moves_29 rfl ?_
      refine e_istore (L' := [_, _, _, _, _, _, _, _]) dX12_moves_30 (Nat.le_of_ble_eq_true rfl) rfl ?_
      refine z_iconst (0) dX12_moves_32 rfl ?_
      refine e_istore (L' := [_, _, _, _, _, _, _, _]) dX12_moves_33 (Nat.le_of_ble_eq_true rfl) rfl ?_
      refine z_iconst (0) dX12_moves_35 rfl ?_
      refine e_istore (L' := [_, _, _, _, _, _, _, _]) dX12_moves_36 (Nat.le_of_ble_eq_true rfl) rfl ?_
      have lp28 : ∀ (n28 : Nat) (s t d : Int), (nd (sG σ f) - d).toNat = n28 → (0 ≤ d ∧ d ≤ nd (sG σ f)) → ((0 ≤ s ∧ s ≤ d) ∧ (0 ≤ t ∧ t ≤ d)) → (s = sumZ (fun d => bZ (tlR (sG σ f) d < 6 ∧ tlR (sG σ f) d ≠ r d)) d.toNat) → (t = sumZ (fun d => bZ (r d < 6 ∧ tlR (sG σ f) d ≠ r d)) d.toNat) → mEv TB0 ad M_X12_moves (dd + 9) (0, 0) (mCal TB0 ad (dd + 8)) (fun v h' z => z.1 = 0 ∧ Q v h') 38 [some (.ref m), some (.int (zI f)), some (.int (zI 3)), some (.int (zI (bZ p))), some (.int (zI s)), some (.int (zI t)), some (.int (zI d)), none] [] h18 (0, 0) := by
        intro n28
        induction n28 using Nat.strongRecOn with
        | ind n28 ih28 =>
        intro s t d  hn28  I1 I2 I3 I4
        refine e_iload dX12_moves_38 rfl ?_
        refine e_aload_n dX12_moves_40 rfl ?_
        refine z_get (nd (sG σ f)) dX12_moves_41 tf_12_271 (rk_s k21) (Or.inl rfl) (rB_nd H23) ?_
        have y29 := rB_n H23
        refine z_icmp_ge 139 dX12_moves_44 rfl ⟨by omega, by omega⟩ ⟨by omega, by omega⟩ (fun c30 => ?_) (fun c30 => ?_)
        · skip
          refine e_iload_n dX12_moves_139 rfl ?_
          refine z_ifb_eq 148 dX12_moves_140 rfl (fun c31 => ?_) (fun c31 => ?_)
          · skip
            refine e_iload dX12_moves_148 rfl ?_
            refine z_iret dX12_moves_150 rfl ⟨rfl, ?_⟩
            refine kq _ ?_ _ FR27
            first | exact ⟨r, RR, by rw [if_pos (by assumption), I4, show d = nd (sG σ f) by omega]; rfl⟩ | exact ⟨r, RR, by rw [if_neg (by assumption), I3, show d = nd (sG σ f) by omega]; rfl⟩
          · skip
            refine e_iload dX12_moves_143 rfl ?_
            refine e_goto 150 dX12_moves_145 rfl ?_
            refine z_iret dX12_moves_150 rfl ⟨rfl, ?_⟩
            refine kq _ ?_ _ FR27
            first | exact ⟨r, RR, by rw [if_pos (by assumption), I4, show d = nd (sG σ f) by omega]; rfl⟩ | exact ⟨r, RR, by rw [if_neg (by assumption), I3, show d = nd (sG σ f) by omega]; rfl⟩
        · skip
          refine e_aload_n dX12_moves_47 rfl ?_
          refine e_iload dX12_moves_48 rfl ?_
          refine e_callV [.int _] dX12_moves_50 tm_12_286 rfl (Nat.le_of_ble_eq_true rfl) (rk_s k21) (Nat.le_of_ble_eq_true rfl) (Nat.le_refl _) (Nat.le_refl _) rfl (zp_X12_isPaired k21 H24 d ⟨by omega, by omega⟩ (by omega) (by omega) ?_)
          have y32 := wM_d (rM_w H24) (show 0 ≤ d by omega) (by omega)
          refine z_ifb_eq 66 dX12_moves_53 rfl (fun c33 => ?_) (fun c33 => ?_)
          · skip
            refine z_bipush (6) dX12_moves_66 rfl ?_
            refine e_istore (L' := [_, _, _, _, _, _, _, _]) dX12_moves_68 (Nat.le_of_ble_eq_true rfl) rfl ?_
            refine e_iload dX12_moves_70 rfl ?_
            refine e_iload dX12_moves_72 rfl ?_
            refine z_bipush (6) dX12_moves_74 rfl ?_
            refine z_icmp_ge 95 dX12_moves_76 rfl ⟨by omega, by omega⟩ ⟨by omega, by omega⟩ (fun c34 => ?_) (fun c34 => ?_)
            · skip
              refine z_iconst (0) dX12_moves_95 rfl ?_
              refine z_iadd dX12_moves_96 ?_
              refine e_istore (L' := [_, _, _, _, _, _, _, _]) dX12_moves_97 (Nat.le_of_ble_eq_true rfl) rfl ?_
              refine e_iload dX12_moves_99 rfl ?_
              refine e_aload_n dX12_moves_101 rfl ?_
              refine e_get (.ref (m + 16)) dX12_moves_102 tf_12_56 (rk_s k21) (congrArg va_rf (rk_r16 k21)) ?_
              refine e_iload dX12_moves_105 rfl ?_
              refine z_ild (r d) dX12_moves_107 (rk_a16 k21) (by decide) (by omega) (by omega) (RW.2 d (by omega) (by omega)) ?_
              have y35 := isRw_f RW.1.1 (show 0 ≤ d by omega) (by omega)
              have y36 := RW.1.2 d (by omega) (by omega)
              refine z_bipush (6) dX12_moves_108 rfl ?_
              refine z_icmp_ge 129 dX12_moves_110 rfl ⟨by omega, by omega⟩ ⟨by omega, by omega⟩ (fun c37 => ?_) (fun c37 => ?_)
              · skip
                refine z_iconst (0) dX12_moves_129 rfl ?_
                refine z_iadd dX12_moves_130 ?_
                refine e_istore (L' := [_, _, _, _, _, _, _, _]) dX12_moves_131 (Nat.le_of_ble_eq_true rfl) rfl ?_
                refine z_iinc (L' := [_, _, _, _, _, _, _, _]) dX12_moves_133 rfl rfl ?_
                refine e_goto 38 dX12_moves_136 rfl ?_
                exact mEv_wk (by exact ⟨Or.inr rfl, Or.inr rfl, Or.inr rfl, Or.inr rfl, Or.inr rfl, Or.inr rfl, Or.inr rfl, Or.inl rfl, trivial⟩) (ih28 _ (by omega) (s + 0) (t + 0) (d + 1)  rfl  (by omega) (by omega) (by rw [sumZ_s (by omega), tlR_m (by omega) (by omega)]; first | (rw [if_pos (by omega)]; first | (rw [bZ_1 (by omega)]; omega) | (rw [bZ_0 (by omega)]; omega)) | (rw [if_neg (by omega)]; first | (rw [bZ_1 (by omega)]; omega) | (rw [bZ_0 (by omega)]; omega))) (by rw [sumZ_s (by omega), tlR_m (by omega) (by omega)]; first | (rw [if_pos (by omega)]; first | (rw [bZ_1 (by omega)]; omega) | (rw [bZ_0 (by omega)]; omega)) | (rw [if_neg (by omega)]; first | (rw [bZ_1 (by omega)]; omega) | (rw [bZ_0 (by omega)]; omega))))
              · skip
                refine e_iload dX12_moves_113 rfl ?_
                refine e_aload_n dX12_moves_115 rfl ?_
                refine e_get (.ref (m + 16)) dX12_moves_116 tf_12_56 (rk_s k21) (congrArg va_rf (rk_r16 k21)) ?_
                refine e_iload dX12_moves_119 rfl ?_
                refine z_ild (r d) dX12_moves_121 (rk_a16 k21) (by decide) (by omega) (by omega) (RW.2 d (by omega) (by omega)) ?_
                have y38 := isRw_f RW.1.1 (show 0 ≤ d by omega) (by omega)
                have y39 := RW.1.2 d (by omega) (by omega)
                refine z_icmp_eq 129 dX12_moves_122 rfl ⟨by omega, by omega⟩ ⟨by omega, by omega⟩ (fun c40 => ?_) (fun c40 => ?_)
                · skip
                  refine z_iconst (0) dX12_moves_129 rfl ?_
                  refine z_iadd dX12_moves_130 ?_
                  refine e_istore (L' := [_, _, _, _, _, _, _, _]) dX12_moves_131 (Nat.le_of_ble_eq_true rfl) rfl ?_
                  refine z_iinc (L' := [_, _, _, _, _, _, _, _]) dX12_moves_133 rfl rfl ?_
                  refine e_goto 38 dX12_moves_136 rfl ?_
                  exact mEv_wk (by exact ⟨Or.inr rfl, Or.inr rfl, Or.inr rfl, Or.inr rfl, Or.inr rfl, Or.inr rfl, Or.inr rfl, Or.inl rfl, trivial⟩) (ih28 _ (by omega) (s + 0) (t + 0) (d + 1)  rfl  (by omega) (by omega) (by rw [sumZ_s (by omega), tlR_m (by omega) (by omega)]; first | (rw [if_pos (by omega)]; first | (rw [bZ_1 (by omega)]; omega) | (rw [bZ_0 (by omega)]; omega)) | (rw [if_neg (by omega)]; first | (rw [bZ_1 (by omega)]; omega) | (rw [bZ_0 (by omega)]; omega))) (by rw [sumZ_s (by omega), tlR_m (by omega) (by omega)]; first | (rw [if_pos (by omega)]; first | (rw [bZ_1 (by omega)]; omega) | (rw [bZ_0 (by omega)]; omega)) | (rw [if_neg (by omega)]; first | (rw [bZ_1 (by omega)]; omega) | (rw [bZ_0 (by omega)]; omega))))
                · skip
                  refine z_iconst (1) dX12_moves_125 rfl ?_
                  refine e_goto 130 dX12_moves_126 rfl ?_
                  refine z_iadd dX12_moves_130 ?_
                  refine e_istore (L' := [_, _, _, _, _, _, _, _]) dX12_moves_131 (Nat.le_of_ble_eq_true rfl) rfl ?_
                  refine z_iinc (L' := [_, _, _, _, _, _, _, _]) dX12_moves_133 rfl rfl ?_
                  refine e_goto 38 dX12_moves_136 rfl ?_
                  exact mEv_wk (by exact ⟨Or.inr rfl, Or.inr rfl, Or.inr rfl, Or.inr rfl, Or.inr rfl, Or.inr rfl, Or.inr rfl, Or.inl rfl, trivial⟩) (ih28 _ (by omega) (s + 0) (t + 1) (d + 1)  rfl  (by omega) (by omega) (by rw [sumZ_s (by omega), tlR_m (by omega) (by omega)]; first | (rw [if_pos (by omega)]; first | (rw [bZ_1 (by omega)]; omega) | (rw [bZ_0 (by omega)]; omega)) | (rw [if_neg (by omega)]; first | (rw [bZ_1 (by omega)]; omega) | (rw [bZ_0 (by omega)]; omega))) (by rw [sumZ_s (by omega), tlR_m (by omega) (by omega)]; first | (rw [if_pos (by omega)]; first | (rw [bZ_1 (by omega)]; omega) | (rw [bZ_0 (by omega)]; omega)) | (rw [if_neg (by omega)]; first | (rw [bZ_1 (by omega)]; omega) | (rw [bZ_0 (by omega)]; omega))))
            · exfalso; omega
          · skip
            refine e_aload_n dX12_moves_56 rfl ?_
            refine e_get (.ref (m + 15)) dX12_moves_57 tf_12_53 (rk_s k21) (congrArg va_rf (rk_r15 k21)) ?_
            refine e_iload dX12_moves_60 rfl ?_
            refine z_ild (dm (sG σ f) d) dX12_moves_62 (rk_a15 k21) (by decide) (by omega) (by omega) (rM_d H24 (by omega) (by omega)) ?_
            have y41 := wM_d (rM_w H24) (show 0 ≤ d by omega) (by omega)
            refine e_goto 68 dX12_moves_63 rfl ?_
            refine e_istore (L' := [_, _, _, _, _, _, _, _]) dX12_moves_68 (Nat.le_of_ble_eq_true rfl) rfl ?_
            refine e_iload dX12_moves_70 rfl ?_
            refine e_iload dX12_moves_72 rfl ?_
            refine z_bipush (6) dX12_moves_74 rfl ?_
            refine z_icmp_ge 95 dX12_moves_76 rfl ⟨by omega, by omega⟩ ⟨by omega, by omega⟩ (fun c42 => ?_) (fun c42 => ?_)
            · skip
              refine z_iconst (0) dX12_moves_95 rfl ?_
              refine z_iadd dX12_moves_96 ?_
              refine e_istore (L' := [_, _, _, _, _, _, _, _]) dX12_moves_97 (Nat.le_of_ble_eq_true rfl) rfl ?_
              refine e_iload dX12_moves_99 rfl ?_
              refine e_aload_n dX12_moves_101 rfl ?_
              refine e_get (.ref (m + 16)) dX12_moves_102 tf_12_56 (rk_s k21) (congrArg va_rf (rk_r16 k21)) ?_
              refine e_iload dX12_moves_105 rfl ?_
              refine z_ild (r d) dX12_moves_107 (rk_a16 k21) (by decide) (by omega) (by omega) (RW.2 d (by omega) (by omega)) ?_
              have y43 := isRw_f RW.1.1 (show 0 ≤ d by omega) (by omega)
              have y44 := RW.1.2 d (by omega) (by omega)
              refine z_bipush (6) dX12_moves_108 rfl ?_
              refine z_icmp_ge 129 dX12_moves_110 rfl ⟨by omega, by omega⟩ ⟨by omega, by omega⟩ (fun c45 => ?_) (fun c45 => ?_)
              · skip
                refine z_iconst (0) dX12_moves_129 rfl ?_
                refine z_iadd dX12_moves_130 ?_
                refine e_istore (L' := [_, _, _, _, _, _, _, _]) dX12_moves_131 (Nat.le_of_ble_eq_true rfl) rfl ?_
                refine z_iinc (L' := [_, _, _, _, _, _, _, _]) dX12_moves_133 rfl rfl ?_
                refine e_goto 38 dX12_moves_136 rfl ?_
                exact mEv_wk (by exact ⟨Or.inr rfl, Or.inr rfl, Or.inr rfl, Or.inr rfl, Or.inr rfl, Or.inr rfl, Or.inr rfl, Or.inl rfl, trivial⟩) (ih28 _ (by omega) (s + 0) (t + 0) (d + 1)  rfl  (by omega) (by omega) (by rw [sumZ_s (by omega), tlR_m (by omega) (by omega)]; first | (rw [if_pos (by omega)]; first | (rw [bZ_1 (by omega)]; omega) | (rw [bZ_0 (by omega)]; omega)) | (rw [if_neg (by omega)]; first | (rw [bZ_1 (by omega)]; omega) | (rw [bZ_0 (by omega)]; omega))) (by rw [sumZ_s (by omega), tlR_m (by omega) (by omega)]; first | (rw [if_pos (by omega)]; first | (rw [bZ_1 (by omega)]; omega) | (rw [bZ_0 (by omega)]; omega)) | (rw [if_neg (by omega)]; first | (rw [bZ_1 (by omega)]; omega) | (rw [bZ_0 (by omega)]; omega))))
              · skip
                refine e_iload dX12_moves_113 rfl ?_
                refine e_aload_n dX12_moves_115 rfl ?_
                refine e_get (.ref (m + 16)) dX12_moves_116 tf_12_56 (rk_s k21) (congrArg va_rf (rk_r16 k21)) ?_
                refine e_iload dX12_moves_119 rfl ?_
                refine z_ild (r d) dX12_moves_121 (rk_a16 k21) (by decide) (by omega) (by omega) (RW.2 d (by omega) (by omega)) ?_
                have y46 := isRw_f RW.1.1 (show 0 ≤ d by omega) (by omega)
                have y47 := RW.1.2 d (by omega) (by omega)
                refine z_icmp_eq 129 dX12_moves_122 rfl ⟨by omega, by omega⟩ ⟨by omega, by omega⟩ (fun c48 => ?_) (fun c48 => ?_)
                · skip
                  refine z_iconst (0) dX12_moves_129 rfl ?_
                  refine z_iadd dX12_moves_130 ?_
                  refine e_istore (L' := [_, _, _, _, _, _, _, _]) dX12_moves_131 (Nat.le_of_ble_eq_true rfl) rfl ?_
                  refine z_iinc (L' := [_, _, _, _, _, _, _, _]) dX12_moves_133 rfl rfl ?_
                  refine e_goto 38 dX12_moves_136 rfl ?_
                  exact mEv_wk (by exact ⟨Or.inr rfl, Or.inr rfl, Or.inr rfl, Or.inr rfl, Or.inr rfl, Or.inr rfl, Or.inr rfl, Or.inl rfl, trivial⟩) (ih28 _ (by omega) (s + 0) (t + 0) (d + 1)  rfl  (by omega) (by omega) (by rw [sumZ_s (by omega), tlR_m (by omega) (by omega)]; first | (rw [if_pos (by omega)]; first | (rw [bZ_1 (by omega)]; omega) | (rw [bZ_0 (by omega)]; omega)) | (rw [if_neg (by omega)]; first | (rw [bZ_1 (by omega)]; omega) | (rw [bZ_0 (by omega)]; omega))) (by rw [sumZ_s (by omega), tlR_m (by omega) (by omega)]; first | (rw [if_pos (by omega)]; first | (rw [bZ_1 (by omega)]; omega) | (rw [bZ_0 (by omega)]; omega)) | (rw [if_neg (by omega)]; first | (rw [bZ_1 (by omega)]; omega) | (rw [bZ_0 (by omega)]; omega))))
                · skip
                  refine z_iconst (1) dX12_moves_125 rfl ?_
                  refine e_goto 130 dX12_moves_126 rfl ?_
                  refine z_iadd dX12_moves_130 ?_
                  refine e_istore (L' := [_, _, _, _, _, _, _, _]) dX12_moves_131 (Nat.le_of_ble_eq_true rfl) rfl ?_
                  refine z_iinc (L' := [_, _, _, _, _, _, _, _]) dX12_moves_133 rfl rfl ?_
                  refine e_goto 38 dX12_moves_136 rfl ?_
                  exact mEv_wk (by exact ⟨Or.inr rfl, Or.inr rfl, Or.inr rfl, Or.inr rfl, Or.inr rfl, Or.inr rfl, Or.inr rfl, Or.inl rfl, trivial⟩) (ih28 _ (by omega) (s + 0) (t + 1) (d + 1)  rfl  (by omega) (by omega) (by rw [sumZ_s (by omega), tlR_m (by omega) (by omega)]; first | (rw [if_pos (by omega)]; first | (rw [bZ_1 (by omega)]; omega) | (rw [bZ_0 (by omega)]; omega)) | (rw [if_neg (by omega)]; first | (rw [bZ_1 (by omega)]; omega) | (rw [bZ_0 (by omega)]; omega))) (by rw [sumZ_s (by omega), tlR_m (by omega) (by omega)]; first | (rw [if_pos (by omega)]; first | (rw [bZ_1 (by omega)]; omega) | (rw [bZ_0 (by omega)]; omega)) | (rw [if_neg (by omega)]; first | (rw [bZ_1 (by omega)]; omega) | (rw [bZ_0 (by omega)]; omega))))
            · skip
              refine e_iload dX12_moves_79 rfl ?_
              refine e_aload_n dX12_moves_81 rfl ?_
              refine e_get (.ref (m + 16)) dX12_moves_82 tf_12_56 (rk_s k21) (congrArg va_rf (rk_r16 k21)) ?_
              refine e_iload dX12_moves_85 rfl ?_
              refine z_ild (r d) dX12_moves_87 (rk_a16 k21) (by decide) (by omega) (by omega) (RW.2 d (by omega) (by omega)) ?_
              have y49 := isRw_f RW.1.1 (show 0 ≤ d by omega) (by omega)
              have y50 := RW.1.2 d (by omega) (by omega)
              refine z_icmp_eq 95 dX12_moves_88 rfl ⟨by omega, by omega⟩ ⟨by omega, by omega⟩ (fun c51 => ?_) (fun c51 => ?_)
              · skip
                refine z_iconst (0) dX12_moves_95 rfl ?_
                refine z_iadd dX12_moves_96 ?_
                refine e_istore (L' := [_, _, _, _, _, _, _, _]) dX12_moves_97 (Nat.le_of_ble_eq_true rfl) rfl ?_
                refine e_iload dX12_moves_99 rfl ?_
                refine e_aload_n dX12_moves_101 rfl ?_
                refine e_get (.ref (m + 16)) dX12_moves_102 tf_12_56 (rk_s k21) (congrArg va_rf (rk_r16 k21)) ?_
                refine e_iload dX12_moves_105 rfl ?_
                refine z_ild (r d) dX12_moves_107 (rk_a16 k21) (by decide) (by omega) (by omega) (RW.2 d (by omega) (by omega)) ?_
                have y52 := isRw_f RW.1.1 (show 0 ≤ d by omega) (by omega)
                have y53 := RW.1.2 d (by omega) (by omega)
                refine z_bipush (6) dX12_moves_108 rfl ?_
                refine z_icmp_ge 129 dX12_moves_110 rfl ⟨by omega, by omega⟩ ⟨by omega, by omega⟩ (fun c54 => ?_) (fun c54 => ?_)
                · skip
                  refine z_iconst (0) dX12_moves_129 rfl ?_
                  refine z_iadd dX12_moves_130 ?_
                  refine e_istore (L' := [_, _, _, _, _, _, _, _]) dX12_moves_131 (Nat.le_of_ble_eq_true rfl) rfl ?_
                  refine z_iinc (L' := [_, _, _, _, _, _, _, _]) dX12_moves_133 rfl rfl ?_
                  refine e_goto 38 dX12_moves_136 rfl ?_
                  exact mEv_wk (by exact ⟨Or.inr rfl, Or.inr rfl, Or.inr rfl, Or.inr rfl, Or.inr rfl, Or.inr rfl, Or.inr rfl, Or.inl rfl, trivial⟩) (ih28 _ (by omega) (s + 0) (t + 0) (d + 1)  rfl  (by omega) (by omega) (by rw [sumZ_s (by omega), tlR_m (by omega) (by omega)]; first | (rw [if_pos (by omega)]; first | (rw [bZ_1 (by omega)]; omega) | (rw [bZ_0 (by omega)]; omega)) | (rw [if_neg (by omega)]; first | (rw [bZ_1 (by omega)]; omega) | (rw [bZ_0 (by omega)]; omega))) (by rw [sumZ_s (by omega), tlR_m (by omega) (by omega)]; first | (rw [if_pos (by omega)]; first | (rw [bZ_1 (by omega)]; omega) | (rw [bZ_0 (by omega)]; omega)) | (rw [if_neg (by omega)]; first | (rw [bZ_1 (by omega)]; omega) | (rw [bZ_0 (by omega)]; omega))))
                · skip
                  refine e_iload dX12_moves_113 rfl ?_
                  refine e_aload_n dX12_moves_115 rfl ?_
                  refine e_get (.ref (m + 16)) dX12_moves_116 tf_12_56 (rk_s k21) (congrArg va_rf (rk_r16 k21)) ?_
                  refine e_iload dX12_moves_119 rfl ?_
                  refine z_ild (r d) dX12_moves_121 (rk_a16 k21) (by decide) (by omega) (by omega) (RW.2 d (by omega) (by omega)) ?_
                  have y55 := isRw_f RW.1.1 (show 0 ≤ d by omega) (by omega)
                  have y56 := RW.1.2 d (by omega) (by omega)
                  refine z_icmp_eq 129 dX12_moves_122 rfl ⟨by omega, by omega⟩ ⟨by omega, by omega⟩ (fun c57 => ?_) (fun c57 => ?_)
                  · skip
                    refine z_iconst (0) dX12_moves_129 rfl ?_
                    refine z_iadd dX12_moves_130 ?_
                    refine e_istore (L' := [_, _, _, _, _, _, _, _]) dX12_moves_131 (Nat.le_of_ble_eq_true rfl) rfl ?_
                    refine z_iinc (L' := [_, _, _, _, _, _, _, _]) dX12_moves_133 rfl rfl ?_
                    refine e_goto 38 dX12_moves_136 rfl ?_
                    exact mEv_wk (by exact ⟨Or.inr rfl, Or.inr rfl, Or.inr rfl, Or.inr rfl, Or.inr rfl, Or.inr rfl, Or.inr rfl, Or.inl rfl, trivial⟩) (ih28 _ (by omega) (s + 0) (t + 0) (d + 1)  rfl  (by omega) (by omega) (by rw [sumZ_s (by omega), tlR_m (by omega) (by omega)]; first | (rw [if_pos (by omega)]; first | (rw [bZ_1 (by omega)]; omega) | (rw [bZ_0 (by omega)]; omega)) | (rw [if_neg (by omega)]; first | (rw [bZ_1 (by omega)]; omega) | (rw [bZ_0 (by omega)]; omega))) (by rw [sumZ_s (by omega), tlR_m (by omega) (by omega)]; first | (rw [if_pos (by omega)]; first | (rw [bZ_1 (by omega)]; omega) | (rw [bZ_0 (by omega)]; omega)) | (rw [if_neg (by omega)]; first | (rw [bZ_1 (by omega)]; omega) | (rw [bZ_0 (by omega)]; omega))))
                  · skip
                    refine z_iconst (1) dX12_moves_125 rfl ?_
                    refine e_goto 130 dX12_moves_126 rfl ?_
                    refine z_iadd dX12_moves_130 ?_
                    refine e_istore (L' := [_, _, _, _, _, _, _, _]) dX12_moves_131 (Nat.le_of_ble_eq_true rfl) rfl ?_
                    refine z_iinc (L' := [_, _, _, _, _, _, _, _]) dX12_moves_133 rfl rfl ?_
                    refine e_goto 38 dX12_moves_136 rfl ?_
                    exact mEv_wk (by exact ⟨Or.inr rfl, Or.inr rfl, Or.inr rfl, Or.inr rfl, Or.inr rfl, Or.inr rfl, Or.inr rfl, Or.inl rfl, trivial⟩) (ih28 _ (by omega) (s + 0) (t + 1) (d + 1)  rfl  (by omega) (by omega) (by rw [sumZ_s (by omega), tlR_m (by omega) (by omega)]; first | (rw [if_pos (by omega)]; first | (rw [bZ_1 (by omega)]; omega) | (rw [bZ_0 (by omega)]; omega)) | (rw [if_neg (by omega)]; first | (rw [bZ_1 (by omega)]; omega) | (rw [bZ_0 (by omega)]; omega))) (by rw [sumZ_s (by omega), tlR_m (by omega) (by omega)]; first | (rw [if_pos (by omega)]; first | (rw [bZ_1 (by omega)]; omega) | (rw [bZ_0 (by omega)]; omega)) | (rw [if_neg (by omega)]; first | (rw [bZ_1 (by omega)]; omega) | (rw [bZ_0 (by omega)]; omega))))
              · skip
                refine z_iconst (1) dX12_moves_91 rfl ?_
                refine e_goto 96 dX12_moves_92 rfl ?_
                refine z_iadd dX12_moves_96 ?_
                refine e_istore (L' := [_, _, _, _, _, _, _, _]) dX12_moves_97 (Nat.le_of_ble_eq_true rfl) rfl ?_
                refine e_iload dX12_moves_99 rfl ?_
                refine e_aload_n dX12_moves_101 rfl ?_
                refine e_get (.ref (m + 16)) dX12_moves_102 tf_12_56 (rk_s k21) (congrArg va_rf (rk_r16 k21)) ?_
                refine e_iload dX12_moves_105 rfl ?_
                refine z_ild (r d) dX12_moves_107 (rk_a16 k21) (by decide) (by omega) (by omega) (RW.2 d (by omega) (by omega)) ?_
                have y58 := isRw_f RW.1.1 (show 0 ≤ d by omega) (by omega)
                have y59 := RW.1.2 d (by omega) (by omega)
                refine z_bipush (6) dX12_moves_108 rfl ?_
                refine z_icmp_ge 129 dX12_moves_110 rfl ⟨by omega, by omega⟩ ⟨by omega, by omega⟩ (fun c60 => ?_) (fun c60 => ?_)
                · skip
                  refine z_iconst (0) dX12_moves_129 rfl ?_
                  refine z_iadd dX12_moves_130 ?_
                  refine e_istore (L' := [_, _, _, _, _, _, _, _]) dX12_moves_131 (Nat.le_of_ble_eq_true rfl) rfl ?_
                  refine z_iinc (L' := [_, _, _, _, _, _, _, _]) dX12_moves_133 rfl rfl ?_
                  refine e_goto 38 dX12_moves_136 rfl ?_
                  exact mEv_wk (by exact ⟨Or.inr rfl, Or.inr rfl, Or.inr rfl, Or.inr rfl, Or.inr rfl, Or.inr rfl, Or.inr rfl, Or.inl rfl, trivial⟩) (ih28 _ (by omega) (s + 1) (t + 0) (d + 1)  rfl  (by omega) (by omega) (by rw [sumZ_s (by omega), tlR_m (by omega) (by omega)]; first | (rw [if_pos (by omega)]; first | (rw [bZ_1 (by omega)]; omega) | (rw [bZ_0 (by omega)]; omega)) | (rw [if_neg (by omega)]; first | (rw [bZ_1 (by omega)]; omega) | (rw [bZ_0 (by omega)]; omega))) (by rw [sumZ_s (by omega), tlR_m (by omega) (by omega)]; first | (rw [if_pos (by omega)]; first | (rw [bZ_1 (by omega)]; omega) | (rw [bZ_0 (by omega)]; omega)) | (rw [if_neg (by omega)]; first | (rw [bZ_1 (by omega)]; omega) | (rw [bZ_0 (by omega)]; omega))))
                · skip
                  refine e_iload dX12_moves_113 rfl ?_
                  refine e_aload_n dX12_moves_115 rfl ?_
                  refine e_get (.ref (m + 16)) dX12_moves_116 tf_12_56 (rk_s k21) (congrArg va_rf (rk_r16 k21)) ?_
                  refine e_iload dX12_moves_119 rfl ?_
                  refine z_ild (r d) dX12_moves_121 (rk_a16 k21) (by decide) (by omega) (by omega) (RW.2 d (by omega) (by omega)) ?_
                  have y61 := isRw_f RW.1.1 (show 0 ≤ d by omega) (by omega)
                  have y62 := RW.1.2 d (by omega) (by omega)
                  refine z_icmp_eq 129 dX12_moves_122 rfl ⟨by omega, by omega⟩ ⟨by omega, by omega⟩ (fun c63 => ?_) (fun c63 => ?_)
                  · skip
                    refine z_iconst (0) dX12_moves_129 rfl ?_
                    refine z_iadd dX12_moves_130 ?_
                    refine e_istore (L' := [_, _, _, _, _, _, _, _]) dX12_moves_131 (Nat.le_of_ble_eq_true rfl) rfl ?_
                    refine z_iinc (L' := [_, _, _, _, _, _, _, _]) dX12_moves_133 rfl rfl ?_
                    refine e_goto 38 dX12_moves_136 rfl ?_
                    exact mEv_wk (by exact ⟨Or.inr rfl, Or.inr rfl, Or.inr rfl, Or.inr rfl, Or.inr rfl, Or.inr rfl, Or.inr rfl, Or.inl rfl, trivial⟩) (ih28 _ (by omega) (s + 1) (t + 0) (d + 1)  rfl  (by omega) (by omega) (by rw [sumZ_s (by omega), tlR_m (by omega) (by omega)]; first | (rw [if_pos (by omega)]; first | (rw [bZ_1 (by omega)]; omega) | (rw [bZ_0 (by omega)]; omega)) | (rw [if_neg (by omega)]; first | (rw [bZ_1 (by omega)]; omega) | (rw [bZ_0 (by omega)]; omega))) (by rw [sumZ_s (by omega), tlR_m (by omega) (by omega)]; first | (rw [if_pos (by omega)]; first | (rw [bZ_1 (by omega)]; omega) | (rw [bZ_0 (by omega)]; omega)) | (rw [if_neg (by omega)]; first | (rw [bZ_1 (by omega)]; omega) | (rw [bZ_0 (by omega)]; omega))))
                  · skip
                    refine z_iconst (1) dX12_moves_125 rfl ?_
                    refine e_goto 130 dX12_moves_126 rfl ?_
                    refine z_iadd dX12_moves_130 ?_
                    refine e_istore (L' := [_, _, _, _, _, _, _, _]) dX12_moves_131 (Nat.le_of_ble_eq_true rfl) rfl ?_
                    refine z_iinc (L' := [_, _, _, _, _, _, _, _]) dX12_moves_133 rfl rfl ?_
                    refine e_goto 38 dX12_moves_136 rfl ?_
                    exact mEv_wk (by exact ⟨Or.inr rfl, Or.inr rfl, Or.inr rfl, Or.inr rfl, Or.inr rfl, Or.inr rfl, Or.inr rfl, Or.inl rfl, trivial⟩) (ih28 _ (by omega) (s + 1) (t + 1) (d + 1)  rfl  (by omega) (by omega) (by rw [sumZ_s (by omega), tlR_m (by omega) (by omega)]; first | (rw [if_pos (by omega)]; first | (rw [bZ_1 (by omega)]; omega) | (rw [bZ_0 (by omega)]; omega)) | (rw [if_neg (by omega)]; first | (rw [bZ_1 (by omega)]; omega) | (rw [bZ_0 (by omega)]; omega))) (by rw [sumZ_s (by omega), tlR_m (by omega) (by omega)]; first | (rw [if_pos (by omega)]; first | (rw [bZ_1 (by omega)]; omega) | (rw [bZ_0 (by omega)]; omega)) | (rw [if_neg (by omega)]; first | (rw [bZ_1 (by omega)]; omega) | (rw [bZ_0 (by omega)]; omega))))
      exact lp28 _ 0 0 0  rfl  (by omega) (by omega) rfl rfl
    · exfalso; omega
set_option maxHeartbeats 1000000 in
theorem zp_X12_leaving_4 {ad : mA} {dd : Nat} {h : mH} {Q : mQ} {m : Nat} {σ : Sg} (hk : rk h m) (HR : refT h m 0 σ)  (f : Int) (f_r : -2147483648 ≤ f ∧ f < 2147483648) (p1 : 0 ≤ f) (p2 : f < cn σ 0) (kq : ∀ v : Int, (∃ r, rwR (sG σ f) 4 r ∧ v = lvN (sG σ f) r) → ∀ h1, frm (fun a i => a = m ∨ (m + 9 ≤ a ∧ a < m + 30)) h h1 → Q (some (.int (zI v))) h1) : mCal TB0 ad (dd + 9) M_X12_leaving [.ref m, .int (zI f), .int (zI 4)] h 0 0 Q := by
  refine ⟨Nat.le_of_ble_eq_true rfl, ?_⟩
  show mEv TB0 ad M_X12_leaving (dd + 9) (0, 0) (mCal TB0 ad (dd + 8)) (fun v h' z => z.1 = 0 ∧ Q v h') 0 [some (.ref m), some (.int (zI f)), some (.int (zI 4))] [] h (0, 0)
  have FR0 : frm (fun a i => a = m ∨ (m + 9 ≤ a ∧ a < m + 30)) h h := frm_0 h
  have w1 := wS_n (refT_w HR)
  have W := (refT_w HR).2.2.1 f p1 p2
  refine e_aload_n dX12_leaving_0 rfl ?_
  refine z_iconst (0) dX12_leaving_1 rfl ?_
  refine z_put dX12_leaving_2 tf_12_103 (rk_s hk) rfl (Or.inl rfl) (fun h1 e2 => ?_)
  have f3 := frm_1 e2
  have k4 := rk_q (frm_s f3) hk
  have H5 := refT_c f3 (fun a k q1 q2 => by omega) HR
  have FR6 := frm_t FR0 (frm_m (S' := (fun a i => a = m ∨ (m + 9 ≤ a ∧ a < m + 30))) f3 (fun a k q => by omega))
  refine e_aload_n dX12_leaving_5 rfl ?_
  refine e_iload_n dX12_leaving_6 rfl ?_
  refine e_callV [.int _] dX12_leaving_7 tm_12_292 rfl (Nat.le_of_ble_eq_true rfl) (rk_s k4) (Nat.le_of_ble_eq_true rfl) (Nat.le_refl _) (Nat.le_refl _) rfl (zp_X12_hand_in k4 H5 f ⟨by omega, by omega⟩ (by omega) (by omega) (fun  h7 f8 p9 p10 p11 p12 => ?_))
  have k13 := rk_q (frm_s f8) k4
  have H14 := refT_c f8 (fun a k q1 q2 => by omega) H5
  have FR15 := frm_t FR6 (frm_m (S' := (fun a i => a = m ∨ (m + 9 ≤ a ∧ a < m + 30))) f8 (fun a k q => by omega))
  have w5 := rB_n p9
  have w6 := rC_n p11
  refine z_ifb_eq 22 dX12_leaving_10 rfl (fun c16 => ?_) (fun c16 => ?_)
  · exact absurd trivial c16
  · skip
    refine e_iload_n dX12_leaving_13 rfl ?_
    refine z_iconst (0) dX12_leaving_14 rfl ?_
    refine z_iconst (5) dX12_leaving_15 rfl ?_
    refine e_callS [.int _, .int _, .int _] dX12_leaving_16 tm_12_115 rfl (Nat.le_of_ble_eq_true rfl) (Nat.le_refl _) (Nat.le_refl _) rfl (zp_X12_in 4 ⟨by omega, by omega⟩ 0 ⟨by omega, by omega⟩ 5 ⟨by omega, by omega⟩ ?_)
    refine z_ifb_ne 24 dX12_leaving_19 rfl (fun c17 => ?_) (fun c17 => ?_)
    · skip
      refine e_aload_n dX12_leaving_24 rfl ?_
      refine e_iload_n dX12_leaving_25 rfl ?_
      refine e_callV [.int _] dX12_leaving_26 tm_12_442 rfl (Nat.le_of_ble_eq_true rfl) (rk_s k13) (Nat.le_of_ble_eq_true rfl) (Nat.le_refl _) (Nat.le_refl _) rfl (zp_X12_layRow_4 k13 p9 p10 W (fun  h18 f19 p20 => ?_))
      have k21 := rk_q (frm_s f19) k13
      have H22 := refT_c f19 (fun a k q1 q2 => by omega) H14
      have H23 := rB_c f19 (fun a k q => by omega) p9
      have H24 := rM_c f19 (fun a k q => by omega) p10
      have H25 := rC_c f19 (fun a k q => by omega) p11
      have H26 := rK_c f19 (fun a k q1 q2 => by omega) p12
      have FR27 := frm_t FR15 (frm_m (S' := (fun a i => a = m ∨ (m + 9 ≤ a ∧ a < m + 30))) f19 (fun a k q => by omega))
      obtain ⟨r, RW, RR⟩ := p20
      refine e_aload_n dX12_leaving_29 rfl ?_
      refine e_callV [] dX12_leaving_30 tm_12_403 rfl (Nat.le_of_ble_eq_true rfl) (rk_s k21) (Nat.le_of_ble_eq_true rfl) (Nat.le_refl _) (Nat.le_refl _) rfl (zp_X12_leavingNow k21 H23 RW (fun  h28 f29 p30 => ?_))
      have k31 := rk_q (frm_s f29) k21
      have H32 := refT_c f29 (fun a k q1 q2 => by omega) H22
      have H33 := rB_c f29 (fun a k q => by omega) H23
      have H34 := rM_c f29 (fun a k q => by omega) H24
      have H35 := rC_c f29 (fun a k q => by omega) H25
      have H36 := rK_c f29 (fun a k q1 q2 => by omega) H26
      have H37 := rRw_c f29 (fun a k q => by omega) RW
      have FR38 := frm_t FR27 (frm_m (S' := (fun a i => a = m ∨ (m + 9 ≤ a ∧ a < m + 30))) f29 (fun a k q => by omega))
      have y39 := lvN_b (show (0 ≤ nd (sG σ f) ∧ nd (sG σ f) ≤ 6) ∧ (0 ≤ nu (sG σ f) ∧ nu (sG σ f) ≤ 6) by omega) r
      refine z_iret dX12_leaving_33 rfl ⟨rfl, ?_⟩
      refine kq _ ?_ _ FR38
      exact ⟨r, RR, rfl⟩
    · exfalso; omega
set_option maxHeartbeats 1000000 in
theorem zp_X12_row_4 {ad : mA} {dd : Nat} {h : mH} {Q : mQ} {m : Nat} {σ : Sg} (hk : rk h m) (HR : refT h m 0 σ)  (f : Int) (f_r : -2147483648 ≤ f ∧ f < 2147483648) (k : Int) (k_r : -2147483648 ≤ k ∧ k < 2147483648) (p1 : 0 ≤ f) (p2 : f < cn σ 0) (kq : ∀ v : Int, (((-1 ≤ k ∧ k < nd (sG σ f)) ∧ ∃ r, rwR (sG σ f) 4 r ∧ v = if k = -1 then inR r else r k) ∨ (¬ (-1 ≤ k ∧ k < nd (sG σ f)) ∧ v = -1)) → ∀ h1, frm (fun a i => a = m ∨ (m + 9 ≤ a ∧ a < m + 30)) h h1 → Q (some (.int (zI v))) h1) : mCal TB0 ad (dd + 9) M_X12_row [.ref m, .int (zI f), .int (zI 4), .int (zI k)] h 0 0 Q := by
  refine ⟨Nat.le_of_ble_eq_true rfl, ?_⟩
  show mEv TB0 ad M_X12_row (dd + 9) (0, 0) (mCal TB0 ad (dd + 8)) (fun v h' z => z.1 = 0 ∧ Q v h') 0 [some (.ref m), some (.int (zI f)), some (.int (zI 4)), some (.int (zI k))] [] h (0, 0)
  have FR0 : frm (fun a i => a = m ∨ (m + 9 ≤ a ∧ a < m + 30)) h h := frm_0 h
  have w1 := wS_n (refT_w HR)
  have W := (refT_w HR).2.2.1 f p1 p2
  refine e_aload_n dX12_row_0 rfl ?_
  refine z_iconst (0) dX12_row_1 rfl ?_
  refine z_put dX12_row_2 tf_12_103 (rk_s hk) rfl (Or.inl rfl) (fun h1 e2 => ?_)
  have f3 := frm_1 e2
  have k4 := rk_q (frm_s f3) hk
  have H5 := refT_c f3 (fun a k q1 q2 => by omega) HR
  have FR6 := frm_t FR0 (frm_m (S' := (fun a i => a = m ∨ (m + 9 ≤ a ∧ a < m + 30))) f3 (fun a k q => by omega))
  refine e_aload_n dX12_row_5 rfl ?_
  refine e_iload_n dX12_row_6 rfl ?_
  refine e_callV [.int _] dX12_row_7 tm_12_292 rfl (Nat.le_of_ble_eq_true rfl) (rk_s k4) (Nat.le_of_ble_eq_true rfl) (Nat.le_refl _) (Nat.le_refl _) rfl (zp_X12_hand_in k4 H5 f ⟨by omega, by omega⟩ (by omega) (by omega) (fun  h7 f8 p9 p10 p11 p12 => ?_))
  have k13 := rk_q (frm_s f8) k4
  have H14 := refT_c f8 (fun a k q1 q2 => by omega) H5
  have FR15 := frm_t FR6 (frm_m (S' := (fun a i => a = m ∨ (m + 9 ≤ a ∧ a < m + 30))) f8 (fun a k q => by omega))
  have w5 := rB_n p9
  have w6 := rC_n p11
  refine z_ifb_eq 36 dX12_row_10 rfl (fun c16 => ?_) (fun c16 => ?_)
  · exact absurd trivial c16
  · skip
    refine e_iload_n dX12_row_13 rfl ?_
    refine z_iconst (1) dX12_row_14 rfl ?_
    refine z_iconst (5) dX12_row_15 rfl ?_
    refine e_callS [.int _, .int _, .int _] dX12_row_16 tm_12_115 rfl (Nat.le_of_ble_eq_true rfl) (Nat.le_refl _) (Nat.le_refl _) rfl (zp_X12_in 4 ⟨by omega, by omega⟩ 1 ⟨by omega, by omega⟩ 5 ⟨by omega, by omega⟩ ?_)
    refine z_ifb_eq 36 dX12_row_19 rfl (fun c17 => ?_) (fun c17 => ?_)
    · exfalso; omega
    · skip
      refine e_iload_n dX12_row_22 rfl ?_
      refine z_iconst (-1) dX12_row_23 rfl ?_
      refine e_aload_n dX12_row_24 rfl ?_
      refine z_get (nd (sG σ f)) dX12_row_25 tf_12_271 (rk_s k13) (Or.inl rfl) (rB_nd p9) ?_
      have y18 := rB_n p9
      refine z_iconst (1) dX12_row_28 rfl ?_
      refine z_isub dX12_row_29 ?_
      refine e_callS [.int _, .int _, .int _] dX12_row_30 tm_12_115 rfl (Nat.le_of_ble_eq_true rfl) (Nat.le_refl _) (Nat.le_refl _) rfl (zp_X12_in k ⟨by omega, by omega⟩ (-1) ⟨by omega, by omega⟩ ((nd (sG σ f)) - 1) ⟨by omega, by omega⟩ ?_)
      refine z_ifb_ne 38 dX12_row_33 rfl (fun c19 => ?_) (fun c19 => ?_)
      · skip
        refine e_aload_n dX12_row_38 rfl ?_
        refine e_iload_n dX12_row_39 rfl ?_
        refine e_callV [.int _] dX12_row_40 tm_12_442 rfl (Nat.le_of_ble_eq_true rfl) (rk_s k13) (Nat.le_of_ble_eq_true rfl) (Nat.le_refl _) (Nat.le_refl _) rfl (zp_X12_layRow_4 k13 p9 p10 W (fun  h20 f21 p22 => ?_))
        have k23 := rk_q (frm_s f21) k13
        have H24 := refT_c f21 (fun a k q1 q2 => by omega) H14
        have H25 := rB_c f21 (fun a k q => by omega) p9
        have H26 := rM_c f21 (fun a k q => by omega) p10
        have H27 := rC_c f21 (fun a k q => by omega) p11
        have H28 := rK_c f21 (fun a k q1 q2 => by omega) p12
        have FR29 := frm_t FR15 (frm_m (S' := (fun a i => a = m ∨ (m + 9 ≤ a ∧ a < m + 30))) f21 (fun a k q => by omega))
        obtain ⟨r, RW, RR⟩ := p22
        refine e_iload_n dX12_row_43 rfl ?_
        refine z_iconst (-1) dX12_row_44 rfl ?_
        refine z_icmp_ne 55 dX12_row_45 rfl ⟨by omega, by omega⟩ ⟨by omega, by omega⟩ (fun c30 => ?_) (fun c30 => ?_)
        · skip
          refine e_aload_n dX12_row_55 rfl ?_
          refine e_get (.ref (m + 16)) dX12_row_56 tf_12_56 (rk_s k23) (congrArg va_rf (rk_r16 k23)) ?_
          refine e_iload_n dX12_row_59 rfl ?_
          refine z_ild (r k) dX12_row_60 (rk_a16 k23) (by decide) (by omega) (by omega) (RW.2 k (by omega) (by omega)) ?_
          have y31 := isRw_f RW.1.1 (show 0 ≤ k by omega) (by omega)
          have y32 := RW.1.2 k (by omega) (by omega)
          refine z_iret dX12_row_61 rfl ⟨rfl, ?_⟩
          refine kq _ ?_ _ FR29
          first | exact Or.inr ⟨by omega, rfl⟩ | exact Or.inl ⟨by omega, r, RR, by rw [if_pos (by omega)]⟩ | exact Or.inl ⟨by omega, r, RR, by rw [if_neg (by omega)]⟩
        · skip
          refine e_aload_n dX12_row_48 rfl ?_
          refine e_callV [] dX12_row_49 tm_12_413 rfl (Nat.le_of_ble_eq_true rfl) (rk_s k23) (Nat.le_of_ble_eq_true rfl) (Nat.le_refl _) (Nat.le_refl _) rfl (zp_X12_inRow k23 RW ?_)
          have y33 := inR_b r
          refine e_goto 61 dX12_row_52 rfl ?_
          refine z_iret dX12_row_61 rfl ⟨rfl, ?_⟩
          refine kq _ ?_ _ FR29
          first | exact Or.inr ⟨by omega, rfl⟩ | exact Or.inl ⟨by omega, r, RR, by rw [if_pos (by omega)]⟩ | exact Or.inl ⟨by omega, r, RR, by rw [if_neg (by omega)]⟩
      · skip
        refine z_iconst (-1) dX12_row_36 rfl ?_
        refine z_iret dX12_row_37 rfl ⟨rfl, ?_⟩
        refine kq _ ?_ _ FR15
        first | exact Or.inr ⟨by omega, rfl⟩ | exact Or.inl ⟨by omega, r, RR, by rw [if_pos (by omega)]⟩ | exact Or.inl ⟨by omega, r, RR, by rw [if_neg (by omega)]⟩
set_option maxHeartbeats 1000000 in
theorem zp_X12_moves_4 {ad : mA} {dd : Nat} {h : mH} {Q : mQ} {m : Nat} {σ : Sg} (hk : rk h m) (HR : refT h m 0 σ)  (f : Int) (f_r : -2147483648 ≤ f ∧ f < 2147483648) (p : Prop) [Decidable p] (p1 : 0 ≤ f) (p2 : f < cn σ 0) (kq : ∀ v : Int, (∃ r, rwR (sG σ f) 4 r ∧ v = if p then mvR (sG σ f) r else mvP (sG σ f) r) → ∀ h1, frm (fun a i => a = m ∨ (m + 9 ≤ a ∧ a < m + 30)) h h1 → Q (some (.int (zI v))) h1) : mCal TB0 ad (dd + 9) M_X12_moves [.ref m, .int (zI f), .int (zI 4), .int (zI (bZ p))] h 0 0 Q := by
  refine ⟨Nat.le_of_ble_eq_true rfl, ?_⟩
  show mEv TB0 ad M_X12_moves (dd + 9) (0, 0) (mCal TB0 ad (dd + 8)) (fun v h' z => z.1 = 0 ∧ Q v h') 0 [some (.ref m), some (.int (zI f)), some (.int (zI 4)), some (.int (zI (bZ p))), none, none, none, none] [] h (0, 0)
  have FR0 : frm (fun a i => a = m ∨ (m + 9 ≤ a ∧ a < m + 30)) h h := frm_0 h
  have w1 := wS_n (refT_w HR)
  have W := (refT_w HR).2.2.1 f p1 p2
  refine e_aload_n dX12_moves_0 rfl ?_
  refine z_iconst (0) dX12_moves_1 rfl ?_
  refine z_put dX12_moves_2 tf_12_103 (rk_s hk) rfl (Or.inl rfl) (fun h1 e2 => ?_)
  have f3 := frm_1 e2
  have k4 := rk_q (frm_s f3) hk
  have H5 := refT_c f3 (fun a k q1 q2 => by omega) HR
  have FR6 := frm_t FR0 (frm_m (S' := (fun a i => a = m ∨ (m + 9 ≤ a ∧ a < m + 30))) f3 (fun a k q => by omega))
  refine e_aload_n dX12_moves_5 rfl ?_
  refine e_iload_n dX12_moves_6 rfl ?_
  refine e_callV [.int _] dX12_moves_7 tm_12_292 rfl (Nat.le_of_ble_eq_true rfl) (rk_s k4) (Nat.le_of_ble_eq_true rfl) (Nat.le_refl _) (Nat.le_refl _) rfl (zp_X12_hand_in k4 H5 f ⟨by omega, by omega⟩ (by omega) (by omega) (fun  h7 f8 p9 p10 p11 p12 => ?_))
  have k13 := rk_q (frm_s f8) k4
  have H14 := refT_c f8 (fun a k q1 q2 => by omega) H5
  have FR15 := frm_t FR6 (frm_m (S' := (fun a i => a = m ∨ (m + 9 ≤ a ∧ a < m + 30))) f8 (fun a k q => by omega))
  have w5 := rB_n p9
  have w6 := rC_n p11
  refine z_ifb_eq 22 dX12_moves_10 rfl (fun c16 => ?_) (fun c16 => ?_)
  · exact absurd trivial c16
  · skip
    refine e_iload_n dX12_moves_13 rfl ?_
    refine z_iconst (1) dX12_moves_14 rfl ?_
    refine z_iconst (5) dX12_moves_15 rfl ?_
    refine e_callS [.int _, .int _, .int _] dX12_moves_16 tm_12_115 rfl (Nat.le_of_ble_eq_true rfl) (Nat.le_refl _) (Nat.le_refl _) rfl (zp_X12_in 4 ⟨by omega, by omega⟩ 1 ⟨by omega, by omega⟩ 5 ⟨by omega, by omega⟩ ?_)
    refine z_ifb_ne 24 dX12_moves_19 rfl (fun c17 => ?_) (fun c17 => ?_)
    · skip
      refine e_aload_n dX12_moves_24 rfl ?_
      refine e_iload_n dX12_moves_25 rfl ?_
      refine e_callV [.int _] dX12_moves_26 tm_12_442 rfl (Nat.le_of_ble_eq_true rfl) (rk_s k13) (Nat.le_of_ble_eq_true rfl) (Nat.le_refl _) (Nat.le_refl _) rfl (zp_X12_layRow_4 k13 p9 p10 W (fun  h18 f19 p20 => ?_))
      have k21 := rk_q (frm_s f19) k13
      have H22 := refT_c f19 (fun a k q1 q2 => by omega) H14
      have H23 := rB_c f19 (fun a k q => by omega) p9
      have H24 := rM_c f19 (fun a k q => by omega) p10
      have H25 := rC_c f19 (fun a k q => by omega) p11
      have H26 := rK_c f19 (fun a k q1 q2 => by omega) p12
      have FR27 := frm_t FR15 (frm_m (S' := (fun a i => a = m ∨ (m + 9 ≤ a ∧ a < m + 30))) f19 (fun a k q => by omega))
      obtain ⟨r, RW, RR⟩ := p20
      refine z_iconst (0) dX12_moves_29 rfl ?_
      refine e_istore (L' := [_, _, _, _, _, _, _, _]) dX12_moves_30 (Nat.le_of_ble_eq_true rfl) rfl ?_
      refine z_iconst (0) dX12_moves_32 rfl ?_
      refine e_istore (L' := [_, _, _, _, _, _, _, _]) dX12_moves_33 (Nat.le_of_ble_eq_true rfl) rfl ?_
      refine z_iconst (0) dX12_moves_35 rfl ?_
      refine e_istore (L' := [_, _, _, _, _, _, _, _]) dX12_moves_36 (Nat.le_of_ble_eq_true rfl) rfl ?_
      have lp28 : ∀ (n28 : Nat) (s t d : Int), (nd (sG σ f) - d).toNat = n28 → (0 ≤ d ∧ d ≤ nd (sG σ f)) → ((0 ≤ s ∧ s ≤ d) ∧ (0 ≤ t ∧ t ≤ d)) → (s = sumZ (fun d => bZ (tlR (sG σ f) d < 6 ∧ tlR (sG σ f) d ≠ r d)) d.toNat) → (t = sumZ (fun d => bZ (r d < 6 ∧ tlR (sG σ f) d ≠ r d)) d.toNat) → mEv TB0 ad M_X12_moves (dd + 9) (0, 0) (mCal TB0 ad (dd + 8)) (fun v h' z => z.1 = 0 ∧ Q v h') 38 [some (.ref m), some (.int (zI f)), some (.int (zI 4)), some (.int (zI (bZ p))), some (.int (zI s)), some (.int (zI t)), some (.int (zI d)), none] [] h18 (0, 0) := by
        intro n28
        induction n28 using Nat.strongRecOn with
        | ind n28 ih28 =>
        intro s t d  hn28  I1 I2 I3 I4
        refine e_iload dX12_moves_38 rfl ?_
        refine e_aload_n dX12_moves_40 rfl ?_
        refine z_get (nd (sG σ f)) dX12_moves_41 tf_12_271 (rk_s k21) (Or.inl rfl) (rB_nd H23) ?_
        have y29 := rB_n H23
        refine z_icmp_ge 139 dX12_moves_44 rfl ⟨by omega, by omega⟩ ⟨by omega, by omega⟩ (fun c30 => ?_) (fun c30 => ?_)
        · skip
          refine e_iload_n dX12_moves_139 rfl ?_
          refine z_ifb_eq 148 dX12_moves_140 rfl (fun c31 => ?_) (fun c31 => ?_)
          · skip
            refine e_iload dX12_moves_148 rfl ?_
            refine z_iret dX12_moves_150 rfl ⟨rfl, ?_⟩
            refine kq _ ?_ _ FR27
            first | exact ⟨r, RR, by rw [if_pos (by assumption), I4, show d = nd (sG σ f) by omega]; rfl⟩ | exact ⟨r, RR, by rw [if_neg (by assumption), I3, show d = nd (sG σ f) by omega]; rfl⟩
          · skip
            refine e_iload dX12_moves_143 rfl ?_
            refine e_goto 150 dX12_moves_145 rfl ?_
            refine z_iret dX12_moves_150 rfl ⟨rfl, ?_⟩
            refine kq _ ?_ _ FR27
            first | exact ⟨r, RR, by rw [if_pos (by assumption), I4, show d = nd (sG σ f) by omega]; rfl⟩ | exact ⟨r, RR, by rw [if_neg (by assumption), I3, show d = nd (sG σ f) by omega]; rfl⟩
        · skip
          refine e_aload_n dX12_moves_47 rfl ?_
          refine e_iload dX12_moves_48 rfl ?_
          refine e_callV [.int _] dX12_moves_50 tm_12_286 rfl (Nat.le_of_ble_eq_true rfl) (rk_s k21) (Nat.le_of_ble_eq_true rfl) (Nat.le_refl _) (Nat.le_refl _) rfl (zp_X12_isPaired k21 H24 d ⟨by omega, by omega⟩ (by omega) (by omega) ?_)
          have y32 := wM_d (rM_w H24) (show 0 ≤ d by omega) (by omega)
          refine z_ifb_eq 66 dX12_moves_53 rfl (fun c33 => ?_) (fun c33 => ?_)
          · skip
            refine z_bipush (6) dX12_moves_66 rfl ?_
            refine e_istore (L' := [_, _, _, _, _, _, _, _]) dX12_moves_68 (Nat.le_of_ble_eq_true rfl) rfl ?_
            refine e_iload dX12_moves_70 rfl ?_
            refine e_iload dX12_moves_72 rfl ?_
            refine z_bipush (6) dX12_moves_74 rfl ?_
            refine z_icmp_ge 95 dX12_moves_76 rfl ⟨by omega, by omega⟩ ⟨by omega, by omega⟩ (fun c34 => ?_) (fun c34 => ?_)
            · skip
              refine z_iconst (0) dX12_moves_95 rfl ?_
              refine z_iadd dX12_moves_96 ?_
              refine e_istore (L' := [_, _, _, _, _, _, _, _]) dX12_moves_97 (Nat.le_of_ble_eq_true rfl) rfl ?_
              refine e_iload dX12_moves_99 rfl ?_
              refine e_aload_n dX12_moves_101 rfl ?_
              refine e_get (.ref (m + 16)) dX12_moves_102 tf_12_56 (rk_s k21) (congrArg va_rf (rk_r16 k21)) ?_
              refine e_iload dX12_moves_105 rfl ?_
              refine z_ild (r d) dX12_moves_107 (rk_a16 k21) (by decide) (by omega) (by omega) (RW.2 d (by omega) (by omega)) ?_
              have y35 := isRw_f RW.1.1 (show 0 ≤ d by omega) (by omega)
              have y36 := RW.1.2 d (by omega) (by omega)
              refine z_bipush (6) dX12_moves_108 rfl ?_
              refine z_icmp_ge 129 dX12_moves_110 rfl ⟨by omega, by omega⟩ ⟨by omega, by omega⟩ (fun c37 => ?_) (fun c37 => ?_)
              · skip
                refine z_iconst (0) dX12_moves_129 rfl ?_
                refine z_iadd dX12_moves_130 ?_
                refine e_istore (L' := [_, _, _, _, _, _, _, _]) dX12_moves_131 (Nat.le_of_ble_eq_true rfl) rfl ?_
                refine z_iinc (L' := [_, _, _, _, _, _, _, _]) dX12_moves_133 rfl rfl ?_
                refine e_goto 38 dX12_moves_136 rfl ?_
                exact mEv_wk (by exact ⟨Or.inr rfl, Or.inr rfl, Or.inr rfl, Or.inr rfl, Or.inr rfl, Or.inr rfl, Or.inr rfl, Or.inl rfl, trivial⟩) (ih28 _ (by omega) (s + 0) (t + 0) (d + 1)  rfl  (by omega) (by omega) (by rw [sumZ_s (by omega), tlR_m (by omega) (by omega)]; first | (rw [if_pos (by omega)]; first | (rw [bZ_1 (by omega)]; omega) | (rw [bZ_0 (by omega)]; omega)) | (rw [if_neg (by omega)]; first | (rw [bZ_1 (by omega)]; omega) | (rw [bZ_0 (by omega)]; omega))) (by rw [sumZ_s (by omega), tlR_m (by omega) (by omega)]; first | (rw [if_pos (by omega)]; first | (rw [bZ_1 (by omega)]; omega) | (rw [bZ_0 (by omega)]; omega)) | (rw [if_neg (by omega)]; first | (rw [bZ_1 (by omega)]; omega) | (rw [bZ_0 (by omega)]; omega))))
              · skip
                refine e_iload dX12_moves_113 rfl ?_
                refine e_aload_n dX12_moves_115 rfl ?_
                refine e_get (.ref (m + 16)) dX12_moves_116 tf_12_56 (rk_s k21) (congrArg va_rf (rk_r16 k21)) ?_
                refine e_iload dX12_moves_119 rfl ?_
                refine z_ild (r d) dX12_moves_121 (rk_a16 k21) (by decide) (by omega) (by omega) (RW.2 d (by omega) (by omega)) ?_
                have y38 := isRw_f RW.1.1 (show 0 ≤ d by omega) (by omega)
                have y39 := RW.1.2 d (by omega) (by omega)
                refine z_icmp_eq 129 dX12_moves_122 rfl ⟨by omega, by omega⟩ ⟨by omega, by omega⟩ (fun c40 => ?_) (fun c40 => ?_)
                · skip
                  refine z_iconst (0) dX12_moves_129 rfl ?_
                  refine z_iadd dX12_moves_130 ?_
                  refine e_istore (L' := [_, _, _, _, _, _, _, _]) dX12_moves_131 (Nat.le_of_ble_eq_true rfl) rfl ?_
                  refine z_iinc (L' := [_, _, _, _, _, _, _, _]) dX12_moves_133 rfl rfl ?_
                  refine e_goto 38 dX12_moves_136 rfl ?_
                  exact mEv_wk (by exact ⟨Or.inr rfl, Or.inr rfl, Or.inr rfl, Or.inr rfl, Or.inr rfl, Or.inr rfl, Or.inr rfl, Or.inl rfl, trivial⟩) (ih28 _ (by omega) (s + 0) (t + 0) (d + 1)  rfl  (by omega) (by omega) (by rw [sumZ_s (by omega), tlR_m (by omega) (by omega)]; first | (rw [if_pos (by omega)]; first | (rw [bZ_1 (by omega)]; omega) | (rw [bZ_0 (by omega)]; omega)) | (rw [if_neg (by omega)]; first | (rw [bZ_1 (by omega)]; omega) | (rw [bZ_0 (by omega)]; omega))) (by rw [sumZ_s (by omega), tlR_m (by omega) (by omega)]; first | (rw [if_pos (by omega)]; first | (rw [bZ_1 (by omega)]; omega) | (rw [bZ_0 (by omega)]; omega)) | (rw [if_neg (by omega)]; first | (rw [bZ_1 (by omega)]; omega) | (rw [bZ_0 (by omega)]; omega))))
                · skip
                  refine z_iconst (1) dX12_moves_125 rfl ?_
                  refine e_goto 130 dX12_moves_126 rfl ?_
                  refine z_iadd dX12_moves_130 ?_
                  refine e_istore (L' := [_, _, _, _, _, _, _, _]) dX12_moves_131 (Nat.le_of_ble_eq_true rfl) rfl ?_
                  refine z_iinc (L' := [_, _, _, _, _, _, _, _]) dX12_moves_133 rfl rfl ?_
                  refine e_goto 38 dX12_moves_136 rfl ?_
                  exact mEv_wk (by exact ⟨Or.inr rfl, Or.inr rfl, Or.inr rfl, Or.inr rfl, Or.inr rfl, Or.inr rfl, Or.inr rfl, Or.inl rfl, trivial⟩) (ih28 _ (by omega) (s + 0) (t + 1) (d + 1)  rfl  (by omega) (by omega) (by rw [sumZ_s (by omega), tlR_m (by omega) (by omega)]; first | (rw [if_pos (by omega)]; first | (rw [bZ_1 (by omega)]; omega) | (rw [bZ_0 (by omega)]; omega)) | (rw [if_neg (by omega)]; first | (rw [bZ_1 (by omega)]; omega) | (rw [bZ_0 (by omega)]; omega))) (by rw [sumZ_s (by omega), tlR_m (by omega) (by omega)]; first | (rw [if_pos (by omega)]; first | (rw [bZ_1 (by omega)]; omega) | (rw [bZ_0 (by omega)]; omega)) | (rw [if_neg (by omega)]; first | (rw [bZ_1 (by omega)]; omega) | (rw [bZ_0 (by omega)]; omega))))
            · exfalso; omega
          · skip
            refine e_aload_n dX12_moves_56 rfl ?_
            refine e_get (.ref (m + 15)) dX12_moves_57 tf_12_53 (rk_s k21) (congrArg va_rf (rk_r15 k21)) ?_
            refine e_iload dX12_moves_60 rfl ?_
            refine z_ild (dm (sG σ f) d) dX12_moves_62 (rk_a15 k21) (by decide) (by omega) (by omega) (rM_d H24 (by omega) (by omega)) ?_
            have y41 := wM_d (rM_w H24) (show 0 ≤ d by omega) (by omega)
            refine e_goto 68 dX12_moves_63 rfl ?_
            refine e_istore (L' := [_, _, _, _, _, _, _, _]) dX12_moves_68 (Nat.le_of_ble_eq_true rfl) rfl ?_
            refine e_iload dX12_moves_70 rfl ?_
            refine e_iload dX12_moves_72 rfl ?_
            refine z_bipush (6) dX12_moves_74 rfl ?_
            refine z_icmp_ge 95 dX12_moves_76 rfl ⟨by omega, by omega⟩ ⟨by omega, by omega⟩ (fun c42 => ?_) (fun c42 => ?_)
            · skip
              refine z_iconst (0) dX12_moves_95 rfl ?_
              refine z_iadd dX12_moves_96 ?_
              refine e_istore (L' := [_, _, _, _, _, _, _, _]) dX12_moves_97 (Nat.le_of_ble_eq_true rfl) rfl ?_
              refine e_iload dX12_moves_99 rfl ?_
              refine e_aload_n dX12_moves_101 rfl ?_
              refine e_get (.ref (m + 16)) dX12_moves_102 tf_12_56 (rk_s k21) (congrArg va_rf (rk_r16 k21)) ?_
              refine e_iload dX12_moves_105 rfl ?_
              refine z_ild (r d) dX12_moves_107 (rk_a16 k21) (by decide) (by omega) (by omega) (RW.2 d (by omega) (by omega)) ?_
              have y43 := isRw_f RW.1.1 (show 0 ≤ d by omega) (by omega)
              have y44 := RW.1.2 d (by omega) (by omega)
              refine z_bipush (6) dX12_moves_108 rfl ?_
              refine z_icmp_ge 129 dX12_moves_110 rfl ⟨by omega, by omega⟩ ⟨by omega, by omega⟩ (fun c45 => ?_) (fun c45 => ?_)
              · skip
                refine z_iconst (0) dX12_moves_129 rfl ?_
                refine z_iadd dX12_moves_130 ?_
                refine e_istore (L' := [_, _, _, _, _, _, _, _]) dX12_moves_131 (Nat.le_of_ble_eq_true rfl) rfl ?_
                refine z_iinc (L' := [_, _, _, _, _, _, _, _]) dX12_moves_133 rfl rfl ?_
                refine e_goto 38 dX12_moves_136 rfl ?_
                exact mEv_wk (by exact ⟨Or.inr rfl, Or.inr rfl, Or.inr rfl, Or.inr rfl, Or.inr rfl, Or.inr rfl, Or.inr rfl, Or.inl rfl, trivial⟩) (ih28 _ (by omega) (s + 0) (t + 0) (d + 1)  rfl  (by omega) (by omega) (by rw [sumZ_s (by omega), tlR_m (by omega) (by omega)]; first | (rw [if_pos (by omega)]; first | (rw [bZ_1 (by omega)]; omega) | (rw [bZ_0 (by omega)]; omega)) | (rw [if_neg (by omega)]; first | (rw [bZ_1 (by omega)]; omega) | (rw [bZ_0 (by omega)]; omega))) (by rw [sumZ_s (by omega), tlR_m (by omega) (by omega)]; first | (rw [if_pos (by omega)]; first | (rw [bZ_1 (by omega)]; omega) | (rw [bZ_0 (by omega)]; omega)) | (rw [if_neg (by omega)]; first | (rw [bZ_1 (by omega)]; omega) | (rw [bZ_0 (by omega)]; omega))))
              · skip
                refine e_iload dX12_moves_113 rfl ?_
                refine e_aload_n dX12_moves_115 rfl ?_
                refine e_get (.ref (m + 16)) dX12_moves_116 tf_12_56 (rk_s k21) (congrArg va_rf (rk_r16 k21)) ?_
                refine e_iload dX12_moves_119 rfl ?_
                refine z_ild (r d) dX12_moves_121 (rk_a16 k21) (by decide) (by omega) (by omega) (RW.2 d (by omega) (by omega)) ?_
                have y46 := isRw_f RW.1.1 (show 0 ≤ d by omega) (by omega)
                have y47 := RW.1.2 d (by omega) (by omega)
                refine z_icmp_eq 129 dX12_moves_122 rfl ⟨by omega, by omega⟩ ⟨by omega, by omega⟩ (fun c48 => ?_) (fun c48 => ?_)
                · skip
                  refine z_iconst (0) dX12_moves_129 rfl ?_
                  refine z_iadd dX12_moves_130 ?_
                  refine e_istore (L' := [_, _, _, _, _, _, _, _]) dX12_moves_131 (Nat.le_of_ble_eq_true rfl) rfl ?_
                  refine z_iinc (L' := [_, _, _, _, _, _, _, _]) dX12_moves_133 rfl rfl ?_
                  refine e_goto 38 dX12_moves_136 rfl ?_
                  exact mEv_wk (by exact ⟨Or.inr rfl, Or.inr rfl, Or.inr rfl, Or.inr rfl, Or.inr rfl, Or.inr rfl, Or.inr rfl, Or.inl rfl, trivial⟩) (ih28 _ (by omega) (s + 0) (t + 0) (d + 1)  rfl  (by omega) (by omega) (by rw [sumZ_s (by omega), tlR_m (by omega) (by omega)]; first | (rw [if_pos (by omega)]; first | (rw [bZ_1 (by omega)]; omega) | (rw [bZ_0 (by omega)]; omega)) | (rw [if_neg (by omega)]; first | (rw [bZ_1 (by omega)]; omega) | (rw [bZ_0 (by omega)]; omega))) (by rw [sumZ_s (by omega), tlR_m (by omega) (by omega)]; first | (rw [if_pos (by omega)]; first | (rw [bZ_1 (by omega)]; omega) | (rw [bZ_0 (by omega)]; omega)) | (rw [if_neg (by omega)]; first | (rw [bZ_1 (by omega)]; omega) | (rw [bZ_0 (by omega)]; omega))))
                · skip
                  refine z_iconst (1) dX12_moves_125 rfl ?_
                  refine e_goto 130 dX12_moves_126 rfl ?_
                  refine z_iadd dX12_moves_130 ?_
                  refine e_istore (L' := [_, _, _, _, _, _, _, _]) dX12_moves_131 (Nat.le_of_ble_eq_true rfl) rfl ?_
                  refine z_iinc (L' := [_, _, _, _, _, _, _, _]) dX12_moves_133 rfl rfl ?_
                  refine e_goto 38 dX12_moves_136 rfl ?_
                  exact mEv_wk (by exact ⟨Or.inr rfl, Or.inr rfl, Or.inr rfl, Or.inr rfl, Or.inr rfl, Or.inr rfl, Or.inr rfl, Or.inl rfl, trivial⟩) (ih28 _ (by omega) (s + 0) (t + 1) (d + 1)  rfl  (by omega) (by omega) (by rw [sumZ_s (by omega), tlR_m (by omega) (by omega)]; first | (rw [if_pos (by omega)]; first | (rw [bZ_1 (by omega)]; omega) | (rw [bZ_0 (by omega)]; omega)) | (rw [if_neg (by omega)]; first | (rw [bZ_1 (by omega)]; omega) | (rw [bZ_0 (by omega)]; omega))) (by rw [sumZ_s (by omega), tlR_m (by omega) (by omega)]; first | (rw [if_pos (by omega)]; first | (rw [bZ_1 (by omega)]; omega) | (rw [bZ_0 (by omega)]; omega)) | (rw [if_neg (by omega)]; first | (rw [bZ_1 (by omega)]; omega) | (rw [bZ_0 (by omega)]; omega))))
            · skip
              refine e_iload dX12_moves_79 rfl ?_
              refine e_aload_n dX12_moves_81 rfl ?_
              refine e_get (.ref (m + 16)) dX12_moves_82 tf_12_56 (rk_s k21) (congrArg va_rf (rk_r16 k21)) ?_
              refine e_iload dX12_moves_85 rfl ?_
              refine z_ild (r d) dX12_moves_87 (rk_a16 k21) (by decide) (by omega) (by omega) (RW.2 d (by omega) (by omega)) ?_
              have y49 := isRw_f RW.1.1 (show 0 ≤ d by omega) (by omega)
              have y50 := RW.1.2 d (by omega) (by omega)
              refine z_icmp_eq 95 dX12_moves_88 rfl ⟨by omega, by omega⟩ ⟨by omega, by omega⟩ (fun c51 => ?_) (fun c51 => ?_)
              · skip
                refine z_iconst (0) dX12_moves_95 rfl ?_
                refine z_iadd dX12_moves_96 ?_
                refine e_istore (L' := [_, _, _, _, _, _, _, _]) dX12_moves_97 (Nat.le_of_ble_eq_true rfl) rfl ?_
                refine e_iload dX12_moves_99 rfl ?_
                refine e_aload_n dX12_moves_101 rfl ?_
                refine e_get (.ref (m + 16)) dX12_moves_102 tf_12_56 (rk_s k21) (congrArg va_rf (rk_r16 k21)) ?_
                refine e_iload dX12_moves_105 rfl ?_
                refine z_ild (r d) dX12_moves_107 (rk_a16 k21) (by decide) (by omega) (by omega) (RW.2 d (by omega) (by omega)) ?_
                have y52 := isRw_f RW.1.1 (show 0 ≤ d by omega) (by omega)
                have y53 := RW.1.2 d (by omega) (by omega)
                refine z_bipush (6) dX12_moves_108 rfl ?_
                refine z_icmp_ge 129 dX12_moves_110 rfl ⟨by omega, by omega⟩ ⟨by omega, by omega⟩ (fun c54 => ?_) (fun c54 => ?_)
                · skip
                  refine z_iconst (0) dX12_moves_129 rfl ?_
                  refine z_iadd dX12_moves_130 ?_
                  refine e_istore (L' := [_, _, _, _, _, _, _, _]) dX12_moves_131 (Nat.le_of_ble_eq_true rfl) rfl ?_
                  refine z_iinc (L' := [_, _, _, _, _, _, _, _]) dX12_moves_133 rfl rfl ?_
                  refine e_goto 38 dX12_moves_136 rfl ?_
                  exact mEv_wk (by exact ⟨Or.inr rfl, Or.inr rfl, Or.inr rfl, Or.inr rfl, Or.inr rfl, Or.inr rfl, Or.inr rfl, Or.inl rfl, trivial⟩) (ih28 _ (by omega) (s + 0) (t + 0) (d + 1)  rfl  (by omega) (by omega) (by rw [sumZ_s (by omega), tlR_m (by omega) (by omega)]; first | (rw [if_pos (by omega)]; first | (rw [bZ_1 (by omega)]; omega) | (rw [bZ_0 (by omega)]; omega)) | (rw [if_neg (by omega)]; first | (rw [bZ_1 (by omega)]; omega) | (rw [bZ_0 (by omega)]; omega))) (by rw [sumZ_s (by omega), tlR_m (by omega) (by omega)]; first | (rw [if_pos (by omega)]; first | (rw [bZ_1 (by omega)]; omega) | (rw [bZ_0 (by omega)]; omega)) | (rw [if_neg (by omega)]; first | (rw [bZ_1 (by omega)]; omega) | (rw [bZ_0 (by omega)]; omega))))
                · skip
                  refine e_iload dX12_moves_113 rfl ?_
                  refine e_aload_n dX12_moves_115 rfl ?_
                  refine e_get (.ref (m + 16)) dX12_moves_116 tf_12_56 (rk_s k21) (congrArg va_rf (rk_r16 k21)) ?_
                  refine e_iload dX12_moves_119 rfl ?_
                  refine z_ild (r d) dX12_moves_121 (rk_a16 k21) (by decide) (by omega) (by omega) (RW.2 d (by omega) (by omega)) ?_
                  have y55 := isRw_f RW.1.1 (show 0 ≤ d by omega) (by omega)
                  have y56 := RW.1.2 d (by omega) (by omega)
                  refine z_icmp_eq 129 dX12_moves_122 rfl ⟨by omega, by omega⟩ ⟨by omega, by omega⟩ (fun c57 => ?_) (fun c57 => ?_)
                  · skip
                    refine z_iconst (0) dX12_moves_129 rfl ?_
                    refine z_iadd dX12_moves_130 ?_
                    refine e_istore (L' := [_, _, _, _, _, _, _, _]) dX12_moves_131 (Nat.le_of_ble_eq_true rfl) rfl ?_
                    refine z_iinc (L' := [_, _, _, _, _, _, _, _]) dX12_moves_133 rfl rfl ?_
                    refine e_goto 38 dX12_moves_136 rfl ?_
                    exact mEv_wk (by exact ⟨Or.inr rfl, Or.inr rfl, Or.inr rfl, Or.inr rfl, Or.inr rfl, Or.inr rfl, Or.inr rfl, Or.inl rfl, trivial⟩) (ih28 _ (by omega) (s + 0) (t + 0) (d + 1)  rfl  (by omega) (by omega) (by rw [sumZ_s (by omega), tlR_m (by omega) (by omega)]; first | (rw [if_pos (by omega)]; first | (rw [bZ_1 (by omega)]; omega) | (rw [bZ_0 (by omega)]; omega)) | (rw [if_neg (by omega)]; first | (rw [bZ_1 (by omega)]; omega) | (rw [bZ_0 (by omega)]; omega))) (by rw [sumZ_s (by omega), tlR_m (by omega) (by omega)]; first | (rw [if_pos (by omega)]; first | (rw [bZ_1 (by omega)]; omega) | (rw [bZ_0 (by omega)]; omega)) | (rw [if_neg (by omega)]; first | (rw [bZ_1 (by omega)]; omega) | (rw [bZ_0 (by omega)]; omega))))
                  · skip
                    refine z_iconst (1) dX12_moves_125 rfl ?_
                    refine e_goto 130 dX12_moves_126 rfl ?_
                    refine z_iadd dX12_moves_130 ?_
                    refine e_istore (L' := [_, _, _, _, _, _, _, _]) dX12_moves_131 (Nat.le_of_ble_eq_true rfl) rfl ?_
                    refine z_iinc (L' := [_, _, _, _, _, _, _, _]) dX12_moves_133 rfl rfl ?_
                    refine e_goto 38 dX12_moves_136 rfl ?_
                    exact mEv_wk (by exact ⟨Or.inr rfl, Or.inr rfl, Or.inr rfl, Or.inr rfl, Or.inr rfl, Or.inr rfl, Or.inr rfl, Or.inl rfl, trivial⟩) (ih28 _ (by omega) (s + 0) (t + 1) (d + 1)  rfl  (by omega) (by omega) (by rw [sumZ_s (by omega), tlR_m (by omega) (by omega)]; first | (rw [if_pos (by omega)]; first | (rw [bZ_1 (by omega)]; omega) | (rw [bZ_0 (by omega)]; omega)) | (rw [if_neg (by omega)]; first | (rw [bZ_1 (by omega)]; omega) | (rw [bZ_0 (by omega)]; omega))) (by rw [sumZ_s (by omega), tlR_m (by omega) (by omega)]; first | (rw [if_pos (by omega)]; first | (rw [bZ_1 (by omega)]; omega) | (rw [bZ_0 (by omega)]; omega)) | (rw [if_neg (by omega)]; first | (rw [bZ_1 (by omega)]; omega) | (rw [bZ_0 (by omega)]; omega))))
              · skip
                refine z_iconst (1) dX12_moves_91 rfl ?_
                refine e_goto 96 dX12_moves_92 rfl ?_
                refine z_iadd dX12_moves_96 ?_
                refine e_istore (L' := [_, _, _, _, _, _, _, _]) dX12_moves_97 (Nat.le_of_ble_eq_true rfl) rfl ?_
                refine e_iload dX12_moves_99 rfl ?_
                refine e_aload_n dX12_moves_101 rfl ?_
                refine e_get (.ref (m + 16)) dX12_moves_102 tf_12_56 (rk_s k21) (congrArg va_rf (rk_r16 k21)) ?_
                refine e_iload dX12_moves_105 rfl ?_
                refine z_ild (r d) dX12_moves_107 (rk_a16 k21) (by decide) (by omega) (by omega) (RW.2 d (by omega) (by omega)) ?_
                have y58 := isRw_f RW.1.1 (show 0 ≤ d by omega) (by omega)
                have y59 := RW.1.2 d (by omega) (by omega)
                refine z_bipush (6) dX12_moves_108 rfl ?_
                refine z_icmp_ge 129 dX12_moves_110 rfl ⟨by omega, by omega⟩ ⟨by omega, by omega⟩ (fun c60 => ?_) (fun c60 => ?_)
                · skip
                  refine z_iconst (0) dX12_moves_129 rfl ?_
                  refine z_iadd dX12_moves_130 ?_
                  refine e_istore (L' := [_, _, _, _, _, _, _, _]) dX12_moves_131 (Nat.le_of_ble_eq_true rfl) rfl ?_
                  refine z_iinc (L' := [_, _, _, _, _, _, _, _]) dX12_moves_133 rfl rfl ?_
                  refine e_goto 38 dX12_moves_136 rfl ?_
                  exact mEv_wk (by exact ⟨Or.inr rfl, Or.inr rfl, Or.inr rfl, Or.inr rfl, Or.inr rfl, Or.inr rfl, Or.inr rfl, Or.inl rfl, trivial⟩) (ih28 _ (by omega) (s + 1) (t + 0) (d + 1)  rfl  (by omega) (by omega) (by rw [sumZ_s (by omega), tlR_m (by omega) (by omega)]; first | (rw [if_pos (by omega)]; first | (rw [bZ_1 (by omega)]; omega) | (rw [bZ_0 (by omega)]; omega)) | (rw [if_neg (by omega)]; first | (rw [bZ_1 (by omega)]; omega) | (rw [bZ_0 (by omega)]; omega))) (by rw [sumZ_s (by omega), tlR_m (by omega) (by omega)]; first | (rw [if_pos (by omega)]; first | (rw [bZ_1 (by omega)]; omega) | (rw [bZ_0 (by omega)]; omega)) | (rw [if_neg (by omega)]; first | (rw [bZ_1 (by omega)]; omega) | (rw [bZ_0 (by omega)]; omega))))
                · skip
                  refine e_iload dX12_moves_113 rfl ?_
                  refine e_aload_n dX12_moves_115 rfl ?_
                  refine e_get (.ref (m + 16)) dX12_moves_116 tf_12_56 (rk_s k21) (congrArg va_rf (rk_r16 k21)) ?_
                  refine e_iload dX12_moves_119 rfl ?_
                  refine z_ild (r d) dX12_moves_121 (rk_a16 k21) (by decide) (by omega) (by omega) (RW.2 d (by omega) (by omega)) ?_
                  have y61 := isRw_f RW.1.1 (show 0 ≤ d by omega) (by omega)
                  have y62 := RW.1.2 d (by omega) (by omega)
                  refine z_icmp_eq 129 dX12_moves_122 rfl ⟨by omega, by omega⟩ ⟨by omega, by omega⟩ (fun c63 => ?_) (fun c63 => ?_)
                  · skip
                    refine z_iconst (0) dX12_moves_129 rfl ?_
                    refine z_iadd dX12_moves_130 ?_
                    refine e_istore (L' := [_, _, _, _, _, _, _, _]) dX12_moves_131 (Nat.le_of_ble_eq_true rfl) rfl ?_
                    refine z_iinc (L' := [_, _, _, _, _, _, _, _]) dX12_moves_133 rfl rfl ?_
                    refine e_goto 38 dX12_moves_136 rfl ?_
                    exact mEv_wk (by exact ⟨Or.inr rfl, Or.inr rfl, Or.inr rfl, Or.inr rfl, Or.inr rfl, Or.inr rfl, Or.inr rfl, Or.inl rfl, trivial⟩) (ih28 _ (by omega) (s + 1) (t + 0) (d + 1)  rfl  (by omega) (by omega) (by rw [sumZ_s (by omega), tlR_m (by omega) (by omega)]; first | (rw [if_pos (by omega)]; first | (rw [bZ_1 (by omega)]; omega) | (rw [bZ_0 (by omega)]; omega)) | (rw [if_neg (by omega)]; first | (rw [bZ_1 (by omega)]; omega) | (rw [bZ_0 (by omega)]; omega))) (by rw [sumZ_s (by omega), tlR_m (by omega) (by omega)]; first | (rw [if_pos (by omega)]; first | (rw [bZ_1 (by omega)]; omega) | (rw [bZ_0 (by omega)]; omega)) | (rw [if_neg (by omega)]; first | (rw [bZ_1 (by omega)]; omega) | (rw [bZ_0 (by omega)]; omega))))
                  · skip
                    refine z_iconst (1) dX12_moves_125 rfl ?_
                    refine e_goto 130 dX12_moves_126 rfl ?_
                    refine z_iadd dX12_moves_130 ?_
                    refine e_istore (L' := [_, _, _, _, _, _, _, _]) dX12_moves_131 (Nat.le_of_ble_eq_true rfl) rfl ?_
                    refine z_iinc (L' := [_, _, _, _, _, _, _, _]) dX12_moves_133 rfl rfl ?_
                    refine e_goto 38 dX12_moves_136 rfl ?_
                    exact mEv_wk (by exact ⟨Or.inr rfl, Or.inr rfl, Or.inr rfl, Or.inr rfl, Or.inr rfl, Or.inr rfl, Or.inr rfl, Or.inl rfl, trivial⟩) (ih28 _ (by omega) (s + 1) (t + 1) (d + 1)  rfl  (by omega) (by omega) (by rw [sumZ_s (by omega), tlR_m (by omega) (by omega)]; first | (rw [if_pos (by omega)]; first | (rw [bZ_1 (by omega)]; omega) | (rw [bZ_0 (by omega)]; omega)) | (rw [if_neg (by omega)]; first | (rw [bZ_1 (by omega)]; omega) | (rw [bZ_0 (by omega)]; omega))) (by rw [sumZ_s (by omega), tlR_m (by omega) (by omega)]; first | (rw [if_pos (by omega)]; first | (rw [bZ_1 (by omega)]; omega) | (rw [bZ_0 (by omega)]; omega)) | (rw [if_neg (by omega)]; first | (rw [bZ_1 (by omega)]; omega) | (rw [bZ_0 (by omega)]; omega))))
      exact lp28 _ 0 0 0  rfl  (by omega) (by omega) rfl rfl
    · exfalso; omega
set_option maxHeartbeats 1000000 in
theorem zp_X12_leaving_5 {ad : mA} {dd : Nat} {h : mH} {Q : mQ} {m : Nat} {σ : Sg} (hk : rk h m) (HR : refT h m 0 σ)  (f : Int) (f_r : -2147483648 ≤ f ∧ f < 2147483648) (p1 : 0 ≤ f) (p2 : f < cn σ 0) (kq : ∀ v : Int, (∃ r, rwR (sG σ f) 5 r ∧ v = lvN (sG σ f) r) → ∀ h1, frm (fun a i => a = m ∨ (m + 9 ≤ a ∧ a < m + 30)) h h1 → Q (some (.int (zI v))) h1) : mCal TB0 ad (dd + 9) M_X12_leaving [.ref m, .int (zI f), .int (zI 5)] h 0 0 Q := by
  refine ⟨Nat.le_of_ble_eq_true rfl, ?_⟩
  show mEv TB0 ad M_X12_leaving (dd + 9) (0, 0) (mCal TB0 ad (dd + 8)) (fun v h' z => z.1 = 0 ∧ Q v h') 0 [some (.ref m), some (.int (zI f)), some (.int (zI 5))] [] h (0, 0)
  have FR0 : frm (fun a i => a = m ∨ (m + 9 ≤ a ∧ a < m + 30)) h h := frm_0 h
  have w1 := wS_n (refT_w HR)
  have W := (refT_w HR).2.2.1 f p1 p2
  refine e_aload_n dX12_leaving_0 rfl ?_
  refine z_iconst (0) dX12_leaving_1 rfl ?_
  refine z_put dX12_leaving_2 tf_12_103 (rk_s hk) rfl (Or.inl rfl) (fun h1 e2 => ?_)
  have f3 := frm_1 e2
  have k4 := rk_q (frm_s f3) hk
  have H5 := refT_c f3 (fun a k q1 q2 => by omega) HR
  have FR6 := frm_t FR0 (frm_m (S' := (fun a i => a = m ∨ (m + 9 ≤ a ∧ a < m + 30))) f3 (fun a k q => by omega))
  refine e_aload_n dX12_leaving_5 rfl ?_
  refine e_iload_n dX12_leaving_6 rfl ?_
  refine e_callV [.int _] dX12_leaving_7 tm_12_292 rfl (Nat.le_of_ble_eq_true rfl) (rk_s k4) (Nat.le_of_ble_eq_true rfl) (Nat.le_refl _) (Nat.le_refl _) rfl (zp_X12_hand_in k4 H5 f ⟨by omega, by omega⟩ (by omega) (by omega) (fun  h7 f8 p9 p10 p11 p12 => ?_))
  have k13 := rk_q (frm_s f8) k4
  have H14 := refT_c f8 (fun a k q1 q2 => by omega) H5
  have FR15 := frm_t FR6 (frm_m (S' := (fun a i => a = m ∨ (m + 9 ≤ a ∧ a < m + 30))) f8 (fun a k q => by omega))
  have w5 := rB_n p9
  have w6 := rC_n p11
  refine z_ifb_eq 22 dX12_leaving_10 rfl (fun c16 => ?_) (fun c16 => ?_)
  · exact absurd trivial c16
  · skip
    refine e_iload_n dX12_leaving_13 rfl ?_
    refine z_iconst (0) dX12_leaving_14 rfl ?_
    refine z_iconst (5) dX12_leaving_15 rfl ?_
    refine e_callS [.int _, .int _, .int _] dX12_leaving_16 tm_12_115 rfl (Nat.le_of_ble_eq_true rfl) (Nat.le_refl _) (Nat.le_refl _) rfl (zp_X12_in 5 ⟨by omega, by omega⟩ 0 ⟨by omega, by omega⟩ 5 ⟨by omega, by omega⟩ ?_)
    refine z_ifb_ne 24 dX12_leaving_19 rfl (fun c17 => ?_) (fun c17 => ?_)
    · skip
      refine e_aload_n dX12_leaving_24 rfl ?_
      refine e_iload_n dX12_leaving_25 rfl ?_
      refine e_callV [.int _] dX12_leaving_26 tm_12_442 rfl (Nat.le_of_ble_eq_true rfl) (rk_s k13) (Nat.le_of_ble_eq_true rfl) (Nat.le_refl _) (Nat.le_refl _) rfl (zp_X12_layRow_5 k13 p9 p10 W (fun  h18 f19 p20 => ?_))
      have k21 := rk_q (frm_s f19) k13
      have H22 := refT_c f19 (fun a k q1 q2 => by omega) H14
      have H23 := rB_c f19 (fun a k q => by omega) p9
      have H24 := rM_c f19 (fun a k q => by omega) p10
      have H25 := rC_c f19 (fun a k q => by omega) p11
      have H26 := rK_c f19 (fun a k q1 q2 => by omega) p12
      have FR27 := frm_t FR15 (frm_m (S' := (fun a i => a = m ∨ (m + 9 ≤ a ∧ a < m + 30))) f19 (fun a k q => by omega))
      obtain ⟨r, RW, RR⟩ := p20
      refine e_aload_n dX12_leaving_29 rfl ?_
      refine e_callV [] dX12_leaving_30 tm_12_403 rfl (Nat.le_of_ble_eq_true rfl) (rk_s k21) (Nat.le_of_ble_eq_true rfl) (Nat.le_refl _) (Nat.le_refl _) rfl (zp_X12_leavingNow k21 H23 RW (fun  h28 f29 p30 => ?_))
      have k31 := rk_q (frm_s f29) k21
      have H32 := refT_c f29 (fun a k q1 q2 => by omega) H22
      have H33 := rB_c f29 (fun a k q => by omega) H23
      have H34 := rM_c f29 (fun a k q => by omega) H24
      have H35 := rC_c f29 (fun a k q => by omega) H25
      have H36 := rK_c f29 (fun a k q1 q2 => by omega) H26
      have H37 := rRw_c f29 (fun a k q => by omega) RW
      have FR38 := frm_t FR27 (frm_m (S' := (fun a i => a = m ∨ (m + 9 ≤ a ∧ a < m + 30))) f29 (fun a k q => by omega))
      have y39 := lvN_b (show (0 ≤ nd (sG σ f) ∧ nd (sG σ f) ≤ 6) ∧ (0 ≤ nu (sG σ f) ∧ nu (sG σ f) ≤ 6) by omega) r
      refine z_iret dX12_leaving_33 rfl ⟨rfl, ?_⟩
      refine kq _ ?_ _ FR38
      exact ⟨r, RR, rfl⟩
    · exfalso; omega
set_option maxHeartbeats 1000000 in
theorem zp_X12_row_5 {ad : mA} {dd : Nat} {h : mH} {Q : mQ} {m : Nat} {σ : Sg} (hk : rk h m) (HR : refT h m 0 σ)  (f : Int) (f_r : -2147483648 ≤ f ∧ f < 2147483648) (k : Int) (k_r : -2147483648 ≤ k ∧ k < 2147483648) (p1 : 0 ≤ f) (p2 : f < cn σ 0) (kq : ∀ v : Int, (((-1 ≤ k ∧ k < nd (sG σ f)) ∧ ∃ r, rwR (sG σ f) 5 r ∧ v = if k = -1 then inR r else r k) ∨ (¬ (-1 ≤ k ∧ k < nd (sG σ f)) ∧ v = -1)) → ∀ h1, frm (fun a i => a = m ∨ (m + 9 ≤ a ∧ a < m + 30)) h h1 → Q (some (.int (zI v))) h1) : mCal TB0 ad (dd + 9) M_X12_row [.ref m, .int (zI f), .int (zI 5), .int (zI k)] h 0 0 Q := by
  refine ⟨Nat.le_of_ble_eq_true rfl, ?_⟩
  show mEv TB0 ad M_X12_row (dd + 9) (0, 0) (mCal TB0 ad (dd + 8)) (fun v h' z => z.1 = 0 ∧ Q v h') 0 [some (.ref m), some (.int (zI f)), some (.int (zI 5)), some (.int (zI k))] [] h (0, 0)
  have FR0 : frm (fun a i => a = m ∨ (m + 9 ≤ a ∧ a < m + 30)) h h := frm_0 h
  have w1 := wS_n (refT_w HR)
  have W := (refT_w HR).2.2.1 f p1 p2
  refine e_aload_n dX12_row_0 rfl ?_
  refine z_iconst (0) dX12_row_1 rfl ?_
  refine z_put dX12_row_2 tf_12_103 (rk_s hk) rfl (Or.inl rfl) (fun h1 e2 => ?_)
  have f3 := frm_1 e2
  have k4 := rk_q (frm_s f3) hk
  have H5 := refT_c f3 (fun a k q1 q2 => by omega) HR
  have FR6 := frm_t FR0 (frm_m (S' := (fun a i => a = m ∨ (m + 9 ≤ a ∧ a < m + 30))) f3 (fun a k q => by omega))
  refine e_aload_n dX12_row_5 rfl ?_
  refine e_iload_n dX12_row_6 rfl ?_
  refine e_callV [.int _] dX12_row_7 tm_12_292 rfl (Nat.le_of_ble_eq_true rfl) (rk_s k4) (Nat.le_of_ble_eq_true rfl) (Nat.le_refl _) (Nat.le_refl _) rfl (zp_X12_hand_in k4 H5 f ⟨by omega, by omega⟩ (by omega) (by omega) (fun  h7 f8 p9 p10 p11 p12 => ?_))
  have k13 := rk_q (frm_s f8) k4
  have H14 := refT_c f8 (fun a k q1 q2 => by omega) H5
  have FR15 := frm_t FR6 (frm_m (S' := (fun a i => a = m ∨ (m + 9 ≤ a ∧ a < m + 30))) f8 (fun a k q => by omega))
  have w5 := rB_n p9
  have w6 := rC_n p11
  refine z_ifb_eq 36 dX12_row_10 rfl (fun c16 => ?_) (fun c16 => ?_)
  · exact absurd trivial c16
  · skip
    refine e_iload_n dX12_row_13 rfl ?_
    refine z_iconst (1) dX12_row_14 rfl ?_
    refine z_iconst (5) dX12_row_15 rfl ?_
    refine e_callS [.int _, .int _, .int _] dX12_row_16 tm_12_115 rfl (Nat.le_of_ble_eq_true rfl) (Nat.le_refl _) (Nat.le_refl _) rfl (zp_X12_in 5 ⟨by omega, by omega⟩ 1 ⟨by omega, by omega⟩ 5 ⟨by omega, by omega⟩ ?_)
    refine z_ifb_eq 36 dX12_row_19 rfl (fun c17 => ?_) (fun c17 => ?_)
    · exfalso; omega
    · skip
      refine e_iload_n dX12_row_22 rfl ?_
      refine z_iconst (-1) dX12_row_23 rfl ?_
      refine e_aload_n dX12_row_24 rfl ?_
      refine z_get (nd (sG σ f)) dX12_row_25 tf_12_271 (rk_s k13) (Or.inl rfl) (rB_nd p9) ?_
      have y18 := rB_n p9
      refine z_iconst (1) dX12_row_28 rfl ?_
      refine z_isub dX12_row_29 ?_
      refine e_callS [.int _, .int _, .int _] dX12_row_30 tm_12_115 rfl (Nat.le_of_ble_eq_true rfl) (Nat.le_refl _) (Nat.le_refl _) rfl (zp_X12_in k ⟨by omega, by omega⟩ (-1) ⟨by omega, by omega⟩ ((nd (sG σ f)) - 1) ⟨by omega, by omega⟩ ?_)
      refine z_ifb_ne 38 dX12_row_33 rfl (fun c19 => ?_) (fun c19 => ?_)
      · skip
        refine e_aload_n dX12_row_38 rfl ?_
        refine e_iload_n dX12_row_39 rfl ?_
        refine e_callV [.int _] dX12_row_40 tm_12_442 rfl (Nat.le_of_ble_eq_true rfl) (rk_s k13) (Nat.le_of_ble_eq_true rfl) (Nat.le_refl _) (Nat.le_refl _) rfl (zp_X12_layRow_5 k13 p9 p10 W (fun  h20 f21 p22 => ?_))
        have k23 := rk_q (frm_s f21) k13
        have H24 := refT_c f21 (fun a k q1 q2 => by omega) H14
        have H25 := rB_c f21 (fun a k q => by omega) p9
        have H26 := rM_c f21 (fun a k q => by omega) p10
        have H27 := rC_c f21 (fun a k q => by omega) p11
        have H28 := rK_c f21 (fun a k q1 q2 => by omega) p12
        have FR29 := frm_t FR15 (frm_m (S' := (fun a i => a = m ∨ (m + 9 ≤ a ∧ a < m + 30))) f21 (fun a k q => by omega))
        obtain ⟨r, RW, RR⟩ := p22
        refine e_iload_n dX12_row_43 rfl ?_
        refine z_iconst (-1) dX12_row_44 rfl ?_
        refine z_icmp_ne 55 dX12_row_45 rfl ⟨by omega, by omega⟩ ⟨by omega, by omega⟩ (fun c30 => ?_) (fun c30 => ?_)
        · skip
          refine e_aload_n dX12_row_55 rfl ?_
          refine e_get (.ref (m + 16)) dX12_row_56 tf_12_56 (rk_s k23) (congrArg va_rf (rk_r16 k23)) ?_
          refine e_iload_n dX12_row_59 rfl ?_
          refine z_ild (r k) dX12_row_60 (rk_a16 k23) (by decide) (by omega) (by omega) (RW.2 k (by omega) (by omega)) ?_
          have y31 := isRw_f RW.1.1 (show 0 ≤ k by omega) (by omega)
          have y32 := RW.1.2 k (by omega) (by omega)
          refine z_iret dX12_row_61 rfl ⟨rfl, ?_⟩
          refine kq _ ?_ _ FR29
          first | exact Or.inr ⟨by omega, rfl⟩ | exact Or.inl ⟨by omega, r, RR, by rw [if_pos (by omega)]⟩ | exact Or.inl ⟨by omega, r, RR, by rw [if_neg (by omega)]⟩
        · skip
          refine e_aload_n dX12_row_48 rfl ?_
          refine e_callV [] dX12_row_49 tm_12_413 rfl (Nat.le_of_ble_eq_true rfl) (rk_s k23) (Nat.le_of_ble_eq_true rfl) (Nat.le_refl _) (Nat.le_refl _) rfl (zp_X12_inRow k23 RW ?_)
          have y33 := inR_b r
          refine e_goto 61 dX12_row_52 rfl ?_
          refine z_iret dX12_row_61 rfl ⟨rfl, ?_⟩
          refine kq _ ?_ _ FR29
          first | exact Or.inr ⟨by omega, rfl⟩ | exact Or.inl ⟨by omega, r, RR, by rw [if_pos (by omega)]⟩ | exact Or.inl ⟨by omega, r, RR, by rw [if_neg (by omega)]⟩
      · skip
        refine z_iconst (-1) dX12_row_36 rfl ?_
        refine z_iret dX12_row_37 rfl ⟨rfl, ?_⟩
        refine kq _ ?_ _ FR15
        first | exact Or.inr ⟨by omega, rfl⟩ | exact Or.inl ⟨by omega, r, RR, by rw [if_pos (by omega)]⟩ | exact Or.inl ⟨by omega, r, RR, by rw [if_neg (by omega)]⟩
set_option maxHeartbeats 1000000 in
theorem zp_X12_moves_5 {ad : mA} {dd : Nat} {h : mH} {Q : mQ} {m : Nat} {σ : Sg} (hk : rk h m) (HR : refT h m 0 σ)  (f : Int) (f_r : -2147483648 ≤ f ∧ f < 2147483648) (p : Prop) [Decidable p] (p1 : 0 ≤ f) (p2 : f < cn σ 0) (kq : ∀ v : Int, (∃ r, rwR (sG σ f) 5 r ∧ v = if p then mvR (sG σ f) r else mvP (sG σ f) r) → ∀ h1, frm (fun a i => a = m ∨ (m + 9 ≤ a ∧ a < m + 30)) h h1 → Q (some (.int (zI v))) h1) : mCal TB0 ad (dd + 9) M_X12_moves [.ref m, .int (zI f), .int (zI 5), .int (zI (bZ p))] h 0 0 Q := by
  refine ⟨Nat.le_of_ble_eq_true rfl, ?_⟩
  show mEv TB0 ad M_X12_moves (dd + 9) (0, 0) (mCal TB0 ad (dd + 8)) (fun v h' z => z.1 = 0 ∧ Q v h') 0 [some (.ref m), some (.int (zI f)), some (.int (zI 5)), some (.int (zI (bZ p))), none, none, none, none] [] h (0, 0)
  have FR0 : frm (fun a i => a = m ∨ (m + 9 ≤ a ∧ a < m + 30)) h h := frm_0 h
  have w1 := wS_n (refT_w HR)
  have W := (refT_w HR).2.2.1 f p1 p2
  refine e_aload_n dX12_moves_0 rfl ?_
  refine z_iconst (0) dX12_moves_1 rfl ?_
  refine z_put dX12_moves_2 tf_12_103 (rk_s hk) rfl (Or.inl rfl) (fun h1 e2 => ?_)
  have f3 := frm_1 e2
  have k4 := rk_q (frm_s f3) hk
  have H5 := refT_c f3 (fun a k q1 q2 => by omega) HR
  have FR6 := frm_t FR0 (frm_m (S' := (fun a i => a = m ∨ (m + 9 ≤ a ∧ a < m + 30))) f3 (fun a k q => by omega))
  refine e_aload_n dX12_moves_5 rfl ?_
  refine e_iload_n dX12_moves_6 rfl ?_
  refine e_callV [.int _] dX12_moves_7 tm_12_292 rfl (Nat.le_of_ble_eq_true rfl) (rk_s k4) (Nat.le_of_ble_eq_true rfl) (Nat.le_refl _) (Nat.le_refl _) rfl (zp_X12_hand_in k4 H5 f ⟨by omega, by omega⟩ (by omega) (by omega) (fun  h7 f8 p9 p10 p11 p12 => ?_))
  have k13 := rk_q (frm_s f8) k4
  have H14 := refT_c f8 (fun a k q1 q2 => by omega) H5
  have FR15 := frm_t FR6 (frm_m (S' := (fun a i => a = m ∨ (m + 9 ≤ a ∧ a < m + 30))) f8 (fun a k q => by omega))
  have w5 := rB_n p9
  have w6 := rC_n p11
  refine z_ifb_eq 22 dX12_moves_10 rfl (fun c16 => ?_) (fun c16 => ?_)
  · exact absurd trivial c16
  · skip
    refine e_iload_n dX12_moves_13 rfl ?_
    refine z_iconst (1) dX12_moves_14 rfl ?_
    refine z_iconst (5) dX12_moves_15 rfl ?_
    refine e_callS [.int _, .int _, .int _] dX12_moves_16 tm_12_115 rfl (Nat.le_of_ble_eq_true rfl) (Nat.le_refl _) (Nat.le_refl _) rfl (zp_X12_in 5 ⟨by omega, by omega⟩ 1 ⟨by omega, by omega⟩ 5 ⟨by omega, by omega⟩ ?_)
    refine z_ifb_ne 24 dX12_moves_19 rfl (fun c17 => ?_) (fun c17 => ?_)
    · skip
      refine e_aload_n dX12_moves_24 rfl ?_
      refine e_iload_n dX12_moves_25 rfl ?_
      refine e_callV [.int _] dX12_moves_26 tm_12_442 rfl (Nat.le_of_ble_eq_true rfl) (rk_s k13) (Nat.le_of_ble_eq_true rfl) (Nat.le_refl _) (Nat.le_refl _) rfl (zp_X12_layRow_5 k13 p9 p10 W (fun  h18 f19 p20 => ?_))
      have k21 := rk_q (frm_s f19) k13
      have H22 := refT_c f19 (fun a k q1 q2 => by omega) H14
      have H23 := rB_c f19 (fun a k q => by omega) p9
      have H24 := rM_c f19 (fun a k q => by omega) p10
      have H25 := rC_c f19 (fun a k q => by omega) p11
      have H26 := rK_c f19 (fun a k q1 q2 => by omega) p12
      have FR27 := frm_t FR15 (frm_m (S' := (fun a i => a = m ∨ (m + 9 ≤ a ∧ a < m + 30))) f19 (fun a k q => by omega))
      obtain ⟨r, RW, RR⟩ := p20
      refine z_iconst (0) dX12_moves_29 rfl ?_
      refine e_istore (L' := [_, _, _, _, _, _, _, _]) dX12_moves_30 (Nat.le_of_ble_eq_true rfl) rfl ?_
      refine z_iconst (0) dX12_moves_32 rfl ?_
      refine e_istore (L' := [_, _, _, _, _, _, _, _]) dX12_moves_33 (Nat.le_of_ble_eq_true rfl) rfl ?_
      refine z_iconst (0) dX12_moves_35 rfl ?_
      refine e_istore (L' := [_, _, _, _, _, _, _, _]) dX12_moves_36 (Nat.le_of_ble_eq_true rfl) rfl ?_
      have lp28 : ∀ (n28 : Nat) (s t d : Int), (nd (sG σ f) - d).toNat = n28 → (0 ≤ d ∧ d ≤ nd (sG σ f)) → ((0 ≤ s ∧ s ≤ d) ∧ (0 ≤ t ∧ t ≤ d)) → (s = sumZ (fun d => bZ (tlR (sG σ f) d < 6 ∧ tlR (sG σ f) d ≠ r d)) d.toNat) → (t = sumZ (fun d => bZ (r d < 6 ∧ tlR (sG σ f) d ≠ r d)) d.toNat) → mEv TB0 ad M_X12_moves (dd + 9) (0, 0) (mCal TB0 ad (dd + 8)) (fun v h' z => z.1 = 0 ∧ Q v h') 38 [some (.ref m), some (.int (zI f)), some (.int (zI 5)), some (.int (zI (bZ p))), some (.int (zI s)), some (.int (zI t)), some (.int (zI d)), none] [] h18 (0, 0) := by
        intro n28
        induction n28 using Nat.strongRecOn with
        | ind n28 ih28 =>
        intro s t d  hn28  I1 I2 I3 I4
        refine e_iload dX12_moves_38 rfl ?_
        refine e_aload_n dX12_moves_40 rfl ?_
        refine z_get (nd (sG σ f)) dX12_moves_41 tf_12_271 (rk_s k21) (Or.inl rfl) (rB_nd H23) ?_
        have y29 := rB_n H23
        refine z_icmp_ge 139 dX12_moves_44 rfl ⟨by omega, by omega⟩ ⟨by omega, by omega⟩ (fun c30 => ?_) (fun c30 => ?_)
        · skip
          refine e_iload_n dX12_moves_139 rfl ?_
          refine z_ifb_eq 148 dX12_moves_140 rfl (fun c31 => ?_) (fun c31 => ?_)
          · skip
            refine e_iload dX12_moves_148 rfl ?_
            refine z_iret dX12_moves_150 rfl ⟨rfl, ?_⟩
            refine kq _ ?_ _ FR27
            first | exact ⟨r, RR, by rw [if_pos (by assumption), I4, show d = nd (sG σ f) by omega]; rfl⟩ | exact ⟨r, RR, by rw [if_neg (by assumption), I3, show d = nd (sG σ f) by omega]; rfl⟩
          · skip
            refine e_iload dX12_moves_143 rfl ?_
            refine e_goto 150 dX12_moves_145 rfl ?_
            refine z_iret dX12_moves_150 rfl ⟨rfl, ?_⟩
            refine kq _ ?_ _ FR27
            first | exact ⟨r, RR, by rw [if_pos (by assumption), I4, show d = nd (sG σ f) by omega]; rfl⟩ | exact ⟨r, RR, by rw [if_neg (by assumption), I3, show d = nd (sG σ f) by omega]; rfl⟩
        · skip
          refine e_aload_n dX12_moves_47 rfl ?_
          refine e_iload dX12_moves_48 rfl ?_
          refine e_callV [.int _] dX12_moves_50 tm_12_286 rfl (Nat.le_of_ble_eq_true rfl) (rk_s k21) (Nat.le_of_ble_eq_true rfl) (Nat.le_refl _) (Nat.le_refl _) rfl (zp_X12_isPaired k21 H24 d ⟨by omega, by omega⟩ (by omega) (by omega) ?_)
          have y32 := wM_d (rM_w H24) (show 0 ≤ d by omega) (by omega)
          refine z_ifb_eq 66 dX12_moves_53 rfl (fun c33 => ?_) (fun c33 => ?_)
          · skip
            refine z_bipush (6) dX12_moves_66 rfl ?_
            refine e_istore (L' := [_, _, _, _, _, _, _, _]) dX12_moves_68 (Nat.le_of_ble_eq_true rfl) rfl ?_
            refine e_iload dX12_moves_70 rfl ?_
            refine e_iload dX12_moves_72 rfl ?_
            refine z_bipush (6) dX12_moves_74 rfl ?_
            refine z_icmp_ge 95 dX12_moves_76 rfl ⟨by omega, by omega⟩ ⟨by omega, by omega⟩ (fun c34 => ?_) (fun c34 => ?_)
            · skip
              refine z_iconst (0) dX12_moves_95 rfl ?_
              refine z_iadd dX12_moves_96 ?_
              refine e_istore (L' := [_, _, _, _, _, _, _, _]) dX12_moves_97 (Nat.le_of_ble_eq_true rfl) rfl ?_
              refine e_iload dX12_moves_99 rfl ?_
              refine e_aload_n dX12_moves_101 rfl ?_
              refine e_get (.ref (m + 16)) dX12_moves_102 tf_12_56 (rk_s k21) (congrArg va_rf (rk_r16 k21)) ?_
              refine e_iload dX12_moves_105 rfl ?_
              refine z_ild (r d) dX12_moves_107 (rk_a16 k21) (by decide) (by omega) (by omega) (RW.2 d (by omega) (by omega)) ?_
              have y35 := isRw_f RW.1.1 (show 0 ≤ d by omega) (by omega)
              have y36 := RW.1.2 d (by omega) (by omega)
              refine z_bipush (6) dX12_moves_108 rfl ?_
              refine z_icmp_ge 129 dX12_moves_110 rfl ⟨by omega, by omega⟩ ⟨by omega, by omega⟩ (fun c37 => ?_) (fun c37 => ?_)
              · skip
                refine z_iconst (0) dX12_moves_129 rfl ?_
                refine z_iadd dX12_moves_130 ?_
                refine e_istore (L' := [_, _, _, _, _, _, _, _]) dX12_moves_131 (Nat.le_of_ble_eq_true rfl) rfl ?_
                refine z_iinc (L' := [_, _, _, _, _, _, _, _]) dX12_moves_133 rfl rfl ?_
                refine e_goto 38 dX12_moves_136 rfl ?_
                exact mEv_wk (by exact ⟨Or.inr rfl, Or.inr rfl, Or.inr rfl, Or.inr rfl, Or.inr rfl, Or.inr rfl, Or.inr rfl, Or.inl rfl, trivial⟩) (ih28 _ (by omega) (s + 0) (t + 0) (d + 1)  rfl  (by omega) (by omega) (by rw [sumZ_s (by omega), tlR_m (by omega) (by omega)]; first | (rw [if_pos (by omega)]; first | (rw [bZ_1 (by omega)]; omega) | (rw [bZ_0 (by omega)]; omega)) | (rw [if_neg (by omega)]; first | (rw [bZ_1 (by omega)]; omega) | (rw [bZ_0 (by omega)]; omega))) (by rw [sumZ_s (by omega), tlR_m (by omega) (by omega)]; first | (rw [if_pos (by omega)]; first | (rw [bZ_1 (by omega)]; omega) | (rw [bZ_0 (by omega)]; omega)) | (rw [if_neg (by omega)]; first | (rw [bZ_1 (by omega)]; omega) | (rw [bZ_0 (by omega)]; omega))))
              · skip
                refine e_iload dX12_moves_113 rfl ?_
                refine e_aload_n dX12_moves_115 rfl ?_
                refine e_get (.ref (m + 16)) dX12_moves_116 tf_12_56 (rk_s k21) (congrArg va_rf (rk_r16 k21)) ?_
                refine e_iload dX12_moves_119 rfl ?_
                refine z_ild (r d) dX12_moves_121 (rk_a16 k21) (by decide) (by omega) (by omega) (RW.2 d (by omega) (by omega)) ?_
                have y38 := isRw_f RW.1.1 (show 0 ≤ d by omega) (by omega)
                have y39 := RW.1.2 d (by omega) (by omega)
                refine z_icmp_eq 129 dX12_moves_122 rfl ⟨by omega, by omega⟩ ⟨by omega, by omega⟩ (fun c40 => ?_) (fun c40 => ?_)
                · skip
                  refine z_iconst (0) dX12_moves_129 rfl ?_
                  refine z_iadd dX12_moves_130 ?_
                  refine e_istore (L' := [_, _, _, _, _, _, _, _]) dX12_moves_131 (Nat.le_of_ble_eq_true rfl) rfl ?_
                  refine z_iinc (L' := [_, _, _, _, _, _, _, _]) dX12_moves_133 rfl rfl ?_
                  refine e_goto 38 dX12_moves_136 rfl ?_
                  exact mEv_wk (by exact ⟨Or.inr rfl, Or.inr rfl, Or.inr rfl, Or.inr rfl, Or.inr rfl, Or.inr rfl, Or.inr rfl, Or.inl rfl, trivial⟩) (ih28 _ (by omega) (s + 0) (t + 0) (d + 1)  rfl  (by omega) (by omega) (by rw [sumZ_s (by omega), tlR_m (by omega) (by omega)]; first | (rw [if_pos (by omega)]; first | (rw [bZ_1 (by omega)]; omega) | (rw [bZ_0 (by omega)]; omega)) | (rw [if_neg (by omega)]; first | (rw [bZ_1 (by omega)]; omega) | (rw [bZ_0 (by omega)]; omega))) (by rw [sumZ_s (by omega), tlR_m (by omega) (by omega)]; first | (rw [if_pos (by omega)]; first | (rw [bZ_1 (by omega)]; omega) | (rw [bZ_0 (by omega)]; omega)) | (rw [if_neg (by omega)]; first | (rw [bZ_1 (by omega)]; omega) | (rw [bZ_0 (by omega)]; omega))))
                · skip
                  refine z_iconst (1) dX12_moves_125 rfl ?_
                  refine e_goto 130 dX12_moves_126 rfl ?_
                  refine z_iadd dX12_moves_130 ?_
                  refine e_istore (L' := [_, _, _, _, _, _, _, _]) dX12_moves_131 (Nat.le_of_ble_eq_true rfl) rfl ?_
                  refine z_iinc (L' := [_, _, _, _, _, _, _, _]) dX12_moves_133 rfl rfl ?_
                  refine e_goto 38 dX12_moves_136 rfl ?_
                  exact mEv_wk (by exact ⟨Or.inr rfl, Or.inr rfl, Or.inr rfl, Or.inr rfl, Or.inr rfl, Or.inr rfl, Or.inr rfl, Or.inl rfl, trivial⟩) (ih28 _ (by omega) (s + 0) (t + 1) (d + 1)  rfl  (by omega) (by omega) (by rw [sumZ_s (by omega), tlR_m (by omega) (by omega)]; first | (rw [if_pos (by omega)]; first | (rw [bZ_1 (by omega)]; omega) | (rw [bZ_0 (by omega)]; omega)) | (rw [if_neg (by omega)]; first | (rw [bZ_1 (by omega)]; omega) | (rw [bZ_0 (by omega)]; omega))) (by rw [sumZ_s (by omega), tlR_m (by omega) (by omega)]; first | (rw [if_pos (by omega)]; first | (rw [bZ_1 (by omega)]; omega) | (rw [bZ_0 (by omega)]; omega)) | (rw [if_neg (by omega)]; first | (rw [bZ_1 (by omega)]; omega) | (rw [bZ_0 (by omega)]; omega))))
            · exfalso; omega
          · skip
            refine e_aload_n dX12_moves_56 rfl ?_
            refine e_get (.ref (m + 15)) dX12_moves_57 tf_12_53 (rk_s k21) (congrArg va_rf (rk_r15 k21)) ?_
            refine e_iload dX12_moves_60 rfl ?_
            refine z_ild (dm (sG σ f) d) dX12_moves_62 (rk_a15 k21) (by decide) (by omega) (by omega) (rM_d H24 (by omega) (by omega)) ?_
            have y41 := wM_d (rM_w H24) (show 0 ≤ d by omega) (by omega)
            refine e_goto 68 dX12_moves_63 rfl ?_
            refine e_istore (L' := [_, _, _, _, _, _, _, _]) dX12_moves_68 (Nat.le_of_ble_eq_true rfl) rfl ?_
            refine e_iload dX12_moves_70 rfl ?_
            refine e_iload dX12_moves_72 rfl ?_
            refine z_bipush (6) dX12_moves_74 rfl ?_
            refine z_icmp_ge 95 dX12_moves_76 rfl ⟨by omega, by omega⟩ ⟨by omega, by omega⟩ (fun c42 => ?_) (fun c42 => ?_)
            · skip
              refine z_iconst (0) dX12_moves_95 rfl ?_
              refine z_iadd dX12_moves_96 ?_
              refine e_istore (L' := [_, _, _, _, _, _, _, _]) dX12_moves_97 (Nat.le_of_ble_eq_true rfl) rfl ?_
              refine e_iload dX12_moves_99 rfl ?_
              refine e_aload_n dX12_moves_101 rfl ?_
              refine e_get (.ref (m + 16)) dX12_moves_102 tf_12_56 (rk_s k21) (congrArg va_rf (rk_r16 k21)) ?_
              refine e_iload dX12_moves_105 rfl ?_
              refine z_ild (r d) dX12_moves_107 (rk_a16 k21) (by decide) (by omega) (by omega) (RW.2 d (by omega) (by omega)) ?_
              have y43 := isRw_f RW.1.1 (show 0 ≤ d by omega) (by omega)
              have y44 := RW.1.2 d (by omega) (by omega)
              refine z_bipush (6) dX12_moves_108 rfl ?_
              refine z_icmp_ge 129 dX12_moves_110 rfl ⟨by omega, by omega⟩ ⟨by omega, by omega⟩ (fun c45 => ?_) (fun c45 => ?_)
              · skip
                refine z_iconst (0) dX12_moves_129 rfl ?_
                refine z_iadd dX12_moves_130 ?_
                refine e_istore (L' := [_, _, _, _, _, _, _, _]) dX12_moves_131 (Nat.le_of_ble_eq_true rfl) rfl ?_
                refine z_iinc (L' := [_, _, _, _, _, _, _, _]) dX12_moves_133 rfl rfl ?_
                refine e_goto 38 dX12_moves_136 rfl ?_
                exact mEv_wk (by exact ⟨Or.inr rfl, Or.inr rfl, Or.inr rfl, Or.inr rfl, Or.inr rfl, Or.inr rfl, Or.inr rfl, Or.inl rfl, trivial⟩) (ih28 _ (by omega) (s + 0) (t + 0) (d + 1)  rfl  (by omega) (by omega) (by rw [sumZ_s (by omega), tlR_m (by omega) (by omega)]; first | (rw [if_pos (by omega)]; first | (rw [bZ_1 (by omega)]; omega) | (rw [bZ_0 (by omega)]; omega)) | (rw [if_neg (by omega)]; first | (rw [bZ_1 (by omega)]; omega) | (rw [bZ_0 (by omega)]; omega))) (by rw [sumZ_s (by omega), tlR_m (by omega) (by omega)]; first | (rw [if_pos (by omega)]; first | (rw [bZ_1 (by omega)]; omega) | (rw [bZ_0 (by omega)]; omega)) | (rw [if_neg (by omega)]; first | (rw [bZ_1 (by omega)]; omega) | (rw [bZ_0 (by omega)]; omega))))
              · skip
                refine e_iload dX12_moves_113 rfl ?_
                refine e_aload_n dX12_moves_115 rfl ?_
                refine e_get (.ref (m + 16)) dX12_moves_116 tf_12_56 (rk_s k21) (congrArg va_rf (rk_r16 k21)) ?_
                refine e_iload dX12_moves_119 rfl ?_
                refine z_ild (r d) dX12_moves_121 (rk_a16 k21) (by decide) (by omega) (by omega) (RW.2 d (by omega) (by omega)) ?_
                have y46 := isRw_f RW.1.1 (show 0 ≤ d by omega) (by omega)
                have y47 := RW.1.2 d (by omega) (by omega)
                refine z_icmp_eq 129 dX12_moves_122 rfl ⟨by omega, by omega⟩ ⟨by omega, by omega⟩ (fun c48 => ?_) (fun c48 => ?_)
                · skip
                  refine z_iconst (0) dX12_moves_129 rfl ?_
                  refine z_iadd dX12_moves_130 ?_
                  refine e_istore (L' := [_, _, _, _, _, _, _, _]) dX12_moves_131 (Nat.le_of_ble_eq_true rfl) rfl ?_
                  refine z_iinc (L' := [_, _, _, _, _, _, _, _]) dX12_moves_133 rfl rfl ?_
                  refine e_goto 38 dX12_moves_136 rfl ?_
                  exact mEv_wk (by exact ⟨Or.inr rfl, Or.inr rfl, Or.inr rfl, Or.inr rfl, Or.inr rfl, Or.inr rfl, Or.inr rfl, Or.inl rfl, trivial⟩) (ih28 _ (by omega) (s + 0) (t + 0) (d + 1)  rfl  (by omega) (by omega) (by rw [sumZ_s (by omega), tlR_m (by omega) (by omega)]; first | (rw [if_pos (by omega)]; first | (rw [bZ_1 (by omega)]; omega) | (rw [bZ_0 (by omega)]; omega)) | (rw [if_neg (by omega)]; first | (rw [bZ_1 (by omega)]; omega) | (rw [bZ_0 (by omega)]; omega))) (by rw [sumZ_s (by omega), tlR_m (by omega) (by omega)]; first | (rw [if_pos (by omega)]; first | (rw [bZ_1 (by omega)]; omega) | (rw [bZ_0 (by omega)]; omega)) | (rw [if_neg (by omega)]; first | (rw [bZ_1 (by omega)]; omega) | (rw [bZ_0 (by omega)]; omega))))
                · skip
                  refine z_iconst (1) dX12_moves_125 rfl ?_
                  refine e_goto 130 dX12_moves_126 rfl ?_
                  refine z_iadd dX12_moves_130 ?_
                  refine e_istore (L' := [_, _, _, _, _, _, _, _]) dX12_moves_131 (Nat.le_of_ble_eq_true rfl) rfl ?_
                  refine z_iinc (L' := [_, _, _, _, _, _, _, _]) dX12_moves_133 rfl rfl ?_
                  refine e_goto 38 dX12_moves_136 rfl ?_
                  exact mEv_wk (by exact ⟨Or.inr rfl, Or.inr rfl, Or.inr rfl, Or.inr rfl, Or.inr rfl, Or.inr rfl, Or.inr rfl, Or.inl rfl, trivial⟩) (ih28 _ (by omega) (s + 0) (t + 1) (d + 1)  rfl  (by omega) (by omega) (by rw [sumZ_s (by omega), tlR_m (by omega) (by omega)]; first | (rw [if_pos (by omega)]; first | (rw [bZ_1 (by omega)]; omega) | (rw [bZ_0 (by omega)]; omega)) | (rw [if_neg (by omega)]; first | (rw [bZ_1 (by omega)]; omega) | (rw [bZ_0 (by omega)]; omega))) (by rw [sumZ_s (by omega), tlR_m (by omega) (by omega)]; first | (rw [if_pos (by omega)]; first | (rw [bZ_1 (by omega)]; omega) | (rw [bZ_0 (by omega)]; omega)) | (rw [if_neg (by omega)]; first | (rw [bZ_1 (by omega)]; omega) | (rw [bZ_0 (by omega)]; omega))))
            · skip
              refine e_iload dX12_moves_79 rfl ?_
              refine e_aload_n dX12_moves_81 rfl ?_
              refine e_get (.ref (m + 16)) dX12_moves_82 tf_12_56 (rk_s k21) (congrArg va_rf (rk_r16 k21)) ?_
              refine e_iload dX12_moves_85 rfl ?_
              refine z_ild (r d) dX12_moves_87 (rk_a16 k21) (by decide) (by omega) (by omega) (RW.2 d (by omega) (by omega)) ?_
              have y49 := isRw_f RW.1.1 (show 0 ≤ d by omega) (by omega)
              have y50 := RW.1.2 d (by omega) (by omega)
              refine z_icmp_eq 95 dX12_moves_88 rfl ⟨by omega, by omega⟩ ⟨by omega, by omega⟩ (fun c51 => ?_) (fun c51 => ?_)
              · skip
                refine z_iconst (0) dX12_moves_95 rfl ?_
                refine z_iadd dX12_moves_96 ?_
                refine e_istore (L' := [_, _, _, _, _, _, _, _]) dX12_moves_97 (Nat.le_of_ble_eq_true rfl) rfl ?_
                refine e_iload dX12_moves_99 rfl ?_
                refine e_aload_n dX12_moves_101 rfl ?_
                refine e_get (.ref (m + 16)) dX12_moves_102 tf_12_56 (rk_s k21) (congrArg va_rf (rk_r16 k21)) ?_
                refine e_iload dX12_moves_105 rfl ?_
                refine z_ild (r d) dX12_moves_107 (rk_a16 k21) (by decide) (by omega) (by omega) (RW.2 d (by omega) (by omega)) ?_
                have y52 := isRw_f RW.1.1 (show 0 ≤ d by omega) (by omega)
                have y53 := RW.1.2 d (by omega) (by omega)
                refine z_bipush (6) dX12_moves_108 rfl ?_
                refine z_icmp_ge 129 dX12_moves_110 rfl ⟨by omega, by omega⟩ ⟨by omega, by omega⟩ (fun c54 => ?_) (fun c54 => ?_)
                · skip
                  refine z_iconst (0) dX12_moves_129 rfl ?_
                  refine z_iadd dX12_moves_130 ?_
                  refine e_istore (L' := [_, _, _, _, _, _, _, _]) dX12_moves_131 (Nat.le_of_ble_eq_true rfl) rfl ?_
                  refine z_iinc (L' := [_, _, _, _, _, _, _, _]) dX12_moves_133 rfl rfl ?_
                  refine e_goto 38 dX12_moves_136 rfl ?_
                  exact mEv_wk (by exact ⟨Or.inr rfl, Or.inr rfl, Or.inr rfl, Or.inr rfl, Or.inr rfl, Or.inr rfl, Or.inr rfl, Or.inl rfl, trivial⟩) (ih28 _ (by omega) (s + 0) (t + 0) (d + 1)  rfl  (by omega) (by omega) (by rw [sumZ_s (by omega), tlR_m (by omega) (by omega)]; first | (rw [if_pos (by omega)]; first | (rw [bZ_1 (by omega)]; omega) | (rw [bZ_0 (by omega)]; omega)) | (rw [if_neg (by omega)]; first | (rw [bZ_1 (by omega)]; omega) | (rw [bZ_0 (by omega)]; omega))) (by rw [sumZ_s (by omega), tlR_m (by omega) (by omega)]; first | (rw [if_pos (by omega)]; first | (rw [bZ_1 (by omega)]; omega) | (rw [bZ_0 (by omega)]; omega)) | (rw [if_neg (by omega)]; first | (rw [bZ_1 (by omega)]; omega) | (rw [bZ_0 (by omega)]; omega))))
                · skip
                  refine e_iload dX12_moves_113 rfl ?_
                  refine e_aload_n dX12_moves_115 rfl ?_
                  refine e_get (.ref (m + 16)) dX12_moves_116 tf_12_56 (rk_s k21) (congrArg va_rf (rk_r16 k21)) ?_
                  refine e_iload dX12_moves_119 rfl ?_
                  refine z_ild (r d) dX12_moves_121 (rk_a16 k21) (by decide) (by omega) (by omega) (RW.2 d (by omega) (by omega)) ?_
                  have y55 := isRw_f RW.1.1 (show 0 ≤ d by omega) (by omega)
                  have y56 := RW.1.2 d (by omega) (by omega)
                  refine z_icmp_eq 129 dX12_moves_122 rfl ⟨by omega, by omega⟩ ⟨by omega, by omega⟩ (fun c57 => ?_) (fun c57 => ?_)
                  · skip
                    refine z_iconst (0) dX12_moves_129 rfl ?_
                    refine z_iadd dX12_moves_130 ?_
                    refine e_istore (L' := [_, _, _, _, _, _, _, _]) dX12_moves_131 (Nat.le_of_ble_eq_true rfl) rfl ?_
                    refine z_iinc (L' := [_, _, _, _, _, _, _, _]) dX12_moves_133 rfl rfl ?_
                    refine e_goto 38 dX12_moves_136 rfl ?_
                    exact mEv_wk (by exact ⟨Or.inr rfl, Or.inr rfl, Or.inr rfl, Or.inr rfl, Or.inr rfl, Or.inr rfl, Or.inr rfl, Or.inl rfl, trivial⟩) (ih28 _ (by omega) (s + 0) (t + 0) (d + 1)  rfl  (by omega) (by omega) (by rw [sumZ_s (by omega), tlR_m (by omega) (by omega)]; first | (rw [if_pos (by omega)]; first | (rw [bZ_1 (by omega)]; omega) | (rw [bZ_0 (by omega)]; omega)) | (rw [if_neg (by omega)]; first | (rw [bZ_1 (by omega)]; omega) | (rw [bZ_0 (by omega)]; omega))) (by rw [sumZ_s (by omega), tlR_m (by omega) (by omega)]; first | (rw [if_pos (by omega)]; first | (rw [bZ_1 (by omega)]; omega) | (rw [bZ_0 (by omega)]; omega)) | (rw [if_neg (by omega)]; first | (rw [bZ_1 (by omega)]; omega) | (rw [bZ_0 (by omega)]; omega))))
                  · skip
                    refine z_iconst (1) dX12_moves_125 rfl ?_
                    refine e_goto 130 dX12_moves_126 rfl ?_
                    refine z_iadd dX12_moves_130 ?_
                    refine e_istore (L' := [_, _, _, _, _, _, _, _]) dX12_moves_131 (Nat.le_of_ble_eq_true rfl) rfl ?_
                    refine z_iinc (L' := [_, _, _, _, _, _, _, _]) dX12_moves_133 rfl rfl ?_
                    refine e_goto 38 dX12_moves_136 rfl ?_
                    exact mEv_wk (by exact ⟨Or.inr rfl, Or.inr rfl, Or.inr rfl, Or.inr rfl, Or.inr rfl, Or.inr rfl, Or.inr rfl, Or.inl rfl, trivial⟩) (ih28 _ (by omega) (s + 0) (t + 1) (d + 1)  rfl  (by omega) (by omega) (by rw [sumZ_s (by omega), tlR_m (by omega) (by omega)]; first | (rw [if_pos (by omega)]; first | (rw [bZ_1 (by omega)]; omega) | (rw [bZ_0 (by omega)]; omega)) | (rw [if_neg (by omega)]; first | (rw [bZ_1 (by omega)]; omega) | (rw [bZ_0 (by omega)]; omega))) (by rw [sumZ_s (by omega), tlR_m (by omega) (by omega)]; first | (rw [if_pos (by omega)]; first | (rw [bZ_1 (by omega)]; omega) | (rw [bZ_0 (by omega)]; omega)) | (rw [if_neg (by omega)]; first | (rw [bZ_1 (by omega)]; omega) | (rw [bZ_0 (by omega)]; omega))))
              · skip
                refine z_iconst (1) dX12_moves_91 rfl ?_
                refine e_goto 96 dX12_moves_92 rfl ?_
                refine z_iadd dX12_moves_96 ?_
                refine e_istore (L' := [_, _, _, _, _, _, _, _]) dX12_moves_97 (Nat.le_of_ble_eq_true rfl) rfl ?_
                refine e_iload dX12_moves_99 rfl ?_
                refine e_aload_n dX12_moves_101 rfl ?_
                refine e_get (.ref (m + 16)) dX12_moves_102 tf_12_56 (rk_s k21) (congrArg va_rf (rk_r16 k21)) ?_
                refine e_iload dX12_moves_105 rfl ?_
                refine z_ild (r d) dX12_moves_107 (rk_a16 k21) (by decide) (by omega) (by omega) (RW.2 d (by omega) (by omega)) ?_
                have y58 := isRw_f RW.1.1 (show 0 ≤ d by omega) (by omega)
                have y59 := RW.1.2 d (by omega) (by omega)
                refine z_bipush (6) dX12_moves_108 rfl ?_
                refine z_icmp_ge 129 dX12_moves_110 rfl ⟨by omega, by omega⟩ ⟨by omega, by omega⟩ (fun c60 => ?_) (fun c60 => ?_)
                · skip
                  refine z_iconst (0) dX12_moves_129 rfl ?_
                  refine z_iadd dX12_moves_130 ?_
                  refine e_istore (L' := [_, _, _, _, _, _, _, _]) dX12_moves_131 (Nat.le_of_ble_eq_true rfl) rfl ?_
                  refine z_iinc (L' := [_, _, _, _, _, _, _, _]) dX12_moves_133 rfl rfl ?_
                  refine e_goto 38 dX12_moves_136 rfl ?_
                  exact mEv_wk (by exact ⟨Or.inr rfl, Or.inr rfl, Or.inr rfl, Or.inr rfl, Or.inr rfl, Or.inr rfl, Or.inr rfl, Or.inl rfl, trivial⟩) (ih28 _ (by omega) (s + 1) (t + 0) (d + 1)  rfl  (by omega) (by omega) (by rw [sumZ_s (by omega), tlR_m (by omega) (by omega)]; first | (rw [if_pos (by omega)]; first | (rw [bZ_1 (by omega)]; omega) | (rw [bZ_0 (by omega)]; omega)) | (rw [if_neg (by omega)]; first | (rw [bZ_1 (by omega)]; omega) | (rw [bZ_0 (by omega)]; omega))) (by rw [sumZ_s (by omega), tlR_m (by omega) (by omega)]; first | (rw [if_pos (by omega)]; first | (rw [bZ_1 (by omega)]; omega) | (rw [bZ_0 (by omega)]; omega)) | (rw [if_neg (by omega)]; first | (rw [bZ_1 (by omega)]; omega) | (rw [bZ_0 (by omega)]; omega))))
                · skip
                  refine e_iload dX12_moves_113 rfl ?_
                  refine e_aload_n dX12_moves_115 rfl ?_
                  refine e_get (.ref (m + 16)) dX12_moves_116 tf_12_56 (rk_s k21) (congrArg va_rf (rk_r16 k21)) ?_
                  refine e_iload dX12_moves_119 rfl ?_
                  refine z_ild (r d) dX12_moves_121 (rk_a16 k21) (by decide) (by omega) (by omega) (RW.2 d (by omega) (by omega)) ?_
                  have y61 := isRw_f RW.1.1 (show 0 ≤ d by omega) (by omega)
                  have y62 := RW.1.2 d (by omega) (by omega)
                  refine z_icmp_eq 129 dX12_moves_122 rfl ⟨by omega, by omega⟩ ⟨by omega, by omega⟩ (fun c63 => ?_) (fun c63 => ?_)
                  · skip
                    refine z_iconst (0) dX12_moves_129 rfl ?_
                    refine z_iadd dX12_moves_130 ?_
                    refine e_istore (L' := [_, _, _, _, _, _, _, _]) dX12_moves_131 (Nat.le_of_ble_eq_true rfl) rfl ?_
                    refine z_iinc (L' := [_, _, _, _, _, _, _, _]) dX12_moves_133 rfl rfl ?_
                    refine e_goto 38 dX12_moves_136 rfl ?_
                    exact mEv_wk (by exact ⟨Or.inr rfl, Or.inr rfl, Or.inr rfl, Or.inr rfl, Or.inr rfl, Or.inr rfl, Or.inr rfl, Or.inl rfl, trivial⟩) (ih28 _ (by omega) (s + 1) (t + 0) (d + 1)  rfl  (by omega) (by omega) (by rw [sumZ_s (by omega), tlR_m (by omega) (by omega)]; first | (rw [if_pos (by omega)]; first | (rw [bZ_1 (by omega)]; omega) | (rw [bZ_0 (by omega)]; omega)) | (rw [if_neg (by omega)]; first | (rw [bZ_1 (by omega)]; omega) | (rw [bZ_0 (by omega)]; omega))) (by rw [sumZ_s (by omega), tlR_m (by omega) (by omega)]; first | (rw [if_pos (by omega)]; first | (rw [bZ_1 (by omega)]; omega) | (rw [bZ_0 (by omega)]; omega)) | (rw [if_neg (by omega)]; first | (rw [bZ_1 (by omega)]; omega) | (rw [bZ_0 (by omega)]; omega))))
                  · skip
                    refine z_iconst (1) dX12_moves_125 rfl ?_
                    refine e_goto 130 dX12_moves_126 rfl ?_
                    refine z_iadd dX12_moves_130 ?_
                    refine e_istore (L' := [_, _, _, _, _, _, _, _]) dX12_moves_131 (Nat.le_of_ble_eq_true rfl) rfl ?_
                    refine z_iinc (L' := [_, _, _, _, _, _, _, _]) dX12_moves_133 rfl rfl ?_
                    refine e_goto 38 dX12_moves_136 rfl ?_
                    exact mEv_wk (by exact ⟨Or.inr rfl, Or.inr rfl, Or.inr rfl, Or.inr rfl, Or.inr rfl, Or.inr rfl, Or.inr rfl, Or.inl rfl, trivial⟩) (ih28 _ (by omega) (s + 1) (t + 1) (d + 1)  rfl  (by omega) (by omega) (by rw [sumZ_s (by omega), tlR_m (by omega) (by omega)]; first | (rw [if_pos (by omega)]; first | (rw [bZ_1 (by omega)]; omega) | (rw [bZ_0 (by omega)]; omega)) | (rw [if_neg (by omega)]; first | (rw [bZ_1 (by omega)]; omega) | (rw [bZ_0 (by omega)]; omega))) (by rw [sumZ_s (by omega), tlR_m (by omega) (by omega)]; first | (rw [if_pos (by omega)]; first | (rw [bZ_1 (by omega)]; omega) | (rw [bZ_0 (by omega)]; omega)) | (rw [if_neg (by omega)]; first | (rw [bZ_1 (by omega)]; omega) | (rw [bZ_0 (by omega)]; omega))))
      exact lp28 _ 0 0 0  rfl  (by omega) (by omega) rfl rfl
    · exfalso; omega
set_option maxHeartbeats 1000000 in
theorem zp_X12_rows_0 {ad : mA} {dd : Nat} {h : mH} {Q : mQ} {m : Nat} {σ : Sg} (hk : rk h m) (HR : refT h m 0 σ)  (f : Int) (f_r : -2147483648 ≤ f ∧ f < 2147483648) (p1 : 0 ≤ f) (p2 : f < cn σ 0) (kq : ∀ v : Int, (rwsP (sG σ f) 0 v) → ∀ h1, frm (fun a i => a = m ∨ (m + 9 ≤ a ∧ a < m + 30)) h h1 → Q (some (.int (zI v))) h1) : mCal TB0 ad (dd + 8) M_X12_rows [.ref m, .int (zI f), .int (zI 0)] h 0 0 Q := by
  refine ⟨Nat.le_of_ble_eq_true rfl, ?_⟩
  show mEv TB0 ad M_X12_rows (dd + 8) (0, 0) (mCal TB0 ad (dd + 7)) (fun v h' z => z.1 = 0 ∧ Q v h') 0 [some (.ref m), some (.int (zI f)), some (.int (zI 0))] [] h (0, 0)
  have FR0 : frm (fun a i => a = m ∨ (m + 9 ≤ a ∧ a < m + 30)) h h := frm_0 h
  have w1 := wS_n (refT_w HR)
  have W := (refT_w HR).2.2.1 f p1 p2
  refine e_aload_n dX12_rows_0 rfl ?_
  refine z_iconst (0) dX12_rows_1 rfl ?_
  refine z_put dX12_rows_2 tf_12_103 (rk_s hk) rfl (Or.inl rfl) (fun h1 e2 => ?_)
  have f3 := frm_1 e2
  have k4 := rk_q (frm_s f3) hk
  have H5 := refT_c f3 (fun a k q1 q2 => by omega) HR
  have FR6 := frm_t FR0 (frm_m (S' := (fun a i => a = m ∨ (m + 9 ≤ a ∧ a < m + 30))) f3 (fun a k q => by omega))
  refine e_aload_n dX12_rows_5 rfl ?_
  refine e_iload_n dX12_rows_6 rfl ?_
  refine e_callV [.int _] dX12_rows_7 tm_12_292 rfl (Nat.le_of_ble_eq_true rfl) (rk_s k4) (Nat.le_of_ble_eq_true rfl) (Nat.le_refl _) (Nat.le_refl _) rfl (zp_X12_hand_in k4 H5 f ⟨by omega, by omega⟩ (by omega) (by omega) (fun  h7 f8 p9 p10 p11 p12 => ?_))
  have k13 := rk_q (frm_s f8) k4
  have H14 := refT_c f8 (fun a k q1 q2 => by omega) H5
  have FR15 := frm_t FR6 (frm_m (S' := (fun a i => a = m ∨ (m + 9 ≤ a ∧ a < m + 30))) f8 (fun a k q => by omega))
  have w5 := rB_n p9
  have w6 := rC_n p11
  refine z_ifb_eq 22 dX12_rows_10 rfl (fun c16 => ?_) (fun c16 => ?_)
  · exact absurd trivial c16
  · skip
    refine e_iload_n dX12_rows_13 rfl ?_
    refine z_iconst (0) dX12_rows_14 rfl ?_
    refine z_iconst (3) dX12_rows_15 rfl ?_
    refine e_callS [.int _, .int _, .int _] dX12_rows_16 tm_12_115 rfl (Nat.le_of_ble_eq_true rfl) (Nat.le_refl _) (Nat.le_refl _) rfl (zp_X12_in 0 ⟨by omega, by omega⟩ 0 ⟨by omega, by omega⟩ 3 ⟨by omega, by omega⟩ ?_)
    refine z_ifb_ne 24 dX12_rows_19 rfl (fun c17 => ?_) (fun c17 => ?_)
    · skip
      refine e_iload_n dX12_rows_24 rfl ?_
      refine z_iconst (2) dX12_rows_25 rfl ?_
      refine z_icmp_ne 45 dX12_rows_26 rfl ⟨by omega, by omega⟩ ⟨by omega, by omega⟩ (fun c18 => ?_) (fun c18 => ?_)
      · skip
        refine e_aload_n dX12_rows_45 rfl ?_
        refine e_iload_n dX12_rows_46 rfl ?_
        refine z_iconst (1) dX12_rows_47 rfl ?_
        refine z_icmp_ne 55 dX12_rows_48 rfl ⟨by omega, by omega⟩ ⟨by omega, by omega⟩ (fun c19 => ?_) (fun c19 => ?_)
        · skip
          refine e_iload_n dX12_rows_55 rfl ?_
          refine z_iconst (2) dX12_rows_56 rfl ?_
          refine z_icmp_ne 64 dX12_rows_57 rfl ⟨by omega, by omega⟩ ⟨by omega, by omega⟩ (fun c20 => ?_) (fun c20 => ?_)
          · skip
            refine z_iconst (3) dX12_rows_64 rfl ?_
            refine e_callV [.int _] dX12_rows_65 tm_12_439 rfl (Nat.le_of_ble_eq_true rfl) (rk_s k13) (Nat.le_of_ble_eq_true rfl) (Nat.le_refl _) (Nat.le_refl _) rfl (zp_X12_findBest_3 k13 p9 p10 (fun  h21 f22 p23 => ?_))
            have k24 := rk_q (frm_s f22) k13
            have H25 := refT_c f22 (fun a k q1 q2 => by omega) H14
            have H26 := rB_c f22 (fun a k q => by omega) p9
            have H27 := rM_c f22 (fun a k q => by omega) p10
            have H28 := rC_c f22 (fun a k q => by omega) p11
            have H29 := rK_c f22 (fun a k q1 q2 => by omega) p12
            have FR30 := frm_t FR15 (frm_m (S' := (fun a i => a = m ∨ (m + 9 ≤ a ∧ a < m + 30))) f22 (fun a k q => by omega))
            obtain ⟨bv, Z1, Z2, Z3, Z4⟩ := p23
            have zb := wtB_b (g := (sG σ f)) (by omega) 3 (dgZ bv)
            have zb : -1000000 ≤ wtK (sG σ f) 3 bv ∧ wtK (sG σ f) 3 bv ≤ 1000000 := zb
            refine e_iload_n dX12_rows_68 rfl ?_
            refine z_if_ne 80 dX12_rows_69 rfl ⟨by omega, by omega⟩ (fun c31 => ?_) (fun c31 => ?_)
            · exfalso; omega
            · skip
              refine e_aload_n dX12_rows_72 rfl ?_
              refine z_get (wtK (sG σ f) 3 bv) dX12_rows_73 tf_12_419 (rk_s k24) (Or.inl rfl) Z3 ?_
              refine z_ineg dX12_rows_76 ?_
              refine e_goto 96 dX12_rows_77 rfl ?_
              refine z_iret dX12_rows_96 rfl ⟨rfl, ?_⟩
              refine kq _ ?_ _ FR30
              exact Or.inl ⟨rfl, dgZ bv, (va3 (by omega)).mp (fmax_p Z1.2 (by omega)) |>.1, (va3 (by omega)).mp (fmax_p Z1.2 (by omega)) |>.2, by
                have q := (lvN_0 (g := (sG σ f)) (r := dgZ bv) (by omega)).mpr ((va3 (by omega)).mp (fmax_p Z1.2 (by omega))).2
                show -(wtB (sG σ f) 3 (dgZ bv)) = _
                unfold wtB
                rw [if_pos rfl, if_neg (by omega)]; omega⟩
          · exfalso; omega
        · exfalso; omega
      · exfalso; omega
    · exfalso; omega
set_option maxHeartbeats 1000000 in
theorem zp_X12_rows_1 {ad : mA} {dd : Nat} {h : mH} {Q : mQ} {m : Nat} {σ : Sg} (hk : rk h m) (HR : refT h m 0 σ)  (f : Int) (f_r : -2147483648 ≤ f ∧ f < 2147483648) (p1 : 0 ≤ f) (p2 : f < cn σ 0) (kq : ∀ v : Int, (rwsP (sG σ f) 1 v) → ∀ h1, frm (fun a i => a = m ∨ (m + 9 ≤ a ∧ a < m + 30)) h h1 → Q (some (.int (zI v))) h1) : mCal TB0 ad (dd + 8) M_X12_rows [.ref m, .int (zI f), .int (zI 1)] h 0 0 Q := by
  refine ⟨Nat.le_of_ble_eq_true rfl, ?_⟩
  show mEv TB0 ad M_X12_rows (dd + 8) (0, 0) (mCal TB0 ad (dd + 7)) (fun v h' z => z.1 = 0 ∧ Q v h') 0 [some (.ref m), some (.int (zI f)), some (.int (zI 1))] [] h (0, 0)
  have FR0 : frm (fun a i => a = m ∨ (m + 9 ≤ a ∧ a < m + 30)) h h := frm_0 h
  have w1 := wS_n (refT_w HR)
  have W := (refT_w HR).2.2.1 f p1 p2
  refine e_aload_n dX12_rows_0 rfl ?_
  refine z_iconst (0) dX12_rows_1 rfl ?_
  refine z_put dX12_rows_2 tf_12_103 (rk_s hk) rfl (Or.inl rfl) (fun h1 e2 => ?_)
  have f3 := frm_1 e2
  have k4 := rk_q (frm_s f3) hk
  have H5 := refT_c f3 (fun a k q1 q2 => by omega) HR
  have FR6 := frm_t FR0 (frm_m (S' := (fun a i => a = m ∨ (m + 9 ≤ a ∧ a < m + 30))) f3 (fun a k q => by omega))
  refine e_aload_n dX12_rows_5 rfl ?_
  refine e_iload_n dX12_rows_6 rfl ?_
  refine e_callV [.int _] dX12_rows_7 tm_12_292 rfl (Nat.le_of_ble_eq_true rfl) (rk_s k4) (Nat.le_of_ble_eq_true rfl) (Nat.le_refl _) (Nat.le_refl _) rfl (zp_X12_hand_in k4 H5 f ⟨by omega, by omega⟩ (by omega) (by omega) (fun  h7 f8 p9 p10 p11 p12 => ?_))
  have k13 := rk_q (frm_s f8) k4
  have H14 := refT_c f8 (fun a k q1 q2 => by omega) H5
  have FR15 := frm_t FR6 (frm_m (S' := (fun a i => a = m ∨ (m + 9 ≤ a ∧ a < m + 30))) f8 (fun a k q => by omega))
  have w5 := rB_n p9
  have w6 := rC_n p11
  refine z_ifb_eq 22 dX12_rows_10 rfl (fun c16 => ?_) (fun c16 => ?_)
  · exact absurd trivial c16
  · skip
    refine e_iload_n dX12_rows_13 rfl ?_
    refine z_iconst (0) dX12_rows_14 rfl ?_
    refine z_iconst (3) dX12_rows_15 rfl ?_
    refine e_callS [.int _, .int _, .int _] dX12_rows_16 tm_12_115 rfl (Nat.le_of_ble_eq_true rfl) (Nat.le_refl _) (Nat.le_refl _) rfl (zp_X12_in 1 ⟨by omega, by omega⟩ 0 ⟨by omega, by omega⟩ 3 ⟨by omega, by omega⟩ ?_)
    refine z_ifb_ne 24 dX12_rows_19 rfl (fun c17 => ?_) (fun c17 => ?_)
    · skip
      refine e_iload_n dX12_rows_24 rfl ?_
      refine z_iconst (2) dX12_rows_25 rfl ?_
      refine z_icmp_ne 45 dX12_rows_26 rfl ⟨by omega, by omega⟩ ⟨by omega, by omega⟩ (fun c18 => ?_) (fun c18 => ?_)
      · skip
        refine e_aload_n dX12_rows_45 rfl ?_
        refine e_iload_n dX12_rows_46 rfl ?_
        refine z_iconst (1) dX12_rows_47 rfl ?_
        refine z_icmp_ne 55 dX12_rows_48 rfl ⟨by omega, by omega⟩ ⟨by omega, by omega⟩ (fun c19 => ?_) (fun c19 => ?_)
        · exfalso; omega
        · skip
          refine z_iconst (4) dX12_rows_51 rfl ?_
          refine e_goto 65 dX12_rows_52 rfl ?_
          refine e_callV [.int _] dX12_rows_65 tm_12_439 rfl (Nat.le_of_ble_eq_true rfl) (rk_s k13) (Nat.le_of_ble_eq_true rfl) (Nat.le_refl _) (Nat.le_refl _) rfl (zp_X12_findBest_4 k13 p9 p10 (fun  h20 f21 p22 => ?_))
          have k23 := rk_q (frm_s f21) k13
          have H24 := refT_c f21 (fun a k q1 q2 => by omega) H14
          have H25 := rB_c f21 (fun a k q => by omega) p9
          have H26 := rM_c f21 (fun a k q => by omega) p10
          have H27 := rC_c f21 (fun a k q => by omega) p11
          have H28 := rK_c f21 (fun a k q1 q2 => by omega) p12
          have FR29 := frm_t FR15 (frm_m (S' := (fun a i => a = m ∨ (m + 9 ≤ a ∧ a < m + 30))) f21 (fun a k q => by omega))
          obtain ⟨bv, Z1, Z2, Z3, Z4⟩ := p22
          have zb := wtB_b (g := (sG σ f)) (by omega) 4 (dgZ bv)
          have zb : -1000000 ≤ wtK (sG σ f) 4 bv ∧ wtK (sG σ f) 4 bv ≤ 1000000 := zb
          refine e_iload_n dX12_rows_68 rfl ?_
          refine z_if_ne 80 dX12_rows_69 rfl ⟨by omega, by omega⟩ (fun c30 => ?_) (fun c30 => ?_)
          · skip
            refine e_iload_n dX12_rows_80 rfl ?_
            refine z_iconst (3) dX12_rows_81 rfl ?_
            refine z_icmp_ne 92 dX12_rows_82 rfl ⟨by omega, by omega⟩ ⟨by omega, by omega⟩ (fun c31 => ?_) (fun c31 => ?_)
            · skip
              refine e_aload_n dX12_rows_92 rfl ?_
              refine z_get (wtK (sG σ f) 4 bv) dX12_rows_93 tf_12_419 (rk_s k23) (Or.inl rfl) Z3 ?_
              refine z_iret dX12_rows_96 rfl ⟨rfl, ?_⟩
              refine kq _ ?_ _ FR29
              exact Or.inr (Or.inl ⟨rfl, bv, Z1.2, rfl⟩)
            · exfalso; omega
          · exfalso; omega
      · exfalso; omega
    · exfalso; omega
set_option maxHeartbeats 1000000 in
theorem zp_X12_rows_2 {ad : mA} {dd : Nat} {h : mH} {Q : mQ} {m : Nat} {σ : Sg} (hk : rk h m) (HR : refT h m 0 σ)  (f : Int) (f_r : -2147483648 ≤ f ∧ f < 2147483648) (p1 : 0 ≤ f) (p2 : f < cn σ 0) (kq : ∀ v : Int, (rwsP (sG σ f) 2 v) → ∀ h1, frm (fun a i => a = m ∨ (m + 9 ≤ a ∧ a < m + 30)) h h1 → Q (some (.int (zI v))) h1) : mCal TB0 ad (dd + 8) M_X12_rows [.ref m, .int (zI f), .int (zI 2)] h 0 0 Q := by
  refine ⟨Nat.le_of_ble_eq_true rfl, ?_⟩
  show mEv TB0 ad M_X12_rows (dd + 8) (0, 0) (mCal TB0 ad (dd + 7)) (fun v h' z => z.1 = 0 ∧ Q v h') 0 [some (.ref m), some (.int (zI f)), some (.int (zI 2))] [] h (0, 0)
  have FR0 : frm (fun a i => a = m ∨ (m + 9 ≤ a ∧ a < m + 30)) h h := frm_0 h
  have w1 := wS_n (refT_w HR)
  have W := (refT_w HR).2.2.1 f p1 p2
  refine e_aload_n dX12_rows_0 rfl ?_
  refine z_iconst (0) dX12_rows_1 rfl ?_
  refine z_put dX12_rows_2 tf_12_103 (rk_s hk) rfl (Or.inl rfl) (fun h1 e2 => ?_)
  have f3 := frm_1 e2
  have k4 := rk_q (frm_s f3) hk
  have H5 := refT_c f3 (fun a k q1 q2 => by omega) HR
  have FR6 := frm_t FR0 (frm_m (S' := (fun a i => a = m ∨ (m + 9 ≤ a ∧ a < m + 30))) f3 (fun a k q => by omega))
  refine e_aload_n dX12_rows_5 rfl ?_
  refine e_iload_n dX12_rows_6 rfl ?_
  refine e_callV [.int _] dX12_rows_7 tm_12_292 rfl (Nat.le_of_ble_eq_true rfl) (rk_s k4) (Nat.le_of_ble_eq_true rfl) (Nat.le_refl _) (Nat.le_refl _) rfl (zp_X12_hand_in k4 H5 f ⟨by omega, by omega⟩ (by omega) (by omega) (fun  h7 f8 p9 p10 p11 p12 => ?_))
  have k13 := rk_q (frm_s f8) k4
  have H14 := refT_c f8 (fun a k q1 q2 => by omega) H5
  have FR15 := frm_t FR6 (frm_m (S' := (fun a i => a = m ∨ (m + 9 ≤ a ∧ a < m + 30))) f8 (fun a k q => by omega))
  have w5 := rB_n p9
  have w6 := rC_n p11
  refine z_ifb_eq 22 dX12_rows_10 rfl (fun c16 => ?_) (fun c16 => ?_)
  · exact absurd trivial c16
  · skip
    refine e_iload_n dX12_rows_13 rfl ?_
    refine z_iconst (0) dX12_rows_14 rfl ?_
    refine z_iconst (3) dX12_rows_15 rfl ?_
    refine e_callS [.int _, .int _, .int _] dX12_rows_16 tm_12_115 rfl (Nat.le_of_ble_eq_true rfl) (Nat.le_refl _) (Nat.le_refl _) rfl (zp_X12_in 2 ⟨by omega, by omega⟩ 0 ⟨by omega, by omega⟩ 3 ⟨by omega, by omega⟩ ?_)
    refine z_ifb_ne 24 dX12_rows_19 rfl (fun c17 => ?_) (fun c17 => ?_)
    · skip
      refine e_iload_n dX12_rows_24 rfl ?_
      refine z_iconst (2) dX12_rows_25 rfl ?_
      refine z_icmp_ne 45 dX12_rows_26 rfl ⟨by omega, by omega⟩ ⟨by omega, by omega⟩ (fun c18 => ?_) (fun c18 => ?_)
      · exfalso; omega
      · skip
        refine e_aload_n dX12_rows_29 rfl ?_
        refine z_get (nd (sG σ f)) dX12_rows_30 tf_12_271 (rk_s k13) (Or.inl rfl) (rB_nd p9) ?_
        have y19 := rB_n p9
        refine e_aload_n dX12_rows_33 rfl ?_
        refine z_get (nu (sG σ f)) dX12_rows_34 tf_12_274 (rk_s k13) (Or.inl rfl) (rB_nu p9) ?_
        have y20 := rB_n p9
        refine e_callS [.int _, .int _] dX12_rows_37 tm_12_340 rfl (Nat.le_of_ble_eq_true rfl) (Nat.le_refl _) (Nat.le_refl _) rfl (zp_X12_lesser (nd (sG σ f)) ⟨by omega, by omega⟩ (nu (sG σ f)) ⟨by omega, by omega⟩ ?_)
        refine z_if_ne 45 dX12_rows_40 rfl ⟨by omega, by omega⟩ (fun c21 => ?_) (fun c21 => ?_)
        · skip
          refine e_aload_n dX12_rows_45 rfl ?_
          refine e_iload_n dX12_rows_46 rfl ?_
          refine z_iconst (1) dX12_rows_47 rfl ?_
          refine z_icmp_ne 55 dX12_rows_48 rfl ⟨by omega, by omega⟩ ⟨by omega, by omega⟩ (fun c22 => ?_) (fun c22 => ?_)
          · skip
            refine e_iload_n dX12_rows_55 rfl ?_
            refine z_iconst (2) dX12_rows_56 rfl ?_
            refine z_icmp_ne 64 dX12_rows_57 rfl ⟨by omega, by omega⟩ ⟨by omega, by omega⟩ (fun c23 => ?_) (fun c23 => ?_)
            · exfalso; omega
            · skip
              refine z_iconst (5) dX12_rows_60 rfl ?_
              refine e_goto 65 dX12_rows_61 rfl ?_
              refine e_callV [.int _] dX12_rows_65 tm_12_439 rfl (Nat.le_of_ble_eq_true rfl) (rk_s k13) (Nat.le_of_ble_eq_true rfl) (Nat.le_refl _) (Nat.le_refl _) rfl (zp_X12_findBest_5 k13 p9 p10 (fun  h24 f25 p26 => ?_))
              have k27 := rk_q (frm_s f25) k13
              have H28 := refT_c f25 (fun a k q1 q2 => by omega) H14
              have H29 := rB_c f25 (fun a k q => by omega) p9
              have H30 := rM_c f25 (fun a k q => by omega) p10
              have H31 := rC_c f25 (fun a k q => by omega) p11
              have H32 := rK_c f25 (fun a k q1 q2 => by omega) p12
              have FR33 := frm_t FR15 (frm_m (S' := (fun a i => a = m ∨ (m + 9 ≤ a ∧ a < m + 30))) f25 (fun a k q => by omega))
              obtain ⟨bv, Z1, Z2, Z3, Z4⟩ := p26
              have zb := wtB_b (g := (sG σ f)) (by omega) 5 (dgZ bv)
              have zb : -1000000 ≤ wtK (sG σ f) 5 bv ∧ wtK (sG σ f) 5 bv ≤ 1000000 := zb
              refine e_iload_n dX12_rows_68 rfl ?_
              refine z_if_ne 80 dX12_rows_69 rfl ⟨by omega, by omega⟩ (fun c34 => ?_) (fun c34 => ?_)
              · skip
                refine e_iload_n dX12_rows_80 rfl ?_
                refine z_iconst (3) dX12_rows_81 rfl ?_
                refine z_icmp_ne 92 dX12_rows_82 rfl ⟨by omega, by omega⟩ ⟨by omega, by omega⟩ (fun c35 => ?_) (fun c35 => ?_)
                · skip
                  refine e_aload_n dX12_rows_92 rfl ?_
                  refine z_get (wtK (sG σ f) 5 bv) dX12_rows_93 tf_12_419 (rk_s k27) (Or.inl rfl) Z3 ?_
                  refine z_iret dX12_rows_96 rfl ⟨rfl, ?_⟩
                  refine kq _ ?_ _ FR33
                  first | exact Or.inr (Or.inr (Or.inl ⟨rfl, Or.inl ⟨by omega, rfl⟩⟩)) | exact Or.inr (Or.inr (Or.inl ⟨rfl, Or.inr ⟨by omega, bv, Z1.2, rfl⟩⟩))
                · exfalso; omega
              · exfalso; omega
          · exfalso; omega
        · skip
          refine z_iconst (-1) dX12_rows_43 rfl ?_
          refine z_iret dX12_rows_44 rfl ⟨rfl, ?_⟩
          refine kq _ ?_ _ FR15
          first | exact Or.inr (Or.inr (Or.inl ⟨rfl, Or.inl ⟨by omega, rfl⟩⟩)) | exact Or.inr (Or.inr (Or.inl ⟨rfl, Or.inr ⟨by omega, bv, Z1.2, rfl⟩⟩))
    · exfalso; omega
set_option maxHeartbeats 1000000 in
theorem zp_X12_rows_3 {ad : mA} {dd : Nat} {h : mH} {Q : mQ} {m : Nat} {σ : Sg} (hk : rk h m) (HR : refT h m 0 σ)  (f : Int) (f_r : -2147483648 ≤ f ∧ f < 2147483648) (p1 : 0 ≤ f) (p2 : f < cn σ 0) (kq : ∀ v : Int, (rwsP (sG σ f) 3 v) → ∀ h1, frm (fun a i => a = m ∨ (m + 9 ≤ a ∧ a < m + 30)) h h1 → Q (some (.int (zI v))) h1) : mCal TB0 ad (dd + 8) M_X12_rows [.ref m, .int (zI f), .int (zI 3)] h 0 0 Q := by
  refine ⟨Nat.le_of_ble_eq_true rfl, ?_⟩
  show mEv TB0 ad M_X12_rows (dd + 8) (0, 0) (mCal TB0 ad (dd + 7)) (fun v h' z => z.1 = 0 ∧ Q v h') 0 [some (.ref m), some (.int (zI f)), some (.int (zI 3))] [] h (0, 0)
  have FR0 : frm (fun a i => a = m ∨ (m + 9 ≤ a ∧ a < m + 30)) h h := frm_0 h
  have w1 := wS_n (refT_w HR)
  have W := (refT_w HR).2.2.1 f p1 p2
  refine e_aload_n dX12_rows_0 rfl ?_
  refine z_iconst (0) dX12_rows_1 rfl ?_
  refine z_put dX12_rows_2 tf_12_103 (rk_s hk) rfl (Or.inl rfl) (fun h1 e2 => ?_)
  have f3 := frm_1 e2
  have k4 := rk_q (frm_s f3) hk
  have H5 := refT_c f3 (fun a k q1 q2 => by omega) HR
  have FR6 := frm_t FR0 (frm_m (S' := (fun a i => a = m ∨ (m + 9 ≤ a ∧ a < m + 30))) f3 (fun a k q => by omega))
  refine e_aload_n dX12_rows_5 rfl ?_
  refine e_iload_n dX12_rows_6 rfl ?_
  refine e_callV [.int _] dX12_rows_7 tm_12_292 rfl (Nat.le_of_ble_eq_true rfl) (rk_s k4) (Nat.le_of_ble_eq_true rfl) (Nat.le_refl _) (Nat.le_refl _) rfl (zp_X12_hand_in k4 H5 f ⟨by omega, by omega⟩ (by omega) (by omega) (fun  h7 f8 p9 p10 p11 p12 => ?_))
  have k13 := rk_q (frm_s f8) k4
  have H14 := refT_c f8 (fun a k q1 q2 => by omega) H5
  have FR15 := frm_t FR6 (frm_m (S' := (fun a i => a = m ∨ (m + 9 ≤ a ∧ a < m + 30))) f8 (fun a k q => by omega))
  have w5 := rB_n p9
  have w6 := rC_n p11
  refine z_ifb_eq 22 dX12_rows_10 rfl (fun c16 => ?_) (fun c16 => ?_)
  · exact absurd trivial c16
  · skip
    refine e_iload_n dX12_rows_13 rfl ?_
    refine z_iconst (0) dX12_rows_14 rfl ?_
    refine z_iconst (3) dX12_rows_15 rfl ?_
    refine e_callS [.int _, .int _, .int _] dX12_rows_16 tm_12_115 rfl (Nat.le_of_ble_eq_true rfl) (Nat.le_refl _) (Nat.le_refl _) rfl (zp_X12_in 3 ⟨by omega, by omega⟩ 0 ⟨by omega, by omega⟩ 3 ⟨by omega, by omega⟩ ?_)
    refine z_ifb_ne 24 dX12_rows_19 rfl (fun c17 => ?_) (fun c17 => ?_)
    · skip
      refine e_iload_n dX12_rows_24 rfl ?_
      refine z_iconst (2) dX12_rows_25 rfl ?_
      refine z_icmp_ne 45 dX12_rows_26 rfl ⟨by omega, by omega⟩ ⟨by omega, by omega⟩ (fun c18 => ?_) (fun c18 => ?_)
      · skip
        refine e_aload_n dX12_rows_45 rfl ?_
        refine e_iload_n dX12_rows_46 rfl ?_
        refine z_iconst (1) dX12_rows_47 rfl ?_
        refine z_icmp_ne 55 dX12_rows_48 rfl ⟨by omega, by omega⟩ ⟨by omega, by omega⟩ (fun c19 => ?_) (fun c19 => ?_)
        · skip
          refine e_iload_n dX12_rows_55 rfl ?_
          refine z_iconst (2) dX12_rows_56 rfl ?_
          refine z_icmp_ne 64 dX12_rows_57 rfl ⟨by omega, by omega⟩ ⟨by omega, by omega⟩ (fun c20 => ?_) (fun c20 => ?_)
          · skip
            refine z_iconst (3) dX12_rows_64 rfl ?_
            refine e_callV [.int _] dX12_rows_65 tm_12_439 rfl (Nat.le_of_ble_eq_true rfl) (rk_s k13) (Nat.le_of_ble_eq_true rfl) (Nat.le_refl _) (Nat.le_refl _) rfl (zp_X12_findBest_3 k13 p9 p10 (fun  h21 f22 p23 => ?_))
            have k24 := rk_q (frm_s f22) k13
            have H25 := refT_c f22 (fun a k q1 q2 => by omega) H14
            have H26 := rB_c f22 (fun a k q => by omega) p9
            have H27 := rM_c f22 (fun a k q => by omega) p10
            have H28 := rC_c f22 (fun a k q => by omega) p11
            have H29 := rK_c f22 (fun a k q1 q2 => by omega) p12
            have FR30 := frm_t FR15 (frm_m (S' := (fun a i => a = m ∨ (m + 9 ≤ a ∧ a < m + 30))) f22 (fun a k q => by omega))
            obtain ⟨bv, Z1, Z2, Z3, Z4⟩ := p23
            have zb := wtB_b (g := (sG σ f)) (by omega) 3 (dgZ bv)
            have zb : -1000000 ≤ wtK (sG σ f) 3 bv ∧ wtK (sG σ f) 3 bv ≤ 1000000 := zb
            refine e_iload_n dX12_rows_68 rfl ?_
            refine z_if_ne 80 dX12_rows_69 rfl ⟨by omega, by omega⟩ (fun c31 => ?_) (fun c31 => ?_)
            · skip
              refine e_iload_n dX12_rows_80 rfl ?_
              refine z_iconst (3) dX12_rows_81 rfl ?_
              refine z_icmp_ne 92 dX12_rows_82 rfl ⟨by omega, by omega⟩ ⟨by omega, by omega⟩ (fun c32 => ?_) (fun c32 => ?_)
              · exfalso; omega
              · skip
                refine e_aload_n dX12_rows_85 rfl ?_
                refine z_get (stC (sG σ f) 3 117649) dX12_rows_86 tf_12_422 (rk_s k24) (Or.inl rfl) Z4 ?_
                have y33 := stC_b (sG σ f) 3 (show (0 : Int) ≤ 117649 by omega)
                refine e_goto 96 dX12_rows_89 rfl ?_
                refine z_iret dX12_rows_96 rfl ⟨rfl, ?_⟩
                refine kq _ ?_ _ FR30
                exact Or.inr (Or.inr (Or.inr (Or.inl ⟨rfl, stC_1 (by omega)⟩)))
            · exfalso; omega
          · exfalso; omega
        · exfalso; omega
      · exfalso; omega
    · exfalso; omega
set_option maxHeartbeats 400000 in
theorem zp_X12_leaving_bad {ad : mA} {dd : Nat} {h : mH} {Q : mQ} {m : Nat} {σ : Sg} (hk : rk h m) (HR : refT h m 0 σ)  (f : Int) (f_r : -2147483648 ≤ f ∧ f < 2147483648) (q : Int) (q_r : -2147483648 ≤ q ∧ q < 2147483648) (p1 : 0 ≤ f) (p2 : f < cn σ 0) (pq : ¬ (0 ≤ q ∧ q ≤ 5)) (kq : ∀ h1, frm (fun a i => a = m ∨ (m + 9 ≤ a ∧ a < m + 30)) h h1 → Q (some (.int (zI (-1)))) h1) : mCal TB0 ad (dd + 9) M_X12_leaving [.ref m, .int (zI f), .int (zI q)] h 0 0 Q := by
  refine ⟨Nat.le_of_ble_eq_true rfl, ?_⟩
  show mEv TB0 ad M_X12_leaving (dd + 9) (0, 0) (mCal TB0 ad (dd + 8)) (fun v h' z => z.1 = 0 ∧ Q v h') 0 [some (.ref m), some (.int (zI f)), some (.int (zI q))] [] h (0, 0)
  have FR0 : frm (fun a i => a = m ∨ (m + 9 ≤ a ∧ a < m + 30)) h h := frm_0 h
  have w1 := wS_n (refT_w HR)
  refine e_aload_n dX12_leaving_0 rfl ?_
  refine z_iconst (0) dX12_leaving_1 rfl ?_
  refine z_put dX12_leaving_2 tf_12_103 (rk_s hk) rfl (Or.inl rfl) (fun h1 e2 => ?_)
  have f3 := frm_1 e2
  have k4 := rk_q (frm_s f3) hk
  have H5 := refT_c f3 (fun a k q1 q2 => by omega) HR
  have FR6 := frm_t FR0 (frm_m (S' := (fun a i => a = m ∨ (m + 9 ≤ a ∧ a < m + 30))) f3 (fun a k q => by omega))
  refine e_aload_n dX12_leaving_5 rfl ?_
  refine e_iload_n dX12_leaving_6 rfl ?_
  refine e_callV [.int _] dX12_leaving_7 tm_12_292 rfl (Nat.le_of_ble_eq_true rfl) (rk_s k4) (Nat.le_of_ble_eq_true rfl) (Nat.le_refl _) (Nat.le_refl _) rfl (zp_X12_hand_in k4 H5 f ⟨by omega, by omega⟩ (by omega) (by omega) (fun  h7 f8 p9 p10 p11 p12 => ?_))
  have k13 := rk_q (frm_s f8) k4
  have H14 := refT_c f8 (fun a k q1 q2 => by omega) H5
  have FR15 := frm_t FR6 (frm_m (S' := (fun a i => a = m ∨ (m + 9 ≤ a ∧ a < m + 30))) f8 (fun a k q => by omega))
  refine z_ifb_eq 22 dX12_leaving_10 rfl (fun c16 => ?_) (fun c16 => ?_)
  · exact absurd trivial c16
  · skip
    refine e_iload_n dX12_leaving_13 rfl ?_
    refine z_iconst (0) dX12_leaving_14 rfl ?_
    refine z_iconst (5) dX12_leaving_15 rfl ?_
    refine e_callS [.int _, .int _, .int _] dX12_leaving_16 tm_12_115 rfl (Nat.le_of_ble_eq_true rfl) (Nat.le_refl _) (Nat.le_refl _) rfl (zp_X12_in q ⟨by omega, by omega⟩ 0 ⟨by omega, by omega⟩ 5 ⟨by omega, by omega⟩ ?_)
    refine z_ifb_ne 24 dX12_leaving_19 rfl (fun c17 => ?_) (fun c17 => ?_)
    · exfalso; omega
    · skip
      refine z_iconst (-1) dX12_leaving_22 rfl ?_
      refine z_iret dX12_leaving_23 rfl ⟨rfl, ?_⟩
      exact kq _ FR15
set_option maxHeartbeats 400000 in
theorem zp_X12_leaving_out {ad : mA} {dd : Nat} {h : mH} {Q : mQ} {m : Nat} {σ : Sg} (hk : rk h m) (HR : refT h m 0 σ)  (f : Int) (f_r : -2147483648 ≤ f ∧ f < 2147483648) (q : Int) (q_r : -2147483648 ≤ q ∧ q < 2147483648) (p1 : ¬ (0 ≤ f ∧ f < cn σ 0)) (kq : ∀ h1, frm (fun a i => a = m ∨ (m + 9 ≤ a ∧ a < m + 30)) h h1 → Q (some (.int (zI (-1)))) h1) : mCal TB0 ad (dd + 9) M_X12_leaving [.ref m, .int (zI f), .int (zI q)] h 0 0 Q := by
  refine ⟨Nat.le_of_ble_eq_true rfl, ?_⟩
  show mEv TB0 ad M_X12_leaving (dd + 9) (0, 0) (mCal TB0 ad (dd + 8)) (fun v h' z => z.1 = 0 ∧ Q v h') 0 [some (.ref m), some (.int (zI f)), some (.int (zI q))] [] h (0, 0)
  have FR0 : frm (fun a i => a = m ∨ (m + 9 ≤ a ∧ a < m + 30)) h h := frm_0 h
  have w1 := wS_n (refT_w HR)
  refine e_aload_n dX12_leaving_0 rfl ?_
  refine z_iconst (0) dX12_leaving_1 rfl ?_
  refine z_put dX12_leaving_2 tf_12_103 (rk_s hk) rfl (Or.inl rfl) (fun h1 e2 => ?_)
  have f3 := frm_1 e2
  have k4 := rk_q (frm_s f3) hk
  have H5 := refT_c f3 (fun a k q1 q2 => by omega) HR
  have FR6 := frm_t FR0 (frm_m (S' := (fun a i => a = m ∨ (m + 9 ≤ a ∧ a < m + 30))) f3 (fun a k q => by omega))
  refine e_aload_n dX12_leaving_5 rfl ?_
  refine e_iload_n dX12_leaving_6 rfl ?_
  refine e_callV [.int _] dX12_leaving_7 tm_12_292 rfl (Nat.le_of_ble_eq_true rfl) (rk_s k4) (Nat.le_of_ble_eq_true rfl) (Nat.le_refl _) (Nat.le_refl _) rfl (zp_X12_hand_out k4 H5 f ⟨by omega, by omega⟩ (by omega) ?_)
  refine z_ifb_eq 22 dX12_leaving_10 rfl (fun c7 => ?_) (fun c7 => ?_)
  · skip
    refine z_iconst (-1) dX12_leaving_22 rfl ?_
    refine z_iret dX12_leaving_23 rfl ⟨rfl, ?_⟩
    exact kq _ FR6
  · exfalso; exact c7
set_option maxHeartbeats 400000 in
theorem zp_X12_row_bad {ad : mA} {dd : Nat} {h : mH} {Q : mQ} {m : Nat} {σ : Sg} (hk : rk h m) (HR : refT h m 0 σ)  (f : Int) (f_r : -2147483648 ≤ f ∧ f < 2147483648) (q : Int) (q_r : -2147483648 ≤ q ∧ q < 2147483648) (k : Int) (k_r : -2147483648 ≤ k ∧ k < 2147483648) (p1 : 0 ≤ f) (p2 : f < cn σ 0) (pq : ¬ (1 ≤ q ∧ q ≤ 5)) (kq : ∀ h1, frm (fun a i => a = m ∨ (m + 9 ≤ a ∧ a < m + 30)) h h1 → Q (some (.int (zI (-1)))) h1) : mCal TB0 ad (dd + 9) M_X12_row [.ref m, .int (zI f), .int (zI q), .int (zI k)] h 0 0 Q := by
  refine ⟨Nat.le_of_ble_eq_true rfl, ?_⟩
  show mEv TB0 ad M_X12_row (dd + 9) (0, 0) (mCal TB0 ad (dd + 8)) (fun v h' z => z.1 = 0 ∧ Q v h') 0 [some (.ref m), some (.int (zI f)), some (.int (zI q)), some (.int (zI k))] [] h (0, 0)
  have FR0 : frm (fun a i => a = m ∨ (m + 9 ≤ a ∧ a < m + 30)) h h := frm_0 h
  have w1 := wS_n (refT_w HR)
  refine e_aload_n dX12_row_0 rfl ?_
  refine z_iconst (0) dX12_row_1 rfl ?_
  refine z_put dX12_row_2 tf_12_103 (rk_s hk) rfl (Or.inl rfl) (fun h1 e2 => ?_)
  have f3 := frm_1 e2
  have k4 := rk_q (frm_s f3) hk
  have H5 := refT_c f3 (fun a k q1 q2 => by omega) HR
  have FR6 := frm_t FR0 (frm_m (S' := (fun a i => a = m ∨ (m + 9 ≤ a ∧ a < m + 30))) f3 (fun a k q => by omega))
  refine e_aload_n dX12_row_5 rfl ?_
  refine e_iload_n dX12_row_6 rfl ?_
  refine e_callV [.int _] dX12_row_7 tm_12_292 rfl (Nat.le_of_ble_eq_true rfl) (rk_s k4) (Nat.le_of_ble_eq_true rfl) (Nat.le_refl _) (Nat.le_refl _) rfl (zp_X12_hand_in k4 H5 f ⟨by omega, by omega⟩ (by omega) (by omega) (fun  h7 f8 p9 p10 p11 p12 => ?_))
  have k13 := rk_q (frm_s f8) k4
  have H14 := refT_c f8 (fun a k q1 q2 => by omega) H5
  have FR15 := frm_t FR6 (frm_m (S' := (fun a i => a = m ∨ (m + 9 ≤ a ∧ a < m + 30))) f8 (fun a k q => by omega))
  refine z_ifb_eq 36 dX12_row_10 rfl (fun c16 => ?_) (fun c16 => ?_)
  · exact absurd trivial c16
  · skip
    refine e_iload_n dX12_row_13 rfl ?_
    refine z_iconst (1) dX12_row_14 rfl ?_
    refine z_iconst (5) dX12_row_15 rfl ?_
    refine e_callS [.int _, .int _, .int _] dX12_row_16 tm_12_115 rfl (Nat.le_of_ble_eq_true rfl) (Nat.le_refl _) (Nat.le_refl _) rfl (zp_X12_in q ⟨by omega, by omega⟩ 1 ⟨by omega, by omega⟩ 5 ⟨by omega, by omega⟩ ?_)
    refine z_ifb_eq 36 dX12_row_19 rfl (fun c17 => ?_) (fun c17 => ?_)
    · skip
      refine z_iconst (-1) dX12_row_36 rfl ?_
      refine z_iret dX12_row_37 rfl ⟨rfl, ?_⟩
      exact kq _ FR15
    · exfalso; omega
set_option maxHeartbeats 400000 in
theorem zp_X12_row_out {ad : mA} {dd : Nat} {h : mH} {Q : mQ} {m : Nat} {σ : Sg} (hk : rk h m) (HR : refT h m 0 σ)  (f : Int) (f_r : -2147483648 ≤ f ∧ f < 2147483648) (q : Int) (q_r : -2147483648 ≤ q ∧ q < 2147483648) (k : Int) (k_r : -2147483648 ≤ k ∧ k < 2147483648) (p1 : ¬ (0 ≤ f ∧ f < cn σ 0)) (kq : ∀ h1, frm (fun a i => a = m ∨ (m + 9 ≤ a ∧ a < m + 30)) h h1 → Q (some (.int (zI (-1)))) h1) : mCal TB0 ad (dd + 9) M_X12_row [.ref m, .int (zI f), .int (zI q), .int (zI k)] h 0 0 Q := by
  refine ⟨Nat.le_of_ble_eq_true rfl, ?_⟩
  show mEv TB0 ad M_X12_row (dd + 9) (0, 0) (mCal TB0 ad (dd + 8)) (fun v h' z => z.1 = 0 ∧ Q v h') 0 [some (.ref m), some (.int (zI f)), some (.int (zI q)), some (.int (zI k))] [] h (0, 0)
  have FR0 : frm (fun a i => a = m ∨ (m + 9 ≤ a ∧ a < m + 30)) h h := frm_0 h
  have w1 := wS_n (refT_w HR)
  refine e_aload_n dX12_row_0 rfl ?_
  refine z_iconst (0) dX12_row_1 rfl ?_
  refine z_put dX12_row_2 tf_12_103 (rk_s hk) rfl (Or.inl rfl) (fun h1 e2 => ?_)
  have f3 := frm_1 e2
  have k4 := rk_q (frm_s f3) hk
  have H5 := refT_c f3 (fun a k q1 q2 => by omega) HR
  have FR6 := frm_t FR0 (frm_m (S' := (fun a i => a = m ∨ (m + 9 ≤ a ∧ a < m + 30))) f3 (fun a k q => by omega))
  refine e_aload_n dX12_row_5 rfl ?_
  refine e_iload_n dX12_row_6 rfl ?_
  refine e_callV [.int _] dX12_row_7 tm_12_292 rfl (Nat.le_of_ble_eq_true rfl) (rk_s k4) (Nat.le_of_ble_eq_true rfl) (Nat.le_refl _) (Nat.le_refl _) rfl (zp_X12_hand_out k4 H5 f ⟨by omega, by omega⟩ (by omega) ?_)
  refine z_ifb_eq 36 dX12_row_10 rfl (fun c7 => ?_) (fun c7 => ?_)
  · skip
    refine z_iconst (-1) dX12_row_36 rfl ?_
    refine z_iret dX12_row_37 rfl ⟨rfl, ?_⟩
    exact kq _ FR6
  · exfalso; exact c7
set_option maxHeartbeats 400000 in
theorem zp_X12_moves_bad {ad : mA} {dd : Nat} {h : mH} {Q : mQ} {m : Nat} {σ : Sg} (hk : rk h m) (HR : refT h m 0 σ)  (f : Int) (f_r : -2147483648 ≤ f ∧ f < 2147483648) (q : Int) (q_r : -2147483648 ≤ q ∧ q < 2147483648) (p : Prop) [Decidable p] (p1 : 0 ≤ f) (p2 : f < cn σ 0) (pq : ¬ (1 ≤ q ∧ q ≤ 5)) (kq : ∀ h1, frm (fun a i => a = m ∨ (m + 9 ≤ a ∧ a < m + 30)) h h1 → Q (some (.int (zI (-1)))) h1) : mCal TB0 ad (dd + 9) M_X12_moves [.ref m, .int (zI f), .int (zI q), .int (zI (bZ p))] h 0 0 Q := by
  refine ⟨Nat.le_of_ble_eq_true rfl, ?_⟩
  show mEv TB0 ad M_X12_moves (dd + 9) (0, 0) (mCal TB0 ad (dd + 8)) (fun v h' z => z.1 = 0 ∧ Q v h') 0 [some (.ref m), some (.int (zI f)), some (.int (zI q)), some (.int (zI (bZ p))), none, none, none, none] [] h (0, 0)
  have FR0 : frm (fun a i => a = m ∨ (m + 9 ≤ a ∧ a < m + 30)) h h := frm_0 h
  have w1 := wS_n (refT_w HR)
  refine e_aload_n dX12_moves_0 rfl ?_
  refine z_iconst (0) dX12_moves_1 rfl ?_
  refine z_put dX12_moves_2 tf_12_103 (rk_s hk) rfl (Or.inl rfl) (fun h1 e2 => ?_)
  have f3 := frm_1 e2
  have k4 := rk_q (frm_s f3) hk
  have H5 := refT_c f3 (fun a k q1 q2 => by omega) HR
  have FR6 := frm_t FR0 (frm_m (S' := (fun a i => a = m ∨ (m + 9 ≤ a ∧ a < m + 30))) f3 (fun a k q => by omega))
  refine e_aload_n dX12_moves_5 rfl ?_
  refine e_iload_n dX12_moves_6 rfl ?_
  refine e_callV [.int _] dX12_moves_7 tm_12_292 rfl (Nat.le_of_ble_eq_true rfl) (rk_s k4) (Nat.le_of_ble_eq_true rfl) (Nat.le_refl _) (Nat.le_refl _) rfl (zp_X12_hand_in k4 H5 f ⟨by omega, by omega⟩ (by omega) (by omega) (fun  h7 f8 p9 p10 p11 p12 => ?_))
  have k13 := rk_q (frm_s f8) k4
  have H14 := refT_c f8 (fun a k q1 q2 => by omega) H5
  have FR15 := frm_t FR6 (frm_m (S' := (fun a i => a = m ∨ (m + 9 ≤ a ∧ a < m + 30))) f8 (fun a k q => by omega))
  refine z_ifb_eq 22 dX12_moves_10 rfl (fun c16 => ?_) (fun c16 => ?_)
  · exact absurd trivial c16
  · skip
    refine e_iload_n dX12_moves_13 rfl ?_
    refine z_iconst (1) dX12_moves_14 rfl ?_
    refine z_iconst (5) dX12_moves_15 rfl ?_
    refine e_callS [.int _, .int _, .int _] dX12_moves_16 tm_12_115 rfl (Nat.le_of_ble_eq_true rfl) (Nat.le_refl _) (Nat.le_refl _) rfl (zp_X12_in q ⟨by omega, by omega⟩ 1 ⟨by omega, by omega⟩ 5 ⟨by omega, by omega⟩ ?_)
    refine z_ifb_ne 24 dX12_moves_19 rfl (fun c17 => ?_) (fun c17 => ?_)
    · exfalso; omega
    · skip
      refine z_iconst (-1) dX12_moves_22 rfl ?_
      refine z_iret dX12_moves_23 rfl ⟨rfl, ?_⟩
      exact kq _ FR15
set_option maxHeartbeats 400000 in
theorem zp_X12_moves_out {ad : mA} {dd : Nat} {h : mH} {Q : mQ} {m : Nat} {σ : Sg} (hk : rk h m) (HR : refT h m 0 σ)  (f : Int) (f_r : -2147483648 ≤ f ∧ f < 2147483648) (q : Int) (q_r : -2147483648 ≤ q ∧ q < 2147483648) (p : Prop) [Decidable p] (p1 : ¬ (0 ≤ f ∧ f < cn σ 0)) (kq : ∀ h1, frm (fun a i => a = m ∨ (m + 9 ≤ a ∧ a < m + 30)) h h1 → Q (some (.int (zI (-1)))) h1) : mCal TB0 ad (dd + 9) M_X12_moves [.ref m, .int (zI f), .int (zI q), .int (zI (bZ p))] h 0 0 Q := by
  refine ⟨Nat.le_of_ble_eq_true rfl, ?_⟩
  show mEv TB0 ad M_X12_moves (dd + 9) (0, 0) (mCal TB0 ad (dd + 8)) (fun v h' z => z.1 = 0 ∧ Q v h') 0 [some (.ref m), some (.int (zI f)), some (.int (zI q)), some (.int (zI (bZ p))), none, none, none, none] [] h (0, 0)
  have FR0 : frm (fun a i => a = m ∨ (m + 9 ≤ a ∧ a < m + 30)) h h := frm_0 h
  have w1 := wS_n (refT_w HR)
  refine e_aload_n dX12_moves_0 rfl ?_
  refine z_iconst (0) dX12_moves_1 rfl ?_
  refine z_put dX12_moves_2 tf_12_103 (rk_s hk) rfl (Or.inl rfl) (fun h1 e2 => ?_)
  have f3 := frm_1 e2
  have k4 := rk_q (frm_s f3) hk
  have H5 := refT_c f3 (fun a k q1 q2 => by omega) HR
  have FR6 := frm_t FR0 (frm_m (S' := (fun a i => a = m ∨ (m + 9 ≤ a ∧ a < m + 30))) f3 (fun a k q => by omega))
  refine e_aload_n dX12_moves_5 rfl ?_
  refine e_iload_n dX12_moves_6 rfl ?_
  refine e_callV [.int _] dX12_moves_7 tm_12_292 rfl (Nat.le_of_ble_eq_true rfl) (rk_s k4) (Nat.le_of_ble_eq_true rfl) (Nat.le_refl _) (Nat.le_refl _) rfl (zp_X12_hand_out k4 H5 f ⟨by omega, by omega⟩ (by omega) ?_)
  refine z_ifb_eq 22 dX12_moves_10 rfl (fun c7 => ?_) (fun c7 => ?_)
  · skip
    refine z_iconst (-1) dX12_moves_22 rfl ?_
    refine z_iret dX12_moves_23 rfl ⟨rfl, ?_⟩
    exact kq _ FR6
  · exfalso; exact c7
set_option maxHeartbeats 400000 in
theorem zp_X12_rows_bad {ad : mA} {dd : Nat} {h : mH} {Q : mQ} {m : Nat} {σ : Sg} (hk : rk h m) (HR : refT h m 0 σ)  (f : Int) (f_r : -2147483648 ≤ f ∧ f < 2147483648) (q : Int) (q_r : -2147483648 ≤ q ∧ q < 2147483648) (p1 : 0 ≤ f) (p2 : f < cn σ 0) (pq : ¬ (0 ≤ q ∧ q ≤ 3)) (kq : ∀ h1, frm (fun a i => a = m ∨ (m + 9 ≤ a ∧ a < m + 30)) h h1 → Q (some (.int (zI (-1)))) h1) : mCal TB0 ad (dd + 8) M_X12_rows [.ref m, .int (zI f), .int (zI q)] h 0 0 Q := by
  refine ⟨Nat.le_of_ble_eq_true rfl, ?_⟩
  show mEv TB0 ad M_X12_rows (dd + 8) (0, 0) (mCal TB0 ad (dd + 7)) (fun v h' z => z.1 = 0 ∧ Q v h') 0 [some (.ref m), some (.int (zI f)), some (.int (zI q))] [] h (0, 0)
  have FR0 : frm (fun a i => a = m ∨ (m + 9 ≤ a ∧ a < m + 30)) h h := frm_0 h
  have w1 := wS_n (refT_w HR)
  refine e_aload_n dX12_rows_0 rfl ?_
  refine z_iconst (0) dX12_rows_1 rfl ?_
  refine z_put dX12_rows_2 tf_12_103 (rk_s hk) rfl (Or.inl rfl) (fun h1 e2 => ?_)
  have f3 := frm_1 e2
  have k4 := rk_q (frm_s f3) hk
  have H5 := refT_c f3 (fun a k q1 q2 => by omega) HR
  have FR6 := frm_t FR0 (frm_m (S' := (fun a i => a = m ∨ (m + 9 ≤ a ∧ a < m + 30))) f3 (fun a k q => by omega))
  refine e_aload_n dX12_rows_5 rfl ?_
  refine e_iload_n dX12_rows_6 rfl ?_
  refine e_callV [.int _] dX12_rows_7 tm_12_292 rfl (Nat.le_of_ble_eq_true rfl) (rk_s k4) (Nat.le_of_ble_eq_true rfl) (Nat.le_refl _) (Nat.le_refl _) rfl (zp_X12_hand_in k4 H5 f ⟨by omega, by omega⟩ (by omega) (by omega) (fun  h7 f8 p9 p10 p11 p12 => ?_))
  have k13 := rk_q (frm_s f8) k4
  have H14 := refT_c f8 (fun a k q1 q2 => by omega) H5
  have FR15 := frm_t FR6 (frm_m (S' := (fun a i => a = m ∨ (m + 9 ≤ a ∧ a < m + 30))) f8 (fun a k q => by omega))
  refine z_ifb_eq 22 dX12_rows_10 rfl (fun c16 => ?_) (fun c16 => ?_)
  · exact absurd trivial c16
  · skip
    refine e_iload_n dX12_rows_13 rfl ?_
    refine z_iconst (0) dX12_rows_14 rfl ?_
    refine z_iconst (3) dX12_rows_15 rfl ?_
    refine e_callS [.int _, .int _, .int _] dX12_rows_16 tm_12_115 rfl (Nat.le_of_ble_eq_true rfl) (Nat.le_refl _) (Nat.le_refl _) rfl (zp_X12_in q ⟨by omega, by omega⟩ 0 ⟨by omega, by omega⟩ 3 ⟨by omega, by omega⟩ ?_)
    refine z_ifb_ne 24 dX12_rows_19 rfl (fun c17 => ?_) (fun c17 => ?_)
    · exfalso; omega
    · skip
      refine z_iconst (-1) dX12_rows_22 rfl ?_
      refine z_iret dX12_rows_23 rfl ⟨rfl, ?_⟩
      exact kq _ FR15
set_option maxHeartbeats 400000 in
theorem zp_X12_rows_out {ad : mA} {dd : Nat} {h : mH} {Q : mQ} {m : Nat} {σ : Sg} (hk : rk h m) (HR : refT h m 0 σ)  (f : Int) (f_r : -2147483648 ≤ f ∧ f < 2147483648) (q : Int) (q_r : -2147483648 ≤ q ∧ q < 2147483648) (p1 : ¬ (0 ≤ f ∧ f < cn σ 0)) (kq : ∀ h1, frm (fun a i => a = m ∨ (m + 9 ≤ a ∧ a < m + 30)) h h1 → Q (some (.int (zI (-1)))) h1) : mCal TB0 ad (dd + 8) M_X12_rows [.ref m, .int (zI f), .int (zI q)] h 0 0 Q := by
  refine ⟨Nat.le_of_ble_eq_true rfl, ?_⟩
  show mEv TB0 ad M_X12_rows (dd + 8) (0, 0) (mCal TB0 ad (dd + 7)) (fun v h' z => z.1 = 0 ∧ Q v h') 0 [some (.ref m), some (.int (zI f)), some (.int (zI q))] [] h (0, 0)
  have FR0 : frm (fun a i => a = m ∨ (m + 9 ≤ a ∧ a < m + 30)) h h := frm_0 h
  have w1 := wS_n (refT_w HR)
  refine e_aload_n dX12_rows_0 rfl ?_
  refine z_iconst (0) dX12_rows_1 rfl ?_
  refine z_put dX12_rows_2 tf_12_103 (rk_s hk) rfl (Or.inl rfl) (fun h1 e2 => ?_)
  have f3 := frm_1 e2
  have k4 := rk_q (frm_s f3) hk
  have H5 := refT_c f3 (fun a k q1 q2 => by omega) HR
  have FR6 := frm_t FR0 (frm_m (S' := (fun a i => a = m ∨ (m + 9 ≤ a ∧ a < m + 30))) f3 (fun a k q => by omega))
  refine e_aload_n dX12_rows_5 rfl ?_
  refine e_iload_n dX12_rows_6 rfl ?_
  refine e_callV [.int _] dX12_rows_7 tm_12_292 rfl (Nat.le_of_ble_eq_true rfl) (rk_s k4) (Nat.le_of_ble_eq_true rfl) (Nat.le_refl _) (Nat.le_refl _) rfl (zp_X12_hand_out k4 H5 f ⟨by omega, by omega⟩ (by omega) ?_)
  refine z_ifb_eq 22 dX12_rows_10 rfl (fun c7 => ?_) (fun c7 => ?_)
  · skip
    refine z_iconst (-1) dX12_rows_22 rfl ?_
    refine z_iret dX12_rows_23 rfl ⟨rfl, ?_⟩
    exact kq _ FR6
  · exfalso; exact c7

/-! DRAWN -/
theorem dX7_drawAll_0 : decode cX7_drawAll 0 = .ok (.aload_n 0, 1) := by decide +kernel
theorem dX7_drawAll_1 : decode cX7_drawAll 1 = .ok (.aload_n 1, 1) := by decide +kernel
theorem dX7_drawAll_2 : decode cX7_drawAll 2 = .ok (.invokevirtual 53, 3) := by decide +kernel
theorem dX7_drawAll_5 : decode cX7_drawAll 5 = .ok (.aload_n 0, 1) := by decide +kernel
theorem dX7_drawAll_6 : decode cX7_drawAll 6 = .ok (.iload_n 2, 1) := by decide +kernel
theorem dX7_drawAll_7 : decode cX7_drawAll 7 = .ok (.putfield 43, 3) := by decide +kernel
theorem dX7_drawAll_10 : decode cX7_drawAll 10 = .ok (.iconst 0, 1) := by decide +kernel
theorem dX7_drawAll_11 : decode cX7_drawAll 11 = .ok (.istore 4, 2) := by decide +kernel
theorem dX7_drawAll_13 : decode cX7_drawAll 13 = .ok (.iload 4, 2) := by decide +kernel
theorem dX7_drawAll_15 : decode cX7_drawAll 15 = .ok (.iload_n 3, 1) := by decide +kernel
theorem dX7_drawAll_16 : decode cX7_drawAll 16 = .ok (.if_icmp .ge 50, 3) := by decide +kernel
theorem dX7_drawAll_19 : decode cX7_drawAll 19 = .ok (.aload_n 0, 1) := by decide +kernel
theorem dX7_drawAll_20 : decode cX7_drawAll 20 = .ok (.getfield 12, 3) := by decide +kernel
theorem dX7_drawAll_23 : decode cX7_drawAll 23 = .ok (.getfield 75, 3) := by decide +kernel
theorem dX7_drawAll_26 : decode cX7_drawAll 26 = .ok (.getfield 79, 3) := by decide +kernel
theorem dX7_drawAll_29 : decode cX7_drawAll 29 = .ok (.ifCond .le 37, 3) := by decide +kernel
theorem dX7_drawAll_32 : decode cX7_drawAll 32 = .ok (.aload_n 0, 1) := by decide +kernel
theorem dX7_drawAll_33 : decode cX7_drawAll 33 = .ok (.aload_n 0, 1) := by decide +kernel
theorem dX7_drawAll_34 : decode cX7_drawAll 34 = .ok (.getfield 12, 3) := by decide +kernel
theorem dX7_drawAll_37 : decode cX7_drawAll 37 = .ok (.getfield 75, 3) := by decide +kernel
theorem dX7_drawAll_40 : decode cX7_drawAll 40 = .ok (.getfield 79, 3) := by decide +kernel
theorem dX7_drawAll_43 : decode cX7_drawAll 43 = .ok (.invokevirtual 82, 3) := by decide +kernel
theorem dX7_drawAll_46 : decode cX7_drawAll 46 = .ok (.istore 5, 2) := by decide +kernel
theorem dX7_drawAll_48 : decode cX7_drawAll 48 = .ok (.aload_n 0, 1) := by decide +kernel
theorem dX7_drawAll_49 : decode cX7_drawAll 49 = .ok (.iload 5, 2) := by decide +kernel
theorem dX7_drawAll_51 : decode cX7_drawAll 51 = .ok (.aload_n 0, 1) := by decide +kernel
theorem dX7_drawAll_52 : decode cX7_drawAll 52 = .ok (.bipush 8, 2) := by decide +kernel
theorem dX7_drawAll_54 : decode cX7_drawAll 54 = .ok (.invokevirtual 82, 3) := by decide +kernel
theorem dX7_drawAll_57 : decode cX7_drawAll 57 = .ok (.invokevirtual 86, 3) := by decide +kernel
theorem dX7_drawAll_60 : decode cX7_drawAll 60 = .ok (.iinc 4 1, 3) := by decide +kernel
theorem dX7_drawAll_63 : decode cX7_drawAll 63 = .ok (.goto (-50), 3) := by decide +kernel
theorem dX7_drawAll_66 : decode cX7_drawAll 66 = .ok (.return_, 1) := by decide +kernel
theorem dX7_drawDeed_0 : decode cX7_drawDeed 0 = .ok (.iload_n 2, 1) := by decide +kernel
theorem dX7_drawDeed_1 : decode cX7_drawDeed 1 = .ok (.tableswitch 146 0 6 #[43, 79, 88, 97, 97, 127, 137], 43) := by decide +kernel
theorem dX7_drawDeed_44 : decode cX7_drawDeed 44 = .ok (.aload_n 0, 1) := by decide +kernel
theorem dX7_drawDeed_45 : decode cX7_drawDeed 45 = .ok (.getfield 12, 3) := by decide +kernel
theorem dX7_drawDeed_48 : decode cX7_drawDeed 48 = .ok (.getfield 90, 3) := by decide +kernel
theorem dX7_drawDeed_51 : decode cX7_drawDeed 51 = .ok (.getfield 79, 3) := by decide +kernel
theorem dX7_drawDeed_54 : decode cX7_drawDeed 54 = .ok (.ifCond .le 98, 3) := by decide +kernel
theorem dX7_drawDeed_57 : decode cX7_drawDeed 57 = .ok (.aload_n 0, 1) := by decide +kernel
theorem dX7_drawDeed_58 : decode cX7_drawDeed 58 = .ok (.iload_n 1, 1) := by decide +kernel
theorem dX7_drawDeed_59 : decode cX7_drawDeed 59 = .ok (.aload_n 0, 1) := by decide +kernel
theorem dX7_drawDeed_60 : decode cX7_drawDeed 60 = .ok (.aload_n 0, 1) := by decide +kernel
theorem dX7_drawDeed_61 : decode cX7_drawDeed 61 = .ok (.getfield 12, 3) := by decide +kernel
theorem dX7_drawDeed_64 : decode cX7_drawDeed 64 = .ok (.getfield 90, 3) := by decide +kernel
theorem dX7_drawDeed_67 : decode cX7_drawDeed 67 = .ok (.getfield 79, 3) := by decide +kernel
theorem dX7_drawDeed_70 : decode cX7_drawDeed 70 = .ok (.invokevirtual 82, 3) := by decide +kernel
theorem dX7_drawDeed_73 : decode cX7_drawDeed 73 = .ok (.invokevirtual 93, 3) := by decide +kernel
theorem dX7_drawDeed_76 : decode cX7_drawDeed 76 = .ok (.pop, 1) := by decide +kernel
theorem dX7_drawDeed_77 : decode cX7_drawDeed 77 = .ok (.goto 75, 3) := by decide +kernel
theorem dX7_drawDeed_80 : decode cX7_drawDeed 80 = .ok (.aload_n 0, 1) := by decide +kernel
theorem dX7_drawDeed_81 : decode cX7_drawDeed 81 = .ok (.iload_n 1, 1) := by decide +kernel
theorem dX7_drawDeed_82 : decode cX7_drawDeed 82 = .ok (.invokevirtual 97, 3) := by decide +kernel
theorem dX7_drawDeed_85 : decode cX7_drawDeed 85 = .ok (.pop, 1) := by decide +kernel
theorem dX7_drawDeed_86 : decode cX7_drawDeed 86 = .ok (.goto 66, 3) := by decide +kernel
theorem dX7_drawDeed_89 : decode cX7_drawDeed 89 = .ok (.aload_n 0, 1) := by decide +kernel
theorem dX7_drawDeed_90 : decode cX7_drawDeed 90 = .ok (.iload_n 1, 1) := by decide +kernel
theorem dX7_drawDeed_91 : decode cX7_drawDeed 91 = .ok (.invokevirtual 101, 3) := by decide +kernel
theorem dX7_drawDeed_94 : decode cX7_drawDeed 94 = .ok (.pop, 1) := by decide +kernel
theorem dX7_drawDeed_95 : decode cX7_drawDeed 95 = .ok (.goto 57, 3) := by decide +kernel
theorem dX7_drawDeed_98 : decode cX7_drawDeed 98 = .ok (.aload_n 0, 1) := by decide +kernel
theorem dX7_drawDeed_99 : decode cX7_drawDeed 99 = .ok (.getfield 12, 3) := by decide +kernel
theorem dX7_drawDeed_102 : decode cX7_drawDeed 102 = .ok (.getfield 104, 3) := by decide +kernel
theorem dX7_drawDeed_105 : decode cX7_drawDeed 105 = .ok (.ifCond .le 47, 3) := by decide +kernel
theorem dX7_drawDeed_108 : decode cX7_drawDeed 108 = .ok (.aload_n 0, 1) := by decide +kernel
theorem dX7_drawDeed_109 : decode cX7_drawDeed 109 = .ok (.iload_n 1, 1) := by decide +kernel
theorem dX7_drawDeed_110 : decode cX7_drawDeed 110 = .ok (.aload_n 0, 1) := by decide +kernel
theorem dX7_drawDeed_111 : decode cX7_drawDeed 111 = .ok (.aload_n 0, 1) := by decide +kernel
theorem dX7_drawDeed_112 : decode cX7_drawDeed 112 = .ok (.getfield 12, 3) := by decide +kernel
theorem dX7_drawDeed_115 : decode cX7_drawDeed 115 = .ok (.getfield 104, 3) := by decide +kernel
theorem dX7_drawDeed_118 : decode cX7_drawDeed 118 = .ok (.invokevirtual 82, 3) := by decide +kernel
theorem dX7_drawDeed_121 : decode cX7_drawDeed 121 = .ok (.invokevirtual 107, 3) := by decide +kernel
theorem dX7_drawDeed_124 : decode cX7_drawDeed 124 = .ok (.pop, 1) := by decide +kernel
theorem dX7_drawDeed_125 : decode cX7_drawDeed 125 = .ok (.goto 27, 3) := by decide +kernel
theorem dX7_drawDeed_128 : decode cX7_drawDeed 128 = .ok (.aload_n 0, 1) := by decide +kernel
theorem dX7_drawDeed_129 : decode cX7_drawDeed 129 = .ok (.iconst 0, 1) := by decide +kernel
theorem dX7_drawDeed_130 : decode cX7_drawDeed 130 = .ok (.iload_n 1, 1) := by decide +kernel
theorem dX7_drawDeed_131 : decode cX7_drawDeed 131 = .ok (.invokevirtual 110, 3) := by decide +kernel
theorem dX7_drawDeed_134 : decode cX7_drawDeed 134 = .ok (.pop, 1) := by decide +kernel
theorem dX7_drawDeed_135 : decode cX7_drawDeed 135 = .ok (.goto 17, 3) := by decide +kernel
theorem dX7_drawDeed_138 : decode cX7_drawDeed 138 = .ok (.aload_n 0, 1) := by decide +kernel
theorem dX7_drawDeed_139 : decode cX7_drawDeed 139 = .ok (.iload_n 1, 1) := by decide +kernel
theorem dX7_drawDeed_140 : decode cX7_drawDeed 140 = .ok (.invokevirtual 113, 3) := by decide +kernel
theorem dX7_drawDeed_143 : decode cX7_drawDeed 143 = .ok (.pop, 1) := by decide +kernel
theorem dX7_drawDeed_144 : decode cX7_drawDeed 144 = .ok (.goto 8, 3) := by decide +kernel
theorem dX7_drawDeed_147 : decode cX7_drawDeed 147 = .ok (.aload_n 0, 1) := by decide +kernel
theorem dX7_drawDeed_148 : decode cX7_drawDeed 148 = .ok (.invokevirtual 116, 3) := by decide +kernel
theorem dX7_drawDeed_151 : decode cX7_drawDeed 151 = .ok (.pop, 1) := by decide +kernel
theorem dX7_drawDeed_152 : decode cX7_drawDeed 152 = .ok (.return_, 1) := by decide +kernel
theorem dX7_draw_0 : decode cX7_draw 0 = .ok (.aload_n 0, 1) := by decide +kernel
theorem dX7_draw_1 : decode cX7_draw 1 = .ok (.aload_n 0, 1) := by decide +kernel
theorem dX7_draw_2 : decode cX7_draw 2 = .ok (.getfield 43, 3) := by decide +kernel
theorem dX7_draw_5 : decode cX7_draw 5 = .ok (.ldc 120, 2) := by decide +kernel
theorem dX7_draw_7 : decode cX7_draw 7 = .ok (.imul, 1) := by decide +kernel
theorem dX7_draw_8 : decode cX7_draw 8 = .ok (.sipush 12345, 3) := by decide +kernel
theorem dX7_draw_11 : decode cX7_draw 11 = .ok (.iadd, 1) := by decide +kernel
theorem dX7_draw_12 : decode cX7_draw 12 = .ok (.putfield 43, 3) := by decide +kernel
theorem dX7_draw_15 : decode cX7_draw 15 = .ok (.iload_n 1, 1) := by decide +kernel
theorem dX7_draw_16 : decode cX7_draw 16 = .ok (.ifCond .gt 7, 3) := by decide +kernel
theorem dX7_draw_19 : decode cX7_draw 19 = .ok (.iconst 0, 1) := by decide +kernel
theorem dX7_draw_20 : decode cX7_draw 20 = .ok (.goto 12, 3) := by decide +kernel
theorem dX7_draw_23 : decode cX7_draw 23 = .ok (.aload_n 0, 1) := by decide +kernel
theorem dX7_draw_24 : decode cX7_draw 24 = .ok (.getfield 43, 3) := by decide +kernel
theorem dX7_draw_27 : decode cX7_draw 27 = .ok (.bipush 16, 2) := by decide +kernel
theorem dX7_draw_29 : decode cX7_draw 29 = .ok (.iushr, 1) := by decide +kernel
theorem dX7_draw_30 : decode cX7_draw 30 = .ok (.iload_n 1, 1) := by decide +kernel
theorem dX7_draw_31 : decode cX7_draw 31 = .ok (.irem, 1) := by decide +kernel
theorem dX7_draw_32 : decode cX7_draw 32 = .ok (.ireturn, 1) := by decide +kernel
theorem dX11_drawn_0 : decode cX11_drawn 0 = .ok (.aload_n 0, 1) := by decide +kernel
theorem dX11_drawn_1 : decode cX11_drawn 1 = .ok (.getfield 10, 3) := by decide +kernel
theorem dX11_drawn_4 : decode cX11_drawn 4 = .ok (.iload_n 1, 1) := by decide +kernel
theorem dX11_drawn_5 : decode cX11_drawn 5 = .ok (.invokevirtual 94, 3) := by decide +kernel
theorem dX11_drawn_8 : decode cX11_drawn 8 = .ok (.astore 5, 2) := by decide +kernel
theorem dX11_drawn_10 : decode cX11_drawn 10 = .ok (.aload 5, 2) := by decide +kernel
theorem dX11_drawn_12 : decode cX11_drawn 12 = .ok (.ifnull 13, 3) := by decide +kernel
theorem dX11_drawn_15 : decode cX11_drawn 15 = .ok (.iload_n 3, 1) := by decide +kernel
theorem dX11_drawn_16 : decode cX11_drawn 16 = .ok (.ifCond .lt 9, 3) := by decide +kernel
theorem dX11_drawn_19 : decode cX11_drawn 19 = .ok (.iload_n 3, 1) := by decide +kernel
theorem dX11_drawn_20 : decode cX11_drawn 20 = .ok (.bipush 60, 2) := by decide +kernel
theorem dX11_drawn_22 : decode cX11_drawn 22 = .ok (.if_icmp .le 6, 3) := by decide +kernel
theorem dX11_drawn_25 : decode cX11_drawn 25 = .ok (.bipush (-2), 2) := by decide +kernel
theorem dX11_drawn_27 : decode cX11_drawn 27 = .ok (.ireturn, 1) := by decide +kernel
theorem dX11_drawn_28 : decode cX11_drawn 28 = .ok (.aload_n 0, 1) := by decide +kernel
theorem dX11_drawn_29 : decode cX11_drawn 29 = .ok (.getfield 30, 3) := by decide +kernel
theorem dX11_drawn_32 : decode cX11_drawn 32 = .ok (.aload 5, 2) := by decide +kernel
theorem dX11_drawn_34 : decode cX11_drawn 34 = .ok (.iload_n 2, 1) := by decide +kernel
theorem dX11_drawn_35 : decode cX11_drawn 35 = .ok (.iload_n 3, 1) := by decide +kernel
theorem dX11_drawn_36 : decode cX11_drawn 36 = .ok (.invokevirtual 252, 3) := by decide +kernel
theorem dX11_drawn_39 : decode cX11_drawn 39 = .ok (.aload_n 0, 1) := by decide +kernel
theorem dX11_drawn_40 : decode cX11_drawn 40 = .ok (.getfield 30, 3) := by decide +kernel
theorem dX11_drawn_43 : decode cX11_drawn 43 = .ok (.iload 4, 2) := by decide +kernel
theorem dX11_drawn_45 : decode cX11_drawn 45 = .ok (.invokevirtual 126, 3) := by decide +kernel
theorem dX11_drawn_48 : decode cX11_drawn 48 = .ok (.ireturn, 1) := by decide +kernel
theorem dX12_draw_0 : decode cX12_draw 0 = .ok (.aload_n 0, 1) := by decide +kernel
theorem dX12_draw_1 : decode cX12_draw 1 = .ok (.aload_n 0, 1) := by decide +kernel
theorem dX12_draw_2 : decode cX12_draw 2 = .ok (.getfield 534, 3) := by decide +kernel
theorem dX12_draw_5 : decode cX12_draw 5 = .ok (.ldc_w 537, 3) := by decide +kernel
theorem dX12_draw_8 : decode cX12_draw 8 = .ok (.imul, 1) := by decide +kernel
theorem dX12_draw_9 : decode cX12_draw 9 = .ok (.sipush 12345, 3) := by decide +kernel
theorem dX12_draw_12 : decode cX12_draw 12 = .ok (.iadd, 1) := by decide +kernel
theorem dX12_draw_13 : decode cX12_draw 13 = .ok (.putfield 534, 3) := by decide +kernel
theorem dX12_draw_16 : decode cX12_draw 16 = .ok (.aload_n 0, 1) := by decide +kernel
theorem dX12_draw_17 : decode cX12_draw 17 = .ok (.getfield 534, 3) := by decide +kernel
theorem dX12_draw_20 : decode cX12_draw 20 = .ok (.bipush 16, 2) := by decide +kernel
theorem dX12_draw_22 : decode cX12_draw 22 = .ok (.iushr, 1) := by decide +kernel
theorem dX12_draw_23 : decode cX12_draw 23 = .ok (.iload_n 1, 1) := by decide +kernel
theorem dX12_draw_24 : decode cX12_draw 24 = .ok (.irem, 1) := by decide +kernel
theorem dX12_draw_25 : decode cX12_draw 25 = .ok (.ireturn, 1) := by decide +kernel
theorem dX12_drawDeed_0 : decode cX12_drawDeed 0 = .ok (.aload_n 0, 1) := by decide +kernel
theorem dX12_drawDeed_1 : decode cX12_drawDeed 1 = .ok (.aload_n 0, 1) := by decide +kernel
theorem dX12_drawDeed_2 : decode cX12_drawDeed 2 = .ok (.getfield 271, 3) := by decide +kernel
theorem dX12_drawDeed_5 : decode cX12_drawDeed 5 = .ok (.invokevirtual 538, 3) := by decide +kernel
theorem dX12_drawDeed_8 : decode cX12_drawDeed 8 = .ok (.istore_n 1, 1) := by decide +kernel
theorem dX12_drawDeed_9 : decode cX12_drawDeed 9 = .ok (.aload_n 0, 1) := by decide +kernel
theorem dX12_drawDeed_10 : decode cX12_drawDeed 10 = .ok (.bipush 8, 2) := by decide +kernel
theorem dX12_drawDeed_12 : decode cX12_drawDeed 12 = .ok (.invokevirtual 538, 3) := by decide +kernel
theorem dX12_drawDeed_15 : decode cX12_drawDeed 15 = .ok (.istore_n 2, 1) := by decide +kernel
theorem dX12_drawDeed_16 : decode cX12_drawDeed 16 = .ok (.iload_n 2, 1) := by decide +kernel
theorem dX12_drawDeed_17 : decode cX12_drawDeed 17 = .ok (.ifCond .ne 28, 3) := by decide +kernel
theorem dX12_drawDeed_20 : decode cX12_drawDeed 20 = .ok (.aload_n 0, 1) := by decide +kernel
theorem dX12_drawDeed_21 : decode cX12_drawDeed 21 = .ok (.getfield 274, 3) := by decide +kernel
theorem dX12_drawDeed_24 : decode cX12_drawDeed 24 = .ok (.ifCond .le 21, 3) := by decide +kernel
theorem dX12_drawDeed_27 : decode cX12_drawDeed 27 = .ok (.aload_n 0, 1) := by decide +kernel
theorem dX12_drawDeed_28 : decode cX12_drawDeed 28 = .ok (.iconst 0, 1) := by decide +kernel
theorem dX12_drawDeed_29 : decode cX12_drawDeed 29 = .ok (.iload_n 1, 1) := by decide +kernel
theorem dX12_drawDeed_30 : decode cX12_drawDeed 30 = .ok (.aload_n 0, 1) := by decide +kernel
theorem dX12_drawDeed_31 : decode cX12_drawDeed 31 = .ok (.aload_n 0, 1) := by decide +kernel
theorem dX12_drawDeed_32 : decode cX12_drawDeed 32 = .ok (.getfield 274, 3) := by decide +kernel
theorem dX12_drawDeed_35 : decode cX12_drawDeed 35 = .ok (.invokevirtual 538, 3) := by decide +kernel
theorem dX12_drawDeed_38 : decode cX12_drawDeed 38 = .ok (.invokevirtual 367, 3) := by decide +kernel
theorem dX12_drawDeed_41 : decode cX12_drawDeed 41 = .ok (.pop, 1) := by decide +kernel
theorem dX12_drawDeed_42 : decode cX12_drawDeed 42 = .ok (.goto 99, 3) := by decide +kernel
theorem dX12_drawDeed_45 : decode cX12_drawDeed 45 = .ok (.iload_n 2, 1) := by decide +kernel
theorem dX12_drawDeed_46 : decode cX12_drawDeed 46 = .ok (.iconst 1, 1) := by decide +kernel
theorem dX12_drawDeed_47 : decode cX12_drawDeed 47 = .ok (.if_icmp .eq 8, 3) := by decide +kernel
theorem dX12_drawDeed_50 : decode cX12_drawDeed 50 = .ok (.iload_n 2, 1) := by decide +kernel
theorem dX12_drawDeed_51 : decode cX12_drawDeed 51 = .ok (.iconst 2, 1) := by decide +kernel
theorem dX12_drawDeed_52 : decode cX12_drawDeed 52 = .ok (.if_icmp .ne 14, 3) := by decide +kernel
theorem dX12_drawDeed_55 : decode cX12_drawDeed 55 = .ok (.aload_n 0, 1) := by decide +kernel
theorem dX12_drawDeed_56 : decode cX12_drawDeed 56 = .ok (.iload_n 2, 1) := by decide +kernel
theorem dX12_drawDeed_57 : decode cX12_drawDeed 57 = .ok (.iload_n 1, 1) := by decide +kernel
theorem dX12_drawDeed_58 : decode cX12_drawDeed 58 = .ok (.iconst (-1), 1) := by decide +kernel
theorem dX12_drawDeed_59 : decode cX12_drawDeed 59 = .ok (.invokevirtual 367, 3) := by decide +kernel
theorem dX12_drawDeed_62 : decode cX12_drawDeed 62 = .ok (.pop, 1) := by decide +kernel
theorem dX12_drawDeed_63 : decode cX12_drawDeed 63 = .ok (.goto 78, 3) := by decide +kernel
theorem dX12_drawDeed_66 : decode cX12_drawDeed 66 = .ok (.iload_n 2, 1) := by decide +kernel
theorem dX12_drawDeed_67 : decode cX12_drawDeed 67 = .ok (.iconst 3, 1) := by decide +kernel
theorem dX12_drawDeed_68 : decode cX12_drawDeed 68 = .ok (.if_icmp .eq 8, 3) := by decide +kernel
theorem dX12_drawDeed_71 : decode cX12_drawDeed 71 = .ok (.iload_n 2, 1) := by decide +kernel
theorem dX12_drawDeed_72 : decode cX12_drawDeed 72 = .ok (.iconst 4, 1) := by decide +kernel
theorem dX12_drawDeed_73 : decode cX12_drawDeed 73 = .ok (.if_icmp .ne 28, 3) := by decide +kernel
theorem dX12_drawDeed_76 : decode cX12_drawDeed 76 = .ok (.aload_n 0, 1) := by decide +kernel
theorem dX12_drawDeed_77 : decode cX12_drawDeed 77 = .ok (.getfield 277, 3) := by decide +kernel
theorem dX12_drawDeed_80 : decode cX12_drawDeed 80 = .ok (.ifCond .le 21, 3) := by decide +kernel
theorem dX12_drawDeed_83 : decode cX12_drawDeed 83 = .ok (.aload_n 0, 1) := by decide +kernel
theorem dX12_drawDeed_84 : decode cX12_drawDeed 84 = .ok (.iconst 3, 1) := by decide +kernel
theorem dX12_drawDeed_85 : decode cX12_drawDeed 85 = .ok (.iload_n 1, 1) := by decide +kernel
theorem dX12_drawDeed_86 : decode cX12_drawDeed 86 = .ok (.aload_n 0, 1) := by decide +kernel
theorem dX12_drawDeed_87 : decode cX12_drawDeed 87 = .ok (.aload_n 0, 1) := by decide +kernel
theorem dX12_drawDeed_88 : decode cX12_drawDeed 88 = .ok (.getfield 277, 3) := by decide +kernel
theorem dX12_drawDeed_91 : decode cX12_drawDeed 91 = .ok (.invokevirtual 538, 3) := by decide +kernel
theorem dX12_drawDeed_94 : decode cX12_drawDeed 94 = .ok (.invokevirtual 367, 3) := by decide +kernel
theorem dX12_drawDeed_97 : decode cX12_drawDeed 97 = .ok (.pop, 1) := by decide +kernel
theorem dX12_drawDeed_98 : decode cX12_drawDeed 98 = .ok (.goto 43, 3) := by decide +kernel
theorem dX12_drawDeed_101 : decode cX12_drawDeed 101 = .ok (.iload_n 2, 1) := by decide +kernel
theorem dX12_drawDeed_102 : decode cX12_drawDeed 102 = .ok (.iconst 5, 1) := by decide +kernel
theorem dX12_drawDeed_103 : decode cX12_drawDeed 103 = .ok (.if_icmp .ne 14, 3) := by decide +kernel
theorem dX12_drawDeed_106 : decode cX12_drawDeed 106 = .ok (.aload_n 0, 1) := by decide +kernel
theorem dX12_drawDeed_107 : decode cX12_drawDeed 107 = .ok (.iconst 4, 1) := by decide +kernel
theorem dX12_drawDeed_108 : decode cX12_drawDeed 108 = .ok (.iconst 0, 1) := by decide +kernel
theorem dX12_drawDeed_109 : decode cX12_drawDeed 109 = .ok (.iload_n 1, 1) := by decide +kernel
theorem dX12_drawDeed_110 : decode cX12_drawDeed 110 = .ok (.invokevirtual 367, 3) := by decide +kernel
theorem dX12_drawDeed_113 : decode cX12_drawDeed 113 = .ok (.pop, 1) := by decide +kernel
theorem dX12_drawDeed_114 : decode cX12_drawDeed 114 = .ok (.goto 27, 3) := by decide +kernel
theorem dX12_drawDeed_117 : decode cX12_drawDeed 117 = .ok (.iload_n 2, 1) := by decide +kernel
theorem dX12_drawDeed_118 : decode cX12_drawDeed 118 = .ok (.iconst 5, 1) := by decide +kernel
theorem dX12_drawDeed_119 : decode cX12_drawDeed 119 = .ok (.if_icmp .le 22, 3) := by decide +kernel
theorem dX12_drawDeed_122 : decode cX12_drawDeed 122 = .ok (.aload_n 0, 1) := by decide +kernel
theorem dX12_drawDeed_123 : decode cX12_drawDeed 123 = .ok (.iload_n 2, 1) := by decide +kernel
theorem dX12_drawDeed_124 : decode cX12_drawDeed 124 = .ok (.bipush 6, 2) := by decide +kernel
theorem dX12_drawDeed_126 : decode cX12_drawDeed 126 = .ok (.if_icmp .ne 7, 3) := by decide +kernel
theorem dX12_drawDeed_129 : decode cX12_drawDeed 129 = .ok (.iconst 5, 1) := by decide +kernel
theorem dX12_drawDeed_130 : decode cX12_drawDeed 130 = .ok (.goto 5, 3) := by decide +kernel
theorem dX12_drawDeed_133 : decode cX12_drawDeed 133 = .ok (.bipush 6, 2) := by decide +kernel
theorem dX12_drawDeed_135 : decode cX12_drawDeed 135 = .ok (.iload_n 1, 1) := by decide +kernel
theorem dX12_drawDeed_136 : decode cX12_drawDeed 136 = .ok (.iconst (-1), 1) := by decide +kernel
theorem dX12_drawDeed_137 : decode cX12_drawDeed 137 = .ok (.invokevirtual 367, 3) := by decide +kernel
theorem dX12_drawDeed_140 : decode cX12_drawDeed 140 = .ok (.pop, 1) := by decide +kernel
theorem dX12_drawDeed_141 : decode cX12_drawDeed 141 = .ok (.return_, 1) := by decide +kernel
theorem dX12_drawn_0 : decode cX12_drawn 0 = .ok (.aload_n 0, 1) := by decide +kernel
theorem dX12_drawn_1 : decode cX12_drawn 1 = .ok (.iconst 0, 1) := by decide +kernel
theorem dX12_drawn_2 : decode cX12_drawn 2 = .ok (.putfield 103, 3) := by decide +kernel
theorem dX12_drawn_5 : decode cX12_drawn 5 = .ok (.iload_n 3, 1) := by decide +kernel
theorem dX12_drawn_6 : decode cX12_drawn 6 = .ok (.iconst 0, 1) := by decide +kernel
theorem dX12_drawn_7 : decode cX12_drawn 7 = .ok (.bipush 60, 2) := by decide +kernel
theorem dX12_drawn_9 : decode cX12_drawn 9 = .ok (.invokestatic 115, 3) := by decide +kernel
theorem dX12_drawn_12 : decode cX12_drawn 12 = .ok (.ifCond .eq 11, 3) := by decide +kernel
theorem dX12_drawn_15 : decode cX12_drawn 15 = .ok (.aload_n 0, 1) := by decide +kernel
theorem dX12_drawn_16 : decode cX12_drawn 16 = .ok (.iload_n 1, 1) := by decide +kernel
theorem dX12_drawn_17 : decode cX12_drawn 17 = .ok (.invokevirtual 292, 3) := by decide +kernel
theorem dX12_drawn_20 : decode cX12_drawn 20 = .ok (.ifCond .ne 6, 3) := by decide +kernel
theorem dX12_drawn_23 : decode cX12_drawn 23 = .ok (.bipush (-2), 2) := by decide +kernel
theorem dX12_drawn_25 : decode cX12_drawn 25 = .ok (.ireturn, 1) := by decide +kernel
theorem dX12_drawn_26 : decode cX12_drawn 26 = .ok (.aload_n 0, 1) := by decide +kernel
theorem dX12_drawn_27 : decode cX12_drawn 27 = .ok (.iload_n 2, 1) := by decide +kernel
theorem dX12_drawn_28 : decode cX12_drawn 28 = .ok (.putfield 534, 3) := by decide +kernel
theorem dX12_drawn_31 : decode cX12_drawn 31 = .ok (.aload_n 0, 1) := by decide +kernel
theorem dX12_drawn_32 : decode cX12_drawn 32 = .ok (.invokevirtual 364, 3) := by decide +kernel
theorem dX12_drawn_35 : decode cX12_drawn 35 = .ok (.iconst 0, 1) := by decide +kernel
theorem dX12_drawn_36 : decode cX12_drawn 36 = .ok (.istore 5, 2) := by decide +kernel
theorem dX12_drawn_38 : decode cX12_drawn 38 = .ok (.iload 5, 2) := by decide +kernel
theorem dX12_drawn_40 : decode cX12_drawn 40 = .ok (.iload_n 3, 1) := by decide +kernel
theorem dX12_drawn_41 : decode cX12_drawn 41 = .ok (.if_icmp .ge 20, 3) := by decide +kernel
theorem dX12_drawn_44 : decode cX12_drawn 44 = .ok (.aload_n 0, 1) := by decide +kernel
theorem dX12_drawn_45 : decode cX12_drawn 45 = .ok (.getfield 271, 3) := by decide +kernel
theorem dX12_drawn_48 : decode cX12_drawn 48 = .ok (.ifCond .le 13, 3) := by decide +kernel
theorem dX12_drawn_51 : decode cX12_drawn 51 = .ok (.aload_n 0, 1) := by decide +kernel
theorem dX12_drawn_52 : decode cX12_drawn 52 = .ok (.invokevirtual 541, 3) := by decide +kernel
theorem dX12_drawn_55 : decode cX12_drawn 55 = .ok (.iinc 5 1, 3) := by decide +kernel
theorem dX12_drawn_58 : decode cX12_drawn 58 = .ok (.goto (-20), 3) := by decide +kernel
theorem dX12_drawn_61 : decode cX12_drawn 61 = .ok (.aload_n 0, 1) := by decide +kernel
theorem dX12_drawn_62 : decode cX12_drawn 62 = .ok (.iload 4, 2) := by decide +kernel
theorem dX12_drawn_64 : decode cX12_drawn 64 = .ok (.invokevirtual 379, 3) := by decide +kernel
theorem dX12_drawn_67 : decode cX12_drawn 67 = .ok (.ireturn, 1) := by decide +kernel
theorem tf_7_79 : tFld TB0 7 79 = some (0, 5) := rfl
theorem tf_7_104 : tFld TB0 7 104 = some (2, 5) := rfl
theorem tf_12_534 : tFld TB0 12 534 = some (12, 57) := rfl
set_option maxRecDepth 20000 in
theorem tm_7_82 : tMet TB0 7 82 = some (0, M_X7_draw) := rfl
set_option maxRecDepth 20000 in
theorem tm_7_86 : tMet TB0 7 86 = some (0, M_X7_drawDeed) := rfl
set_option maxRecDepth 20000 in
theorem tm_11_252 : tMet TB0 11 252 = some (0, M_X7_drawAll) := rfl
set_option maxRecDepth 20000 in
theorem tm_12_538 : tMet TB0 12 538 = some (0, M_X12_draw) := rfl
set_option maxRecDepth 20000 in
theorem tm_12_541 : tMet TB0 12 541 = some (0, M_X12_drawDeed) := rfl
theorem tl_7_120 : tLdc TB0 7 120 = some (.inl (1103515245)) := rfl
theorem tl_12_537 : tLdc TB0 12 537 = some (.inl (1103515245)) := rfl
/-! DRAWN -/
theorem zI_mod (x : Int) : zI (x % 4294967296) = zI x := by
  have h : x = x % 4294967296 + 4294967296 * (x / 4294967296) := by omega
  have z : zI 4294967296 = 0 := by decide
  have e : zI x = zI (x % 4294967296 + 4294967296 * (x / 4294967296)) := congrArg zI h
  rw [e, ← zI_add, ← zI_mul, z]
  simp
theorem z_iushr16 {T : mTb} {ad : mA} {M : mM} {dp : Nat} {lim : Nat × Nat} {cal : mC} {Q : mZ} {pc : Nat} {L : mL} {h : mH} {zz : Nat × Nat} {r : List Value} {x : Int} (hd : decode (mMc M) pc = .ok (.iushr, 1)) (k : mEv T ad M dp lim cal Q (pc + 1) L (.int (zI (x % 4294967296 / 65536)) :: r) h zz) : mEv T ad M dp lim cal Q pc L (.int (zI 16) :: .int (zI x) :: r) h zz := by
  refine e_iushr hd ?_
  rw [← zI_mod x, zI_nI (show 0 ≤ x % 4294967296 by omega), pk_ushrN (by omega) (zI 16) 16 (by decide), ← zI_nat]
  rw [show ((x % 4294967296).toNat / 2 ^ 16 : Nat) = (x % 4294967296 / 65536).toNat by omega, Int.toNat_of_nonneg (by omega)]
  exact k
def dwZ (x : Int) : Int := (zI (x * 1103515245 + 12345)).toInt
def dvZ (x n : Int) : Int := dwZ x % 4294967296 / 65536 % n
theorem dwZ_b (x : Int) : -2147483648 ≤ dwZ x ∧ dwZ x < 2147483648 := in_of _
theorem dvZ_b (x : Int) {n : Int} (h : 0 < n) : 0 ≤ dvZ x n ∧ dvZ x n < n := by
  unfold dvZ
  exact ⟨Int.emod_nonneg _ (by omega), Int.emod_lt_of_pos _ h⟩
theorem rI_eqW {h h1 : mH} {a : Nat} {z v : Int} (e : h1 = sI h a z v) : rI h1 a z = (zI v).toInt := by
  subst e; unfold rI; rw [mI_sI, if_pos ⟨rfl, rfl⟩]
def sdS (h : mH) (s : Nat) (x : Int) : Prop := rI h s 9 = x
theorem sdS_c {S : Nat → Nat → Prop} {h h1 : mH} {s : Nat} {x : Int} (f : frm S h h1) (n : ∀ a i, a = s → i = 9 → ¬ S a i) (H : sdS h s x) : sdS h1 s x := (frm_r f (n s 9 rfl rfl)).trans H
def sdR (h : mH) (m : Nat) (x : Int) : Prop := rI h m 57 = x
theorem sdR_c {S : Nat → Nat → Prop} {h h1 : mH} {s : Nat} {x : Int} (f : frm S h h1) (n : ∀ a i, a = s → i = 57 → ¬ S a i) (H : sdR h s x) : sdR h1 s x := (frm_r f (n s 57 rfl rfl)).trans H
theorem nG7 {g q : Int → Int} {a b : Int} : nG g q 7 a b = g := by unfold nG; simp
theorem nQ7 {g q : Int → Int} {a b : Int} : nQ g q 7 a b = q := by unfold nQ; simp
theorem wfQ_up {q : Int → Int} {n k : Int} (w : wfQ q n) (h : n ≤ k) (h2 : k ≤ 1000) : wfQ q k := by
  have := wfQ_e w
  unfold wfQ; omega
def dkK (g : Int → Int) (w : Int) : Int := if w = 0 then (if 0 < nu g then 0 else 7) else if w = 1 then 1 else if w = 2 then 2 else if w = 3 ∨ w = 4 then (if 0 < nc g then 3 else 7) else if w = 5 then 4 else if w = 6 then 5 else 6
def dkA (w d : Int) : Int := if w = 5 then 0 else d
def dkB (g : Int → Int) (w d x : Int) : Int := if w = 0 then dvZ x (nu g) else if w = 3 ∨ w = 4 then dvZ x (nc g) else if w = 5 then d else -1
def dkX (g : Int → Int) (w x : Int) : Int := if (w = 0 ∧ 0 < nu g) ∨ ((w = 3 ∨ w = 4) ∧ 0 < nc g) then dwZ x else x
def DG (g q : Int → Int) (w d x : Int) : Int → Int := nG g q (dkK g w) (dkA w d) (dkB g w d x)
def DQ (g q : Int → Int) (w d x : Int) : Int → Int := nQ g q (dkK g w) (dkA w d) (dkB g w d x)
def drN (g : Int → Int) (x : Int) : Nat → (Int → Int) × (Int → Int) × Int
  | 0 => (g, fun _ => 0, x)
  | k + 1 =>
    if 0 < nd (drN g x k).1 then (DG (drN g x k).1 (drN g x k).2.1 (dvZ (dwZ (drN g x k).2.2) 8) (dvZ (drN g x k).2.2 (nd (drN g x k).1)) (dwZ (dwZ (drN g x k).2.2)), DQ (drN g x k).1 (drN g x k).2.1 (dvZ (dwZ (drN g x k).2.2) 8) (dvZ (drN g x k).2.2 (nd (drN g x k).1)) (dwZ (dwZ (drN g x k).2.2)), dkX (drN g x k).1 (dvZ (dwZ (drN g x k).2.2) 8) (dwZ (dwZ (drN g x k).2.2)))
    else drN g x k
def drG (g : Int → Int) (x k : Int) : Int → Int := (drN g x k.toNat).1
def drQ (g : Int → Int) (x k : Int) : Int → Int := (drN g x k.toNat).2.1
def drX (g : Int → Int) (x k : Int) : Int := (drN g x k.toNat).2.2
theorem dr_s {g : Int → Int} {x k : Int} (h : 0 ≤ k) (hn : 0 < nd (drG g x k)) : drG g x (k + 1) = DG (drG g x k) (drQ g x k) (dvZ (dwZ (drX g x k)) 8) (dvZ (drX g x k) (nd (drG g x k))) (dwZ (dwZ (drX g x k))) ∧ drQ g x (k + 1) = DQ (drG g x k) (drQ g x k) (dvZ (dwZ (drX g x k)) 8) (dvZ (drX g x k) (nd (drG g x k))) (dwZ (dwZ (drX g x k))) ∧ drX g x (k + 1) = dkX (drG g x k) (dvZ (dwZ (drX g x k)) 8) (dwZ (dwZ (drX g x k))) := by
  unfold drG drQ drX at *
  rw [show (k + 1).toNat = k.toNat + 1 by omega]
  simp only [drN, if_pos hn]
  exact ⟨trivial, trivial, trivial⟩
theorem dr_0 {g : Int → Int} {x : Int} {k : Nat} (hn : ¬ 0 < nd (drN g x k).1) (j : Nat) : drN g x (k + j) = drN g x k := by
  induction j with
  | zero => rfl
  | succ j ih =>
    rw [show k + (j + 1) = (k + j) + 1 from rfl, drN, if_neg (by rw [ih]; exact hn)]
    exact ih
theorem dr_e {g : Int → Int} {x k t : Int} (h0 : 0 ≤ k) (h1 : k ≤ t) (hn : ¬ 0 < nd (drG g x k)) : drG g x t = drG g x k ∧ drQ g x t = drQ g x k := by
  have := dr_0 (x := x) (k := k.toNat) hn (t.toNat - k.toNat)
  unfold drG drQ
  rw [show k.toNat + (t.toNat - k.toNat) = t.toNat by omega] at this
  rw [this]; exact ⟨rfl, rfl⟩
set_option maxHeartbeats 400000 in
theorem zp_X7_draw {ad : mA} {dd : Nat} {h : mH} {Q : mQ} {s : Nat} {x : Int} (hk : sek h s) (HS : sdS h s x)  (n : Int) (n_r : -2147483648 ≤ n ∧ n < 2147483648) (p1 : 0 < n ∧ n < 1000) (kq : ∀ h1, frm (fun a k => a = s ∧ k = 9) h h1 → (sdS h1 s (dwZ x)) → Q (some (.int (zI (dvZ x n)))) h1) : mCal TB0 ad (dd + 1) M_X7_draw [.ref s, .int (zI n)] h 0 0 Q := by
  refine ⟨Nat.le_of_ble_eq_true rfl, ?_⟩
  show mEv TB0 ad M_X7_draw (dd + 1) (0, 0) (mCal TB0 ad (dd + 0)) (fun v h' z => z.1 = 0 ∧ Q v h') 0 [some (.ref s), some (.int (zI n))] [] h (0, 0)
  have FR0 : frm (fun a k => a = s ∧ k = 9) h h := frm_0 h
  refine e_aload_n dX7_draw_0 rfl ?_
  refine e_aload_n dX7_draw_1 rfl ?_
  refine z_get x dX7_draw_2 tf_7_43 (congrArg Prod.fst (se_s0 hk)) (Or.inl rfl) HS ?_
  have y1 := rI_r HS
  refine z_ldc (1103515245) dX7_draw_5 tl_7_120 rfl ?_
  refine z_imul dX7_draw_7 ?_
  refine z_sipush (12345) dX7_draw_8 rfl ?_
  refine z_iadd dX7_draw_11 ?_
  refine z_put dX7_draw_12 tf_7_43 (congrArg Prod.fst (se_s0 hk)) rfl (Or.inl rfl) (fun h2 e3 => ?_)
  have f4 := frm_1 e3
  have k5 := lk_q (frm_s f4) hk
  have FR6 := frm_t FR0 (frm_m (S' := (fun a k => a = s ∧ k = 9)) f4 (fun a k q => by omega))
  have NS : sdS h2 s (dwZ x) := rI_eqW e3
  refine e_iload_n dX7_draw_15 rfl ?_
  refine z_if_gt 23 dX7_draw_16 rfl ⟨by omega, by omega⟩ (fun c7 => ?_) (fun c7 => ?_)
  · skip
    refine e_aload_n dX7_draw_23 rfl ?_
    refine z_get (dwZ x) dX7_draw_24 tf_7_43 (congrArg Prod.fst (se_s0 k5)) (Or.inl rfl) NS ?_
    have y8 := rI_r NS
    have d0 := dwZ_b x
    refine z_bipush (16) dX7_draw_27 rfl ?_
    refine z_iushr16 dX7_draw_29 ?_
    refine e_iload_n dX7_draw_30 rfl ?_
    refine z_irem dX7_draw_31 (by omega) (by omega) (by omega) (by omega) ?_
    refine z_iret dX7_draw_32 rfl ⟨rfl, ?_⟩
    exact kq _ FR6 NS
  · exfalso; omega
set_option maxHeartbeats 400000 in
theorem zp_X12_draw {ad : mA} {dd : Nat} {h : mH} {Q : mQ} {m : Nat} {x : Int} (hk : rk h m) (HS : sdR h m x)  (n : Int) (n_r : -2147483648 ≤ n ∧ n < 2147483648) (p1 : 0 < n ∧ n < 1000) (kq : ∀ h1, frm (fun a k => a = m ∧ k = 57) h h1 → (sdR h1 m (dwZ x)) → Q (some (.int (zI (dvZ x n)))) h1) : mCal TB0 ad (dd + 1) M_X12_draw [.ref m, .int (zI n)] h 0 0 Q := by
  refine ⟨Nat.le_of_ble_eq_true rfl, ?_⟩
  show mEv TB0 ad M_X12_draw (dd + 1) (0, 0) (mCal TB0 ad (dd + 0)) (fun v h' z => z.1 = 0 ∧ Q v h') 0 [some (.ref m), some (.int (zI n))] [] h (0, 0)
  have FR0 : frm (fun a k => a = m ∧ k = 57) h h := frm_0 h
  refine e_aload_n dX12_draw_0 rfl ?_
  refine e_aload_n dX12_draw_1 rfl ?_
  refine z_get x dX12_draw_2 tf_12_534 (rk_s hk) (Or.inl rfl) HS ?_
  have y1 := rI_r HS
  refine z_ldc_w (1103515245) dX12_draw_5 tl_12_537 rfl ?_
  refine z_imul dX12_draw_8 ?_
  refine z_sipush (12345) dX12_draw_9 rfl ?_
  refine z_iadd dX12_draw_12 ?_
  refine z_put dX12_draw_13 tf_12_534 (rk_s hk) rfl (Or.inl rfl) (fun h2 e3 => ?_)
  have f4 := frm_1 e3
  have k5 := rk_q (frm_s f4) hk
  have FR6 := frm_t FR0 (frm_m (S' := (fun a k => a = m ∧ k = 57)) f4 (fun a k q => by omega))
  have NS : sdR h2 m (dwZ x) := rI_eqW e3
  refine e_aload_n dX12_draw_16 rfl ?_
  refine z_get (dwZ x) dX12_draw_17 tf_12_534 (rk_s k5) (Or.inl rfl) NS ?_
  have y7 := rI_r NS
  refine z_bipush (16) dX12_draw_20 rfl ?_
  refine z_iushr16 dX12_draw_22 ?_
  refine e_iload_n dX12_draw_23 rfl ?_
  refine z_irem dX12_draw_24 (by omega) (by omega) (by omega) (by omega) ?_
  refine z_iret dX12_draw_25 rfl ⟨rfl, ?_⟩
  exact kq _ FR6 NS
set_option maxHeartbeats 3000000 in
theorem zp_X7_drawDeed {ad : mA} {dd : Nat} {h : mH} {Q : mQ} {s : Nat} {g q : Int → Int} {n x : Int} (hk : sek h s) (HF : isF h (s + 1) g) (HQ : isS h s q n) (HS : sdS h s x)  (d : Int) (d_r : -2147483648 ≤ d ∧ d < 2147483648) (w : Int) (w_r : -2147483648 ≤ w ∧ w < 2147483648) (pn : n < 1000) (p1 : 0 ≤ d ∧ d < nd g) (p2 : 0 ≤ w ∧ w < 8) (kq : ∀ h1, frm (fun a k => (a = s ∧ 1 ≤ k ∧ k ≤ 9) ∨ (s + 1 ≤ a ∧ a < s + 17)) h h1 → (isF h1 (s + 1) (DG g q w d x)) → (isS h1 s (DQ g q w d x) (n + 1)) → (sdS h1 s (dkX g w x)) → Q none h1) : mCal TB0 ad (dd + 5) M_X7_drawDeed [.ref s, .int (zI d), .int (zI w)] h 0 0 Q := by
  refine ⟨Nat.le_of_ble_eq_true rfl, ?_⟩
  show mEv TB0 ad M_X7_drawDeed (dd + 5) (0, 0) (mCal TB0 ad (dd + 4)) (fun v h' z => z.1 = 0 ∧ Q v h') 0 [some (.ref s), some (.int (zI d)), some (.int (zI w))] [] h (0, 0)
  have FR0 : frm (fun a k => (a = s ∧ 1 ≤ k ∧ k ≤ 9) ∨ (s + 1 ≤ a ∧ a < s + 17)) h h := frm_0 h
  have w1 := isF_n HF
  have w2 : rI h (s + 2) 5 = nd g := isF_nd HF
  have w3 : rI h (s + 8) 5 = nu g := isF_nu HF
  have W := isF_w HF
  have wq := wfQ_e HQ.1
  refine e_iload_n dX7_drawDeed_0 rfl ?_
  by_cases c1 : w = 0
  · skip
    refine z_tableV (0) 44 dX7_drawDeed_1 c1 (by decide) (by decide +kernel) ?_
    skip
    refine e_aload_n dX7_drawDeed_44 rfl ?_
    refine e_get (.ref (s + 1)) dX7_drawDeed_45 tf_7_12 (congrArg Prod.fst (se_s0 hk)) (congrArg va_rf (se_r0_0 hk)) ?_
    refine e_get (.ref (s + 8)) dX7_drawDeed_48 tf_7_90 (congrArg Prod.fst (se_s1 hk)) (congrArg va_rf (se_r1_1 hk)) ?_
    refine z_get (nu g) dX7_drawDeed_51 tf_7_79 (congrArg Prod.fst (se_s8 hk)) (Or.inl rfl) (isF_nu HF) ?_
    have y2 := isF_n HF
    refine z_if_le 152 dX7_drawDeed_54 rfl ⟨by omega, by omega⟩ (fun c3 => ?_) (fun c3 => ?_)
    · skip
      skip
      refine e_vret dX7_drawDeed_152 rfl ⟨rfl, ?_⟩
      have ew : w = 0 := by omega
      subst ew
      refine kq _ FR0 ?_ ?_ ?_
      · have e : DG g q 0 d x = g := by simp [DG, DQ, dkK, dkA, dkB, dkX, nG7, nQ7, show ¬ 0 < nu g by omega]
        rw [e]; exact HF
      · have e : DQ g q 0 d x = q := by simp [DG, DQ, dkK, dkA, dkB, dkX, nG7, nQ7, show ¬ 0 < nu g by omega]
        rw [e]; exact (isS_1 HQ pn)
      · have e : dkX g 0 x = x := by simp [DG, DQ, dkK, dkA, dkB, dkX, nG7, nQ7, show ¬ 0 < nu g by omega]
        rw [e]; exact HS
    · skip
      skip
      refine e_aload_n dX7_drawDeed_57 rfl ?_
      refine e_iload_n dX7_drawDeed_58 rfl ?_
      refine e_aload_n dX7_drawDeed_59 rfl ?_
      refine e_aload_n dX7_drawDeed_60 rfl ?_
      refine e_get (.ref (s + 1)) dX7_drawDeed_61 tf_7_12 (congrArg Prod.fst (se_s0 hk)) (congrArg va_rf (se_r0_0 hk)) ?_
      refine e_get (.ref (s + 8)) dX7_drawDeed_64 tf_7_90 (congrArg Prod.fst (se_s1 hk)) (congrArg va_rf (se_r1_1 hk)) ?_
      refine z_get (nu g) dX7_drawDeed_67 tf_7_79 (congrArg Prod.fst (se_s8 hk)) (Or.inl rfl) (isF_nu HF) ?_
      have y4 := isF_n HF
      refine e_callV [.int _] dX7_drawDeed_70 tm_7_82 rfl (Nat.le_of_ble_eq_true rfl) (congrArg Prod.fst (se_s0 hk)) (Nat.le_of_ble_eq_true rfl) (Nat.le_refl _) (Nat.le_refl _) rfl (zp_X7_draw hk HS (nu g) ⟨by omega, by omega⟩ (by omega) (fun  h5 f6 p7 => ?_))
      have k8 := lk_q (frm_s f6) hk
      have H9 := isF_c f6 (fun a k q1 q2 => by omega) HF
      have H10 := isS_c f6 (fun a k q1 q2 q3 => by omega) HQ
      have FR11 := frm_t FR0 (frm_m (S' := (fun a k => (a = s ∧ 1 ≤ k ∧ k ≤ 9) ∨ (s + 1 ≤ a ∧ a < s + 17))) f6 (fun a k q => by omega))
      have y12 := dvZ_b x (show 0 < (nu g) by omega)
      refine e_callV [.int _, .int _] dX7_drawDeed_73 tm_7_93 rfl (Nat.le_of_ble_eq_true rfl) (congrArg Prod.fst (se_s0 k8)) (Nat.le_of_ble_eq_true rfl) (Nat.le_refl _) (Nat.le_refl _) rfl (zp_X7_rivetThem k8 H9 d ⟨by omega, by omega⟩ (dvZ x (nu g)) ⟨by omega, by omega⟩ (fun  h13 f14 p15 => ?_))
      have k16 := lk_q (frm_s f14) k8
      have H17 := isS_c f14 (fun a k q1 q2 q3 => by omega) H10
      have H18 := sdS_c f14 (fun a k q1 q2 => by omega) p7
      have FR19 := frm_t FR11 (frm_m (S' := (fun a k => (a = s ∧ 1 ≤ k ∧ k ≤ 9) ∨ (s + 1 ≤ a ∧ a < s + 17))) f14 (fun a k q => by omega))
      refine e_pop dX7_drawDeed_76 rfl ?_
      refine e_goto 152 dX7_drawDeed_77 rfl ?_
      skip
      refine e_vret dX7_drawDeed_152 rfl ⟨rfl, ?_⟩
      have ew : w = 0 := by omega
      subst ew
      refine kq _ FR19 ?_ ?_ ?_
      · have e : DG g q 0 d x = (rvG g d (dvZ x (nu g))) := by simp [DG, DQ, dkK, dkA, dkB, dkX, nG0, nQ0, show 0 < nu g by omega]
        rw [e]; exact p15
      · have e : DQ g q 0 d x = q := by simp [DG, DQ, dkK, dkA, dkB, dkX, nG0, nQ0, show 0 < nu g by omega]
        rw [e]; exact (isS_1 H17 pn)
      · have e : dkX g 0 x = (dwZ x) := by simp [DG, DQ, dkK, dkA, dkB, dkX, nG0, nQ0, show 0 < nu g by omega]
        rw [e]; exact H18
  by_cases c20 : w = 1
  · skip
    refine z_tableV (1) 80 dX7_drawDeed_1 c20 (by decide) (by decide +kernel) ?_
    skip
    refine e_aload_n dX7_drawDeed_80 rfl ?_
    refine e_iload_n dX7_drawDeed_81 rfl ?_
    refine e_callV [.int _] dX7_drawDeed_82 tm_7_97 rfl (Nat.le_of_ble_eq_true rfl) (congrArg Prod.fst (se_s0 hk)) (Nat.le_of_ble_eq_true rfl) (Nat.le_refl _) (Nat.le_refl _) rfl (zp_X7_heatHim hk HF HQ d ⟨by omega, by omega⟩ (by omega) (fun  h21 f22 p23 => ?_))
    have k24 := lk_q (frm_s f22) hk
    have H25 := isF_c f22 (fun a k q1 q2 => by omega) HF
    have H26 := sdS_c f22 (fun a k q1 q2 => by omega) HS
    have FR27 := frm_t FR0 (frm_m (S' := (fun a k => (a = s ∧ 1 ≤ k ∧ k ≤ 9) ∨ (s + 1 ≤ a ∧ a < s + 17))) f22 (fun a k q => by omega))
    refine e_pop dX7_drawDeed_85 rfl ?_
    refine e_goto 152 dX7_drawDeed_86 rfl ?_
    skip
    refine e_vret dX7_drawDeed_152 rfl ⟨rfl, ?_⟩
    have ew : w = 1 := by omega
    subst ew
    refine kq _ FR27 ?_ ?_ ?_
    · have e : DG g q 1 d x = g := by simp [DG, DQ, dkK, dkA, dkB, dkX, nG1, nQ1]
      rw [e]; exact H25
    · have e : DQ g q 1 d x = (heQ g q d) := by simp [DG, DQ, dkK, dkA, dkB, dkX, nG1, nQ1]
      rw [e]; exact p23
    · have e : dkX g 1 x = x := by simp [DG, DQ, dkK, dkA, dkB, dkX, nG1, nQ1]
      rw [e]; exact H26
  by_cases c28 : w = 2
  · skip
    refine z_tableV (2) 89 dX7_drawDeed_1 c28 (by decide) (by decide +kernel) ?_
    skip
    refine e_aload_n dX7_drawDeed_89 rfl ?_
    refine e_iload_n dX7_drawDeed_90 rfl ?_
    refine e_callV [.int _] dX7_drawDeed_91 tm_7_101 rfl (Nat.le_of_ble_eq_true rfl) (congrArg Prod.fst (se_s0 hk)) (Nat.le_of_ble_eq_true rfl) (Nat.le_refl _) (Nat.le_refl _) rfl (zp_X7_partThem hk HF HQ d ⟨by omega, by omega⟩ (fun  h29 f30 p31 => ?_))
    have k32 := lk_q (frm_s f30) hk
    have H33 := isS_c f30 (fun a k q1 q2 q3 => by omega) HQ
    have H34 := sdS_c f30 (fun a k q1 q2 => by omega) HS
    have FR35 := frm_t FR0 (frm_m (S' := (fun a k => (a = s ∧ 1 ≤ k ∧ k ≤ 9) ∨ (s + 1 ≤ a ∧ a < s + 17))) f30 (fun a k q => by omega))
    refine e_pop dX7_drawDeed_94 rfl ?_
    refine e_goto 152 dX7_drawDeed_95 rfl ?_
    skip
    refine e_vret dX7_drawDeed_152 rfl ⟨rfl, ?_⟩
    have ew : w = 2 := by omega
    subst ew
    refine kq _ FR35 ?_ ?_ ?_
    · have e : DG g q 2 d x = (paG g q d) := by simp [DG, DQ, dkK, dkA, dkB, dkX, nG2, nQ2]
      rw [e]; exact p31
    · have e : DQ g q 2 d x = q := by simp [DG, DQ, dkK, dkA, dkB, dkX, nG2, nQ2]
      rw [e]; exact (isS_1 H33 pn)
    · have e : dkX g 2 x = x := by simp [DG, DQ, dkK, dkA, dkB, dkX, nG2, nQ2]
      rw [e]; exact H34
  by_cases c36 : w = 3
  · skip
    refine z_tableV (3) 98 dX7_drawDeed_1 c36 (by decide) (by decide +kernel) ?_
    skip
    refine e_aload_n dX7_drawDeed_98 rfl ?_
    refine e_get (.ref (s + 1)) dX7_drawDeed_99 tf_7_12 (congrArg Prod.fst (se_s0 hk)) (congrArg va_rf (se_r0_0 hk)) ?_
    refine z_get (nc g) dX7_drawDeed_102 tf_7_104 (congrArg Prod.fst (se_s1 hk)) (Or.inl rfl) (isF_nc HF) ?_
    have y37 := isF_n HF
    refine z_if_le 152 dX7_drawDeed_105 rfl ⟨by omega, by omega⟩ (fun c38 => ?_) (fun c38 => ?_)
    · skip
      skip
      refine e_vret dX7_drawDeed_152 rfl ⟨rfl, ?_⟩
      have ew : w = 3 := by omega
      subst ew
      refine kq _ FR0 ?_ ?_ ?_
      · have e : DG g q 3 d x = g := by simp [DG, DQ, dkK, dkA, dkB, dkX, nG7, nQ7, show ¬ 0 < nc g by omega]
        rw [e]; exact HF
      · have e : DQ g q 3 d x = q := by simp [DG, DQ, dkK, dkA, dkB, dkX, nG7, nQ7, show ¬ 0 < nc g by omega]
        rw [e]; exact (isS_1 HQ pn)
      · have e : dkX g 3 x = x := by simp [DG, DQ, dkK, dkA, dkB, dkX, nG7, nQ7, show ¬ 0 < nc g by omega]
        rw [e]; exact HS
    · skip
      skip
      refine e_aload_n dX7_drawDeed_108 rfl ?_
      refine e_iload_n dX7_drawDeed_109 rfl ?_
      refine e_aload_n dX7_drawDeed_110 rfl ?_
      refine e_aload_n dX7_drawDeed_111 rfl ?_
      refine e_get (.ref (s + 1)) dX7_drawDeed_112 tf_7_12 (congrArg Prod.fst (se_s0 hk)) (congrArg va_rf (se_r0_0 hk)) ?_
      refine z_get (nc g) dX7_drawDeed_115 tf_7_104 (congrArg Prod.fst (se_s1 hk)) (Or.inl rfl) (isF_nc HF) ?_
      have y39 := isF_n HF
      refine e_callV [.int _] dX7_drawDeed_118 tm_7_82 rfl (Nat.le_of_ble_eq_true rfl) (congrArg Prod.fst (se_s0 hk)) (Nat.le_of_ble_eq_true rfl) (Nat.le_refl _) (Nat.le_refl _) rfl (zp_X7_draw hk HS (nc g) ⟨by omega, by omega⟩ (by omega) (fun  h40 f41 p42 => ?_))
      have k43 := lk_q (frm_s f41) hk
      have H44 := isF_c f41 (fun a k q1 q2 => by omega) HF
      have H45 := isS_c f41 (fun a k q1 q2 q3 => by omega) HQ
      have FR46 := frm_t FR0 (frm_m (S' := (fun a k => (a = s ∧ 1 ≤ k ∧ k ≤ 9) ∨ (s + 1 ≤ a ∧ a < s + 17))) f41 (fun a k q => by omega))
      have y47 := dvZ_b x (show 0 < (nc g) by omega)
      refine e_callV [.int _, .int _] dX7_drawDeed_121 tm_7_107 rfl (Nat.le_of_ble_eq_true rfl) (congrArg Prod.fst (se_s0 k43)) (Nat.le_of_ble_eq_true rfl) (Nat.le_refl _) (Nat.le_refl _) rfl (zp_X7_cutCloth k43 H44 H45 d ⟨by omega, by omega⟩ (dvZ x (nc g)) ⟨by omega, by omega⟩ (by omega) (fun  h48 f49 p50 p51 => ?_))
      have k52 := lk_q (frm_s f49) k43
      have H53 := sdS_c f49 (fun a k q1 q2 => by omega) p42
      have FR54 := frm_t FR46 (frm_m (S' := (fun a k => (a = s ∧ 1 ≤ k ∧ k ≤ 9) ∨ (s + 1 ≤ a ∧ a < s + 17))) f49 (fun a k q => by omega))
      refine e_pop dX7_drawDeed_124 rfl ?_
      refine e_goto 152 dX7_drawDeed_125 rfl ?_
      skip
      refine e_vret dX7_drawDeed_152 rfl ⟨rfl, ?_⟩
      have ew : w = 3 := by omega
      subst ew
      refine kq _ FR54 ?_ ?_ ?_
      · have e : DG g q 3 d x = (cuG g q d (dvZ x (nc g))) := by simp [DG, DQ, dkK, dkA, dkB, dkX, nG3, nQ3, show 0 < nc g by omega]
        rw [e]; exact p50
      · have e : DQ g q 3 d x = (cuQ g q d (dvZ x (nc g))) := by simp [DG, DQ, dkK, dkA, dkB, dkX, nG3, nQ3, show 0 < nc g by omega]
        rw [e]; exact p51
      · have e : dkX g 3 x = (dwZ x) := by simp [DG, DQ, dkK, dkA, dkB, dkX, nG3, nQ3, show 0 < nc g by omega]
        rw [e]; exact H53
  by_cases c55 : w = 4
  · skip
    refine z_tableV (4) 98 dX7_drawDeed_1 c55 (by decide) (by decide +kernel) ?_
    skip
    refine e_aload_n dX7_drawDeed_98 rfl ?_
    refine e_get (.ref (s + 1)) dX7_drawDeed_99 tf_7_12 (congrArg Prod.fst (se_s0 hk)) (congrArg va_rf (se_r0_0 hk)) ?_
    refine z_get (nc g) dX7_drawDeed_102 tf_7_104 (congrArg Prod.fst (se_s1 hk)) (Or.inl rfl) (isF_nc HF) ?_
    have y56 := isF_n HF
    refine z_if_le 152 dX7_drawDeed_105 rfl ⟨by omega, by omega⟩ (fun c57 => ?_) (fun c57 => ?_)
    · skip
      skip
      refine e_vret dX7_drawDeed_152 rfl ⟨rfl, ?_⟩
      have ew : w = 4 := by omega
      subst ew
      refine kq _ FR0 ?_ ?_ ?_
      · have e : DG g q 4 d x = g := by simp [DG, DQ, dkK, dkA, dkB, dkX, nG7, nQ7, show ¬ 0 < nc g by omega]
        rw [e]; exact HF
      · have e : DQ g q 4 d x = q := by simp [DG, DQ, dkK, dkA, dkB, dkX, nG7, nQ7, show ¬ 0 < nc g by omega]
        rw [e]; exact (isS_1 HQ pn)
      · have e : dkX g 4 x = x := by simp [DG, DQ, dkK, dkA, dkB, dkX, nG7, nQ7, show ¬ 0 < nc g by omega]
        rw [e]; exact HS
    · skip
      skip
      refine e_aload_n dX7_drawDeed_108 rfl ?_
      refine e_iload_n dX7_drawDeed_109 rfl ?_
      refine e_aload_n dX7_drawDeed_110 rfl ?_
      refine e_aload_n dX7_drawDeed_111 rfl ?_
      refine e_get (.ref (s + 1)) dX7_drawDeed_112 tf_7_12 (congrArg Prod.fst (se_s0 hk)) (congrArg va_rf (se_r0_0 hk)) ?_
      refine z_get (nc g) dX7_drawDeed_115 tf_7_104 (congrArg Prod.fst (se_s1 hk)) (Or.inl rfl) (isF_nc HF) ?_
      have y58 := isF_n HF
      refine e_callV [.int _] dX7_drawDeed_118 tm_7_82 rfl (Nat.le_of_ble_eq_true rfl) (congrArg Prod.fst (se_s0 hk)) (Nat.le_of_ble_eq_true rfl) (Nat.le_refl _) (Nat.le_refl _) rfl (zp_X7_draw hk HS (nc g) ⟨by omega, by omega⟩ (by omega) (fun  h59 f60 p61 => ?_))
      have k62 := lk_q (frm_s f60) hk
      have H63 := isF_c f60 (fun a k q1 q2 => by omega) HF
      have H64 := isS_c f60 (fun a k q1 q2 q3 => by omega) HQ
      have FR65 := frm_t FR0 (frm_m (S' := (fun a k => (a = s ∧ 1 ≤ k ∧ k ≤ 9) ∨ (s + 1 ≤ a ∧ a < s + 17))) f60 (fun a k q => by omega))
      have y66 := dvZ_b x (show 0 < (nc g) by omega)
      refine e_callV [.int _, .int _] dX7_drawDeed_121 tm_7_107 rfl (Nat.le_of_ble_eq_true rfl) (congrArg Prod.fst (se_s0 k62)) (Nat.le_of_ble_eq_true rfl) (Nat.le_refl _) (Nat.le_refl _) rfl (zp_X7_cutCloth k62 H63 H64 d ⟨by omega, by omega⟩ (dvZ x (nc g)) ⟨by omega, by omega⟩ (by omega) (fun  h67 f68 p69 p70 => ?_))
      have k71 := lk_q (frm_s f68) k62
      have H72 := sdS_c f68 (fun a k q1 q2 => by omega) p61
      have FR73 := frm_t FR65 (frm_m (S' := (fun a k => (a = s ∧ 1 ≤ k ∧ k ≤ 9) ∨ (s + 1 ≤ a ∧ a < s + 17))) f68 (fun a k q => by omega))
      refine e_pop dX7_drawDeed_124 rfl ?_
      refine e_goto 152 dX7_drawDeed_125 rfl ?_
      skip
      refine e_vret dX7_drawDeed_152 rfl ⟨rfl, ?_⟩
      have ew : w = 4 := by omega
      subst ew
      refine kq _ FR73 ?_ ?_ ?_
      · have e : DG g q 4 d x = (cuG g q d (dvZ x (nc g))) := by simp [DG, DQ, dkK, dkA, dkB, dkX, nG3, nQ3, show 0 < nc g by omega]
        rw [e]; exact p69
      · have e : DQ g q 4 d x = (cuQ g q d (dvZ x (nc g))) := by simp [DG, DQ, dkK, dkA, dkB, dkX, nG3, nQ3, show 0 < nc g by omega]
        rw [e]; exact p70
      · have e : dkX g 4 x = (dwZ x) := by simp [DG, DQ, dkK, dkA, dkB, dkX, nG3, nQ3, show 0 < nc g by omega]
        rw [e]; exact H72
  by_cases c74 : w = 5
  · skip
    refine z_tableV (5) 128 dX7_drawDeed_1 c74 (by decide) (by decide +kernel) ?_
    skip
    refine e_aload_n dX7_drawDeed_128 rfl ?_
    refine z_iconst (0) dX7_drawDeed_129 rfl ?_
    refine e_iload_n dX7_drawDeed_130 rfl ?_
    refine e_callV [.int _, .int _] dX7_drawDeed_131 tm_7_110 rfl (Nat.le_of_ble_eq_true rfl) (congrArg Prod.fst (se_s0 hk)) (Nat.le_of_ble_eq_true rfl) (Nat.le_refl _) (Nat.le_refl _) rfl (zp_X7_grindBlade hk HF HQ 0 ⟨by omega, by omega⟩ d ⟨by omega, by omega⟩ (by omega) (fun  h75 f76 p77 => ?_))
    have k78 := lk_q (frm_s f76) hk
    have H79 := isS_c f76 (fun a k q1 q2 q3 => by omega) HQ
    have H80 := sdS_c f76 (fun a k q1 q2 => by omega) HS
    have FR81 := frm_t FR0 (frm_m (S' := (fun a k => (a = s ∧ 1 ≤ k ∧ k ≤ 9) ∨ (s + 1 ≤ a ∧ a < s + 17))) f76 (fun a k q => by omega))
    refine e_pop dX7_drawDeed_134 rfl ?_
    refine e_goto 152 dX7_drawDeed_135 rfl ?_
    skip
    refine e_vret dX7_drawDeed_152 rfl ⟨rfl, ?_⟩
    have ew : w = 5 := by omega
    subst ew
    refine kq _ FR81 ?_ ?_ ?_
    · have e : DG g q 5 d x = (gkG g q 0 d) := by simp [DG, DQ, dkK, dkA, dkB, dkX, nG4, nQ4]
      rw [e]; exact p77
    · have e : DQ g q 5 d x = q := by simp [DG, DQ, dkK, dkA, dkB, dkX, nG4, nQ4]
      rw [e]; exact (isS_1 H79 pn)
    · have e : dkX g 5 x = x := by simp [DG, DQ, dkK, dkA, dkB, dkX, nG4, nQ4]
      rw [e]; exact H80
  by_cases c82 : w = 6
  · skip
    refine z_tableV (6) 138 dX7_drawDeed_1 c82 (by decide) (by decide +kernel) ?_
    skip
    refine e_aload_n dX7_drawDeed_138 rfl ?_
    refine e_iload_n dX7_drawDeed_139 rfl ?_
    refine e_callV [.int _] dX7_drawDeed_140 tm_7_113 rfl (Nat.le_of_ble_eq_true rfl) (congrArg Prod.fst (se_s0 hk)) (Nat.le_of_ble_eq_true rfl) (Nat.le_refl _) (Nat.le_refl _) rfl (zp_X7_oilThem hk HF HQ d ⟨by omega, by omega⟩ (by omega) (fun  h83 f84 p85 => ?_))
    have k86 := lk_q (frm_s f84) hk
    have H87 := isF_c f84 (fun a k q1 q2 => by omega) HF
    have H88 := sdS_c f84 (fun a k q1 q2 => by omega) HS
    have FR89 := frm_t FR0 (frm_m (S' := (fun a k => (a = s ∧ 1 ≤ k ∧ k ≤ 9) ∨ (s + 1 ≤ a ∧ a < s + 17))) f84 (fun a k q => by omega))
    refine e_pop dX7_drawDeed_143 rfl ?_
    refine e_goto 152 dX7_drawDeed_144 rfl ?_
    skip
    refine e_vret dX7_drawDeed_152 rfl ⟨rfl, ?_⟩
    have ew : w = 6 := by omega
    subst ew
    refine kq _ FR89 ?_ ?_ ?_
    · have e : DG g q 6 d x = g := by simp [DG, DQ, dkK, dkA, dkB, dkX, nG5, nQ5]
      rw [e]; exact H87
    · have e : DQ g q 6 d x = (oiQ g q d) := by simp [DG, DQ, dkK, dkA, dkB, dkX, nG5, nQ5]
      rw [e]; exact p85
    · have e : dkX g 6 x = x := by simp [DG, DQ, dkK, dkA, dkB, dkX, nG5, nQ5]
      rw [e]; exact H88
  refine z_tableD 147 dX7_drawDeed_1 ⟨by omega, by omega⟩ (by omega) rfl ?_
  skip
  refine e_aload_n dX7_drawDeed_147 rfl ?_
  refine e_callV [] dX7_drawDeed_148 tm_7_116 rfl (Nat.le_of_ble_eq_true rfl) (congrArg Prod.fst (se_s0 hk)) (Nat.le_of_ble_eq_true rfl) (Nat.le_refl _) (Nat.le_refl _) rfl (zp_X7_endDay hk HF HQ (by omega) (fun  h90 f91 p92 p93 => ?_))
  have k94 := lk_q (frm_s f91) hk
  have H95 := sdS_c f91 (fun a k q1 q2 => by omega) HS
  have FR96 := frm_t FR0 (frm_m (S' := (fun a k => (a = s ∧ 1 ≤ k ∧ k ≤ 9) ∨ (s + 1 ≤ a ∧ a < s + 17))) f91 (fun a k q => by omega))
  refine e_pop dX7_drawDeed_151 rfl ?_
  skip
  refine e_vret dX7_drawDeed_152 rfl ⟨rfl, ?_⟩
  have ew : w = 7 := by omega
  subst ew
  refine kq _ FR96 ?_ ?_ ?_
  · have e : DG g q 7 d x = (dyG g q) := by simp [DG, DQ, dkK, dkA, dkB, dkX, nG6, nQ6]
    rw [e]; exact p92
  · have e : DQ g q 7 d x = (dyQ q) := by simp [DG, DQ, dkK, dkA, dkB, dkX, nG6, nQ6]
    rw [e]; exact p93
  · have e : dkX g 7 x = x := by simp [DG, DQ, dkK, dkA, dkB, dkX, nG6, nQ6]
    rw [e]; exact H95
set_option maxHeartbeats 2000000 in
theorem zp_X7_drawAll {ad : mA} {dd : Nat} {h : mH} {Q : mQ} {s f : Nat} {g : Int → Int} (hk : sek h s) (hk1 : fgk h f) (HF : isF h f g)  (x : Int) (x_r : -2147483648 ≤ x ∧ x < 2147483648) (t : Int) (t_r : -2147483648 ≤ t ∧ t < 2147483648) (pd : s + 17 ≤ f ∨ f + 16 ≤ s) (pt : 0 ≤ t ∧ t ≤ 60) (kq : ∀ h1, frm (fun a k => (a = s ∧ 1 ≤ k ∧ k ≤ 9) ∨ (s + 1 ≤ a ∧ a < s + 17)) h h1 → (isF h1 (s + 1) (drG g x t)) → (isS h1 s (drQ g x t) t) → Q none h1) : mCal TB0 ad (dd + 6) M_X7_drawAll [.ref s, .ref f, .int (zI x), .int (zI t)] h 0 0 Q := by
  refine ⟨Nat.le_of_ble_eq_true rfl, ?_⟩
  show mEv TB0 ad M_X7_drawAll (dd + 6) (0, 0) (mCal TB0 ad (dd + 5)) (fun v h' z => z.1 = 0 ∧ Q v h') 0 [some (.ref s), some (.ref f), some (.int (zI x)), some (.int (zI t)), none, none] [] h (0, 0)
  have FR0 : frm (fun a k => (a = s ∧ 1 ≤ k ∧ k ≤ 9) ∨ (s + 1 ≤ a ∧ a < s + 17)) h h := frm_0 h
  refine e_aload_n dX7_drawAll_0 rfl ?_
  refine e_aload_n dX7_drawAll_1 rfl ?_
  refine e_callV [.ref _] dX7_drawAll_2 tm_7_53 rfl (Nat.le_of_ble_eq_true rfl) (congrArg Prod.fst (se_s0 hk)) (Nat.le_of_ble_eq_true rfl) (Nat.le_refl _) (Nat.le_refl _) rfl (zp_X7_begin hk hk1 HF (by omega) (fun  h1 f2 p3 p4 => ?_))
  have k5 := lk_q (frm_s f2) hk
  have k6 := lk_q (frm_s f2) hk1
  have H7 := isF_c f2 (fun a k q1 q2 => by omega) HF
  have FR8 := frm_t FR0 (frm_m (S' := (fun a k => (a = s ∧ 1 ≤ k ∧ k ≤ 9) ∨ (s + 1 ≤ a ∧ a < s + 17))) f2 (fun a k q => by omega))
  refine e_aload_n dX7_drawAll_5 rfl ?_
  refine e_iload_n dX7_drawAll_6 rfl ?_
  refine z_put dX7_drawAll_7 tf_7_43 (congrArg Prod.fst (se_s0 k5)) rfl (Or.inl rfl) (fun h9 e10 => ?_)
  have f11 := frm_1 e10
  have k12 := lk_q (frm_s f11) k5
  have k13 := lk_q (frm_s f11) k6
  have H14 := isF_c f11 (fun a k q1 q2 => by omega) H7
  have H15 := isF_c f11 (fun a k q1 q2 => by omega) p3
  have H16 := isS_c f11 (fun a k q1 q2 q3 => by omega) p4
  have FR17 := frm_t FR8 (frm_m (S' := (fun a k => (a = s ∧ 1 ≤ k ∧ k ≤ 9) ∨ (s + 1 ≤ a ∧ a < s + 17))) f11 (fun a k q => by omega))
  refine z_iconst (0) dX7_drawAll_10 rfl ?_
  refine e_istore (L' := [_, _, _, _, _, _]) dX7_drawAll_11 (Nat.le_of_ble_eq_true rfl) rfl ?_
  have lp18 : ∀ (n18 : Nat) (k : Int) (h18 : mH), (t - k).toNat = n18 → (sek h18 s) → (fgk h18 f) → (isF h18 f g) → (frm (fun a k => (a = s ∧ 1 ≤ k ∧ k ≤ 9) ∨ (s + 1 ≤ a ∧ a < s + 17)) h h18) → (0 ≤ k) → (k ≤ t) → (isF h18 (s + 1) (drG g x k)) → (isS h18 s (drQ g x k) k) → (sdS h18 s (drX g x k)) → mEv TB0 ad M_X7_drawAll (dd + 6) (0, 0) (mCal TB0 ad (dd + 5)) (fun v h' z => z.1 = 0 ∧ Q v h') 13 [some (.ref s), some (.ref f), some (.int (zI x)), some (.int (zI t)), some (.int (zI k)), none] [] h18 (0, 0) := by
    intro n18
    induction n18 using Nat.strongRecOn with
    | ind n18 ih18 =>
    intro k h18 hn18 k19 k20 H21 FR22 I1 I2 I3 I4 I5
    refine e_iload dX7_drawAll_13 rfl ?_
    refine e_iload_n dX7_drawAll_15 rfl ?_
    refine z_icmp_ge 66 dX7_drawAll_16 rfl ⟨by omega, by omega⟩ ⟨by omega, by omega⟩ (fun c23 => ?_) (fun c23 => ?_)
    · skip
      refine e_vret dX7_drawAll_66 rfl ⟨rfl, ?_⟩
      first | exact kq _ FR22 (by rw [show t = k by omega]; exact I3) (by rw [show t = k by omega]; exact I4) | exact kq _ FR22 (by rw [(dr_e (g := g) (x := x) I1 I2 (by omega)).1]; exact I3) (by rw [(dr_e (g := g) (x := x) I1 I2 (by omega)).2]; exact ⟨wfQ_up I4.1 (by omega) (by omega), I4.2⟩)
    · skip
      skip
      skip
      skip
      have nk := isF_n I3
      refine e_aload_n dX7_drawAll_19 rfl ?_
      refine e_get (.ref (s + 1)) dX7_drawAll_20 tf_7_12 (congrArg Prod.fst (se_s0 k19)) (congrArg va_rf (se_r0_0 k19)) ?_
      refine e_get (.ref (s + 2)) dX7_drawAll_23 tf_7_75 (congrArg Prod.fst (se_s1 k19)) (congrArg va_rf (se_r1_0 k19)) ?_
      refine z_get (nd (drG g x k)) dX7_drawAll_26 tf_7_79 (congrArg Prod.fst (se_s2 k19)) (Or.inl rfl) (isF_nd I3) ?_
      have y24 := isF_n I3
      refine z_if_le 66 dX7_drawAll_29 rfl ⟨by omega, by omega⟩ (fun c25 => ?_) (fun c25 => ?_)
      · skip
        refine e_vret dX7_drawAll_66 rfl ⟨rfl, ?_⟩
        first | exact kq _ FR22 (by rw [show t = k by omega]; exact I3) (by rw [show t = k by omega]; exact I4) | exact kq _ FR22 (by rw [(dr_e (g := g) (x := x) I1 I2 (by omega)).1]; exact I3) (by rw [(dr_e (g := g) (x := x) I1 I2 (by omega)).2]; exact ⟨wfQ_up I4.1 (by omega) (by omega), I4.2⟩)
      · skip
        refine e_aload_n dX7_drawAll_32 rfl ?_
        refine e_aload_n dX7_drawAll_33 rfl ?_
        refine e_get (.ref (s + 1)) dX7_drawAll_34 tf_7_12 (congrArg Prod.fst (se_s0 k19)) (congrArg va_rf (se_r0_0 k19)) ?_
        refine e_get (.ref (s + 2)) dX7_drawAll_37 tf_7_75 (congrArg Prod.fst (se_s1 k19)) (congrArg va_rf (se_r1_0 k19)) ?_
        refine z_get (nd (drG g x k)) dX7_drawAll_40 tf_7_79 (congrArg Prod.fst (se_s2 k19)) (Or.inl rfl) (isF_nd I3) ?_
        have y26 := isF_n I3
        refine e_callV [.int _] dX7_drawAll_43 tm_7_82 rfl (Nat.le_of_ble_eq_true rfl) (congrArg Prod.fst (se_s0 k19)) (Nat.le_of_ble_eq_true rfl) (Nat.le_refl _) (Nat.le_refl _) rfl (zp_X7_draw k19 I5 (nd (drG g x k)) ⟨by omega, by omega⟩ (by omega) (fun  h27 f28 p29 => ?_))
        have k30 := lk_q (frm_s f28) k19
        have k31 := lk_q (frm_s f28) k20
        have H32 := isF_c f28 (fun a k q1 q2 => by omega) H21
        have H33 := isF_c f28 (fun a k q1 q2 => by omega) I3
        have H34 := isS_c f28 (fun a k q1 q2 q3 => by omega) I4
        have FR35 := frm_t FR22 (frm_m (S' := (fun a k => (a = s ∧ 1 ≤ k ∧ k ≤ 9) ∨ (s + 1 ≤ a ∧ a < s + 17))) f28 (fun a k q => by omega))
        have y36 := dvZ_b (drX g x k) (show 0 < (nd (drG g x k)) by omega)
        refine e_istore (L' := [_, _, _, _, _, _]) dX7_drawAll_46 (Nat.le_of_ble_eq_true rfl) rfl ?_
        refine e_aload_n dX7_drawAll_48 rfl ?_
        refine e_iload dX7_drawAll_49 rfl ?_
        refine e_aload_n dX7_drawAll_51 rfl ?_
        refine z_bipush (8) dX7_drawAll_52 rfl ?_
        refine e_callV [.int _] dX7_drawAll_54 tm_7_82 rfl (Nat.le_of_ble_eq_true rfl) (congrArg Prod.fst (se_s0 k30)) (Nat.le_of_ble_eq_true rfl) (Nat.le_refl _) (Nat.le_refl _) rfl (zp_X7_draw k30 p29 8 ⟨by omega, by omega⟩ (by omega) (fun  h37 f38 p39 => ?_))
        have k40 := lk_q (frm_s f38) k30
        have k41 := lk_q (frm_s f38) k31
        have H42 := isF_c f38 (fun a k q1 q2 => by omega) H32
        have H43 := isF_c f38 (fun a k q1 q2 => by omega) H33
        have H44 := isS_c f38 (fun a k q1 q2 q3 => by omega) H34
        have FR45 := frm_t FR35 (frm_m (S' := (fun a k => (a = s ∧ 1 ≤ k ∧ k ≤ 9) ∨ (s + 1 ≤ a ∧ a < s + 17))) f38 (fun a k q => by omega))
        have y46 := dvZ_b (dwZ (drX g x k)) (show 0 < 8 by omega)
        refine e_callV [.int _, .int _] dX7_drawAll_57 tm_7_86 rfl (Nat.le_of_ble_eq_true rfl) (congrArg Prod.fst (se_s0 k40)) (Nat.le_of_ble_eq_true rfl) (Nat.le_refl _) (Nat.le_refl _) rfl (zp_X7_drawDeed k40 H43 H44 p39 (dvZ (drX g x k) (nd (drG g x k))) ⟨by omega, by omega⟩ (dvZ (dwZ (drX g x k)) 8) ⟨by omega, by omega⟩ (by omega) (by omega) (by omega) (fun  h47 f48 p49 p50 p51 => ?_))
        have k52 := lk_q (frm_s f48) k40
        have k53 := lk_q (frm_s f48) k41
        have H54 := isF_c f48 (fun a k q1 q2 => by omega) H42
        have FR55 := frm_t FR45 (frm_m (S' := (fun a k => (a = s ∧ 1 ≤ k ∧ k ≤ 9) ∨ (s + 1 ≤ a ∧ a < s + 17))) f48 (fun a k q => by omega))
        refine z_iinc (L' := [_, _, _, _, _, _]) dX7_drawAll_60 rfl rfl ?_
        refine e_goto 13 dX7_drawAll_63 rfl ?_
        have ds := dr_s (g := g) (x := x) I1 (by omega)
        exact mEv_wk (by exact ⟨Or.inr rfl, Or.inr rfl, Or.inr rfl, Or.inr rfl, Or.inr rfl, Or.inl rfl, trivial⟩) (ih18 _ (by omega) (k + 1) h47 rfl k52 k53 H54 FR55 (by omega) (by omega) (by rw [ds.1]; exact p49) (by rw [ds.2.1]; exact p50) (by rw [ds.2.2]; exact p51))
  exact lp18 _ 0 h9 rfl k12 k13 H14 FR17 (by omega) (by omega) H15 H16 (show rI h9 s 9 = x from (rI_eq e10 ⟨by omega, by omega⟩))
set_option maxHeartbeats 3000000 in
theorem zp_X12_drawDeed {ad : mA} {dd : Nat} {h : mH} {Q : mQ} {m : Nat} {g q : Int → Int} {n x : Int} (hk : rk h m) (HB : rB h m g) (HM : rM h m g) (HC : rC h m g) (HQ : rQ h m q n) (HS : sdR h m x) (d w : Int)  (pn : n < 1000) (p1 : 0 < nd g) (pe1 : d = dvZ x (nd g)) (pe2 : w = dvZ (dwZ x) 8) (kq : ∀ h1, frm (fun a i => a = m + 11 ∨ a = m + 13 ∨ a = m + 15 ∨ (a = m ∧ ((33 ≤ i ∧ i ≤ 38) ∨ i = 57))) h h1 → (rB h1 m (DG g q w d (dwZ (dwZ x)))) → (rM h1 m (DG g q w d (dwZ (dwZ x)))) → (rC h1 m (DG g q w d (dwZ (dwZ x)))) → (rQ h1 m (DQ g q w d (dwZ (dwZ x))) (n + 1)) → (sdR h1 m (dkX g w (dwZ (dwZ x)))) → Q none h1) : mCal TB0 ad (dd + 7) M_X12_drawDeed [.ref m] h 0 0 Q := by
  refine ⟨Nat.le_of_ble_eq_true rfl, ?_⟩
  show mEv TB0 ad M_X12_drawDeed (dd + 7) (0, 0) (mCal TB0 ad (dd + 6)) (fun v h' z => z.1 = 0 ∧ Q v h') 0 [some (.ref m), none, none] [] h (0, 0)
  have FR0 : frm (fun a i => a = m + 11 ∨ a = m + 13 ∨ a = m + 15 ∨ (a = m ∧ ((33 ≤ i ∧ i ≤ 38) ∨ i = 57))) h h := frm_0 h
  have w1 := rB_n HB
  have w2 := rB_nd HB
  have w3 := rB_nu HB
  have wq := wfQ_e HQ.1
  have wc := rC_n HC
  have b1 := dvZ_b x p1
  have b2 := dvZ_b (dwZ x) (show (0 : Int) < 8 by omega)
  rw [← pe1] at b1
  rw [← pe2] at b2
  refine e_aload_n dX12_drawDeed_0 rfl ?_
  refine e_aload_n dX12_drawDeed_1 rfl ?_
  refine z_get (nd g) dX12_drawDeed_2 tf_12_271 (rk_s hk) (Or.inl rfl) (rB_nd HB) ?_
  have y1 := rB_n HB
  refine e_callV [.int _] dX12_drawDeed_5 tm_12_538 rfl (Nat.le_of_ble_eq_true rfl) (rk_s hk) (Nat.le_of_ble_eq_true rfl) (Nat.le_refl _) (Nat.le_refl _) rfl (zp_X12_draw hk HS (nd g) ⟨by omega, by omega⟩ (by omega) (fun  h2 f3 p4 => ?_))
  have k5 := rk_q (frm_s f3) hk
  have H6 := rB_c f3 (fun a k q => by omega) HB
  have H7 := rM_c f3 (fun a k q => by omega) HM
  have H8 := rC_c f3 (fun a k q => by omega) HC
  have H9 := rQ_c f3 (fun a k q1 q2 q3 => by omega) HQ
  have FR10 := frm_t FR0 (frm_m (S' := (fun a i => a = m + 11 ∨ a = m + 13 ∨ a = m + 15 ∨ (a = m ∧ ((33 ≤ i ∧ i ≤ 38) ∨ i = 57)))) f3 (fun a k q => by omega))
  have y11 := dvZ_b x (show 0 < (nd g) by omega)
  refine e_istore_n (L' := [_, _, _]) dX12_drawDeed_8 (Nat.le_of_ble_eq_true rfl) rfl ?_
  refine e_aload_n dX12_drawDeed_9 rfl ?_
  refine z_bipush (8) dX12_drawDeed_10 rfl ?_
  refine e_callV [.int _] dX12_drawDeed_12 tm_12_538 rfl (Nat.le_of_ble_eq_true rfl) (rk_s k5) (Nat.le_of_ble_eq_true rfl) (Nat.le_refl _) (Nat.le_refl _) rfl (zp_X12_draw k5 p4 8 ⟨by omega, by omega⟩ (by omega) (fun  h12 f13 p14 => ?_))
  have k15 := rk_q (frm_s f13) k5
  have H16 := rB_c f13 (fun a k q => by omega) H6
  have H17 := rM_c f13 (fun a k q => by omega) H7
  have H18 := rC_c f13 (fun a k q => by omega) H8
  have H19 := rQ_c f13 (fun a k q1 q2 q3 => by omega) H9
  have FR20 := frm_t FR10 (frm_m (S' := (fun a i => a = m + 11 ∨ a = m + 13 ∨ a = m + 15 ∨ (a = m ∧ ((33 ≤ i ∧ i ≤ 38) ∨ i = 57)))) f13 (fun a k q => by omega))
  have y21 := dvZ_b (dwZ x) (show 0 < 8 by omega)
  refine e_istore_n (L' := [_, _, _]) dX12_drawDeed_15 (Nat.le_of_ble_eq_true rfl) rfl ?_
  rw [← pe1, ← pe2]
  refine e_iload_n dX12_drawDeed_16 rfl ?_
  refine z_if_ne 45 dX12_drawDeed_17 rfl ⟨by omega, by omega⟩ (fun c22 => ?_) (fun c22 => ?_)
  · skip
    refine e_iload_n dX12_drawDeed_45 rfl ?_
    refine z_iconst (1) dX12_drawDeed_46 rfl ?_
    refine z_icmp_eq 55 dX12_drawDeed_47 rfl ⟨by omega, by omega⟩ ⟨by omega, by omega⟩ (fun c23 => ?_) (fun c23 => ?_)
    · skip
      skip
      refine e_aload_n dX12_drawDeed_55 rfl ?_
      refine e_iload_n dX12_drawDeed_56 rfl ?_
      refine e_iload_n dX12_drawDeed_57 rfl ?_
      refine z_iconst (-1) dX12_drawDeed_58 rfl ?_
      refine e_callV [.int _, .int _, .int _] dX12_drawDeed_59 tm_12_367 rfl (Nat.le_of_ble_eq_true rfl) (rk_s k15) (Nat.le_of_ble_eq_true rfl) (Nat.le_refl _) (Nat.le_refl _) rfl (zp_X12_does k15 H16 H17 H18 H19 w ⟨by omega, by omega⟩ d ⟨by omega, by omega⟩ (-1) ⟨by omega, by omega⟩ (by omega) (by omega) (by omega) (fun  h24 f25 p26 p27 p28 p29 => ?_))
      have k30 := rk_q (frm_s f25) k15
      have H31 := sdR_c f25 (fun a k q1 q2 => by omega) p14
      have FR32 := frm_t FR20 (frm_m (S' := (fun a i => a = m + 11 ∨ a = m + 13 ∨ a = m + 15 ∨ (a = m ∧ ((33 ≤ i ∧ i ≤ 38) ∨ i = 57)))) f25 (fun a k q => by omega))
      refine e_pop dX12_drawDeed_62 rfl ?_
      refine e_goto 141 dX12_drawDeed_63 rfl ?_
      refine e_vret dX12_drawDeed_141 rfl ⟨rfl, ?_⟩
      have ew : w = 1 := by omega
      subst ew
      have eG : DG g q 1 d (dwZ (dwZ x)) = (nG g q 1 d (-1)) := by simp [DG, DQ, dkK, dkA, dkB, dkX, nG1, nQ1]
      have eQ : DQ g q 1 d (dwZ (dwZ x)) = (nQ g q 1 d (-1)) := by simp [DG, DQ, dkK, dkA, dkB, dkX, nG1, nQ1]
      have eX : dkX g 1 (dwZ (dwZ x)) = (dwZ (dwZ x)) := by simp [DG, DQ, dkK, dkA, dkB, dkX, nG1, nQ1]
      refine kq _ FR32 ?_ ?_ ?_ ?_ ?_
      · rw [eG]; exact p26
      · rw [eG]; exact p27
      · rw [eG]; exact p28
      · rw [eQ]; exact p29
      · rw [eX]; exact H31
    · skip
      skip
      refine e_iload_n dX12_drawDeed_50 rfl ?_
      refine z_iconst (2) dX12_drawDeed_51 rfl ?_
      refine z_icmp_ne 66 dX12_drawDeed_52 rfl ⟨by omega, by omega⟩ ⟨by omega, by omega⟩ (fun c33 => ?_) (fun c33 => ?_)
      · skip
        refine e_iload_n dX12_drawDeed_66 rfl ?_
        refine z_iconst (3) dX12_drawDeed_67 rfl ?_
        refine z_icmp_eq 76 dX12_drawDeed_68 rfl ⟨by omega, by omega⟩ ⟨by omega, by omega⟩ (fun c34 => ?_) (fun c34 => ?_)
        · skip
          skip
          refine e_aload_n dX12_drawDeed_76 rfl ?_
          refine z_get (nc g) dX12_drawDeed_77 tf_12_277 (rk_s k15) (Or.inl rfl) (rC_nc H18) ?_
          have y35 := rC_n H18
          refine z_if_le 101 dX12_drawDeed_80 rfl ⟨by omega, by omega⟩ (fun c36 => ?_) (fun c36 => ?_)
          · skip
            refine e_iload_n dX12_drawDeed_101 rfl ?_
            refine z_iconst (5) dX12_drawDeed_102 rfl ?_
            refine z_icmp_ne 117 dX12_drawDeed_103 rfl ⟨by omega, by omega⟩ ⟨by omega, by omega⟩ (fun c37 => ?_) (fun c37 => ?_)
            · skip
              refine e_iload_n dX12_drawDeed_117 rfl ?_
              refine z_iconst (5) dX12_drawDeed_118 rfl ?_
              refine z_icmp_le 141 dX12_drawDeed_119 rfl ⟨by omega, by omega⟩ ⟨by omega, by omega⟩ (fun c38 => ?_) (fun c38 => ?_)
              · skip
                refine e_vret dX12_drawDeed_141 rfl ⟨rfl, ?_⟩
                have ew : w = 3 := by omega
                subst ew
                have eG : DG g q 3 d (dwZ (dwZ x)) = g := by simp [DG, DQ, dkK, dkA, dkB, dkX, nG7, nQ7, show ¬ 0 < nc g by omega]
                have eQ : DQ g q 3 d (dwZ (dwZ x)) = q := by simp [DG, DQ, dkK, dkA, dkB, dkX, nG7, nQ7, show ¬ 0 < nc g by omega]
                have eX : dkX g 3 (dwZ (dwZ x)) = (dwZ (dwZ x)) := by simp [DG, DQ, dkK, dkA, dkB, dkX, nG7, nQ7, show ¬ 0 < nc g by omega]
                refine kq _ FR20 ?_ ?_ ?_ ?_ ?_
                · rw [eG]; exact H16
                · rw [eG]; exact H17
                · rw [eG]; exact H18
                · rw [eQ]; exact (rQ_1 H19 pn)
                · rw [eX]; exact p14
              · skip
                skip
                refine e_aload_n dX12_drawDeed_122 rfl ?_
                refine e_iload_n dX12_drawDeed_123 rfl ?_
                refine z_bipush (6) dX12_drawDeed_124 rfl ?_
                refine z_icmp_ne 133 dX12_drawDeed_126 rfl ⟨by omega, by omega⟩ ⟨by omega, by omega⟩ (fun c39 => ?_) (fun c39 => ?_)
                · skip
                  skip
                  refine z_bipush (6) dX12_drawDeed_133 rfl ?_
                  refine e_iload_n dX12_drawDeed_135 rfl ?_
                  refine z_iconst (-1) dX12_drawDeed_136 rfl ?_
                  refine e_callV [.int _, .int _, .int _] dX12_drawDeed_137 tm_12_367 rfl (Nat.le_of_ble_eq_true rfl) (rk_s k15) (Nat.le_of_ble_eq_true rfl) (Nat.le_refl _) (Nat.le_refl _) rfl (zp_X12_does k15 H16 H17 H18 H19 6 ⟨by omega, by omega⟩ d ⟨by omega, by omega⟩ (-1) ⟨by omega, by omega⟩ (by omega) (by omega) (by omega) (fun  h40 f41 p42 p43 p44 p45 => ?_))
                  have k46 := rk_q (frm_s f41) k15
                  have H47 := sdR_c f41 (fun a k q1 q2 => by omega) p14
                  have FR48 := frm_t FR20 (frm_m (S' := (fun a i => a = m + 11 ∨ a = m + 13 ∨ a = m + 15 ∨ (a = m ∧ ((33 ≤ i ∧ i ≤ 38) ∨ i = 57)))) f41 (fun a k q => by omega))
                  refine e_pop dX12_drawDeed_140 rfl ?_
                  refine e_vret dX12_drawDeed_141 rfl ⟨rfl, ?_⟩
                  exfalso; omega
                · skip
                  skip
                  refine z_iconst (5) dX12_drawDeed_129 rfl ?_
                  refine e_goto 135 dX12_drawDeed_130 rfl ?_
                  refine e_iload_n dX12_drawDeed_135 rfl ?_
                  refine z_iconst (-1) dX12_drawDeed_136 rfl ?_
                  refine e_callV [.int _, .int _, .int _] dX12_drawDeed_137 tm_12_367 rfl (Nat.le_of_ble_eq_true rfl) (rk_s k15) (Nat.le_of_ble_eq_true rfl) (Nat.le_refl _) (Nat.le_refl _) rfl (zp_X12_does k15 H16 H17 H18 H19 5 ⟨by omega, by omega⟩ d ⟨by omega, by omega⟩ (-1) ⟨by omega, by omega⟩ (by omega) (by omega) (by omega) (fun  h49 f50 p51 p52 p53 p54 => ?_))
                  have k55 := rk_q (frm_s f50) k15
                  have H56 := sdR_c f50 (fun a k q1 q2 => by omega) p14
                  have FR57 := frm_t FR20 (frm_m (S' := (fun a i => a = m + 11 ∨ a = m + 13 ∨ a = m + 15 ∨ (a = m ∧ ((33 ≤ i ∧ i ≤ 38) ∨ i = 57)))) f50 (fun a k q => by omega))
                  refine e_pop dX12_drawDeed_140 rfl ?_
                  refine e_vret dX12_drawDeed_141 rfl ⟨rfl, ?_⟩
                  exfalso; omega
            · skip
              skip
              refine e_aload_n dX12_drawDeed_106 rfl ?_
              refine z_iconst (4) dX12_drawDeed_107 rfl ?_
              refine z_iconst (0) dX12_drawDeed_108 rfl ?_
              refine e_iload_n dX12_drawDeed_109 rfl ?_
              refine e_callV [.int _, .int _, .int _] dX12_drawDeed_110 tm_12_367 rfl (Nat.le_of_ble_eq_true rfl) (rk_s k15) (Nat.le_of_ble_eq_true rfl) (Nat.le_refl _) (Nat.le_refl _) rfl (zp_X12_does k15 H16 H17 H18 H19 4 ⟨by omega, by omega⟩ 0 ⟨by omega, by omega⟩ d ⟨by omega, by omega⟩ (by omega) (by omega) (by omega) (fun  h58 f59 p60 p61 p62 p63 => ?_))
              have k64 := rk_q (frm_s f59) k15
              have H65 := sdR_c f59 (fun a k q1 q2 => by omega) p14
              have FR66 := frm_t FR20 (frm_m (S' := (fun a i => a = m + 11 ∨ a = m + 13 ∨ a = m + 15 ∨ (a = m ∧ ((33 ≤ i ∧ i ≤ 38) ∨ i = 57)))) f59 (fun a k q => by omega))
              refine e_pop dX12_drawDeed_113 rfl ?_
              refine e_goto 141 dX12_drawDeed_114 rfl ?_
              refine e_vret dX12_drawDeed_141 rfl ⟨rfl, ?_⟩
              exfalso; omega
          · skip
            skip
            refine e_aload_n dX12_drawDeed_83 rfl ?_
            refine z_iconst (3) dX12_drawDeed_84 rfl ?_
            refine e_iload_n dX12_drawDeed_85 rfl ?_
            refine e_aload_n dX12_drawDeed_86 rfl ?_
            refine e_aload_n dX12_drawDeed_87 rfl ?_
            refine z_get (nc g) dX12_drawDeed_88 tf_12_277 (rk_s k15) (Or.inl rfl) (rC_nc H18) ?_
            have y67 := rC_n H18
            refine e_callV [.int _] dX12_drawDeed_91 tm_12_538 rfl (Nat.le_of_ble_eq_true rfl) (rk_s k15) (Nat.le_of_ble_eq_true rfl) (Nat.le_refl _) (Nat.le_refl _) rfl (zp_X12_draw k15 p14 (nc g) ⟨by omega, by omega⟩ (by omega) (fun  h68 f69 p70 => ?_))
            have k71 := rk_q (frm_s f69) k15
            have H72 := rB_c f69 (fun a k q => by omega) H16
            have H73 := rM_c f69 (fun a k q => by omega) H17
            have H74 := rC_c f69 (fun a k q => by omega) H18
            have H75 := rQ_c f69 (fun a k q1 q2 q3 => by omega) H19
            have FR76 := frm_t FR20 (frm_m (S' := (fun a i => a = m + 11 ∨ a = m + 13 ∨ a = m + 15 ∨ (a = m ∧ ((33 ≤ i ∧ i ≤ 38) ∨ i = 57)))) f69 (fun a k q => by omega))
            have y77 := dvZ_b (dwZ (dwZ x)) (show 0 < (nc g) by omega)
            refine e_callV [.int _, .int _, .int _] dX12_drawDeed_94 tm_12_367 rfl (Nat.le_of_ble_eq_true rfl) (rk_s k71) (Nat.le_of_ble_eq_true rfl) (Nat.le_refl _) (Nat.le_refl _) rfl (zp_X12_does k71 H72 H73 H74 H75 3 ⟨by omega, by omega⟩ d ⟨by omega, by omega⟩ (dvZ (dwZ (dwZ x)) (nc g)) ⟨by omega, by omega⟩ (by omega) (by omega) (by omega) (fun  h78 f79 p80 p81 p82 p83 => ?_))
            have k84 := rk_q (frm_s f79) k71
            have H85 := sdR_c f79 (fun a k q1 q2 => by omega) p70
            have FR86 := frm_t FR76 (frm_m (S' := (fun a i => a = m + 11 ∨ a = m + 13 ∨ a = m + 15 ∨ (a = m ∧ ((33 ≤ i ∧ i ≤ 38) ∨ i = 57)))) f79 (fun a k q => by omega))
            refine e_pop dX12_drawDeed_97 rfl ?_
            refine e_goto 141 dX12_drawDeed_98 rfl ?_
            refine e_vret dX12_drawDeed_141 rfl ⟨rfl, ?_⟩
            have ew : w = 3 := by omega
            subst ew
            have eG : DG g q 3 d (dwZ (dwZ x)) = (nG g q 3 d (dvZ (dwZ (dwZ x)) (nc g))) := by simp [DG, DQ, dkK, dkA, dkB, dkX, nG3, nQ3, show 0 < nc g by omega]
            have eQ : DQ g q 3 d (dwZ (dwZ x)) = (nQ g q 3 d (dvZ (dwZ (dwZ x)) (nc g))) := by simp [DG, DQ, dkK, dkA, dkB, dkX, nG3, nQ3, show 0 < nc g by omega]
            have eX : dkX g 3 (dwZ (dwZ x)) = (dwZ (dwZ (dwZ x))) := by simp [DG, DQ, dkK, dkA, dkB, dkX, nG3, nQ3, show 0 < nc g by omega]
            refine kq _ FR86 ?_ ?_ ?_ ?_ ?_
            · rw [eG]; exact p80
            · rw [eG]; exact p81
            · rw [eG]; exact p82
            · rw [eQ]; exact p83
            · rw [eX]; exact H85
        · skip
          skip
          refine e_iload_n dX12_drawDeed_71 rfl ?_
          refine z_iconst (4) dX12_drawDeed_72 rfl ?_
          refine z_icmp_ne 101 dX12_drawDeed_73 rfl ⟨by omega, by omega⟩ ⟨by omega, by omega⟩ (fun c87 => ?_) (fun c87 => ?_)
          · skip
            refine e_iload_n dX12_drawDeed_101 rfl ?_
            refine z_iconst (5) dX12_drawDeed_102 rfl ?_
            refine z_icmp_ne 117 dX12_drawDeed_103 rfl ⟨by omega, by omega⟩ ⟨by omega, by omega⟩ (fun c88 => ?_) (fun c88 => ?_)
            · skip
              refine e_iload_n dX12_drawDeed_117 rfl ?_
              refine z_iconst (5) dX12_drawDeed_118 rfl ?_
              refine z_icmp_le 141 dX12_drawDeed_119 rfl ⟨by omega, by omega⟩ ⟨by omega, by omega⟩ (fun c89 => ?_) (fun c89 => ?_)
              · skip
                refine e_vret dX12_drawDeed_141 rfl ⟨rfl, ?_⟩
                exfalso; omega
              · skip
                skip
                refine e_aload_n dX12_drawDeed_122 rfl ?_
                refine e_iload_n dX12_drawDeed_123 rfl ?_
                refine z_bipush (6) dX12_drawDeed_124 rfl ?_
                refine z_icmp_ne 133 dX12_drawDeed_126 rfl ⟨by omega, by omega⟩ ⟨by omega, by omega⟩ (fun c90 => ?_) (fun c90 => ?_)
                · skip
                  skip
                  refine z_bipush (6) dX12_drawDeed_133 rfl ?_
                  refine e_iload_n dX12_drawDeed_135 rfl ?_
                  refine z_iconst (-1) dX12_drawDeed_136 rfl ?_
                  refine e_callV [.int _, .int _, .int _] dX12_drawDeed_137 tm_12_367 rfl (Nat.le_of_ble_eq_true rfl) (rk_s k15) (Nat.le_of_ble_eq_true rfl) (Nat.le_refl _) (Nat.le_refl _) rfl (zp_X12_does k15 H16 H17 H18 H19 6 ⟨by omega, by omega⟩ d ⟨by omega, by omega⟩ (-1) ⟨by omega, by omega⟩ (by omega) (by omega) (by omega) (fun  h91 f92 p93 p94 p95 p96 => ?_))
                  have k97 := rk_q (frm_s f92) k15
                  have H98 := sdR_c f92 (fun a k q1 q2 => by omega) p14
                  have FR99 := frm_t FR20 (frm_m (S' := (fun a i => a = m + 11 ∨ a = m + 13 ∨ a = m + 15 ∨ (a = m ∧ ((33 ≤ i ∧ i ≤ 38) ∨ i = 57)))) f92 (fun a k q => by omega))
                  refine e_pop dX12_drawDeed_140 rfl ?_
                  refine e_vret dX12_drawDeed_141 rfl ⟨rfl, ?_⟩
                  have ew : w = 7 := by omega
                  subst ew
                  have eG : DG g q 7 d (dwZ (dwZ x)) = (nG g q 6 d (-1)) := by simp [DG, DQ, dkK, dkA, dkB, dkX, nG6, nQ6]
                  have eQ : DQ g q 7 d (dwZ (dwZ x)) = (nQ g q 6 d (-1)) := by simp [DG, DQ, dkK, dkA, dkB, dkX, nG6, nQ6]
                  have eX : dkX g 7 (dwZ (dwZ x)) = (dwZ (dwZ x)) := by simp [DG, DQ, dkK, dkA, dkB, dkX, nG6, nQ6]
                  refine kq _ FR99 ?_ ?_ ?_ ?_ ?_
                  · rw [eG]; exact p93
                  · rw [eG]; exact p94
                  · rw [eG]; exact p95
                  · rw [eQ]; exact p96
                  · rw [eX]; exact H98
                · skip
                  skip
                  refine z_iconst (5) dX12_drawDeed_129 rfl ?_
                  refine e_goto 135 dX12_drawDeed_130 rfl ?_
                  refine e_iload_n dX12_drawDeed_135 rfl ?_
                  refine z_iconst (-1) dX12_drawDeed_136 rfl ?_
                  refine e_callV [.int _, .int _, .int _] dX12_drawDeed_137 tm_12_367 rfl (Nat.le_of_ble_eq_true rfl) (rk_s k15) (Nat.le_of_ble_eq_true rfl) (Nat.le_refl _) (Nat.le_refl _) rfl (zp_X12_does k15 H16 H17 H18 H19 5 ⟨by omega, by omega⟩ d ⟨by omega, by omega⟩ (-1) ⟨by omega, by omega⟩ (by omega) (by omega) (by omega) (fun  h100 f101 p102 p103 p104 p105 => ?_))
                  have k106 := rk_q (frm_s f101) k15
                  have H107 := sdR_c f101 (fun a k q1 q2 => by omega) p14
                  have FR108 := frm_t FR20 (frm_m (S' := (fun a i => a = m + 11 ∨ a = m + 13 ∨ a = m + 15 ∨ (a = m ∧ ((33 ≤ i ∧ i ≤ 38) ∨ i = 57)))) f101 (fun a k q => by omega))
                  refine e_pop dX12_drawDeed_140 rfl ?_
                  refine e_vret dX12_drawDeed_141 rfl ⟨rfl, ?_⟩
                  have ew : w = 6 := by omega
                  subst ew
                  have eG : DG g q 6 d (dwZ (dwZ x)) = (nG g q 5 d (-1)) := by simp [DG, DQ, dkK, dkA, dkB, dkX, nG5, nQ5]
                  have eQ : DQ g q 6 d (dwZ (dwZ x)) = (nQ g q 5 d (-1)) := by simp [DG, DQ, dkK, dkA, dkB, dkX, nG5, nQ5]
                  have eX : dkX g 6 (dwZ (dwZ x)) = (dwZ (dwZ x)) := by simp [DG, DQ, dkK, dkA, dkB, dkX, nG5, nQ5]
                  refine kq _ FR108 ?_ ?_ ?_ ?_ ?_
                  · rw [eG]; exact p102
                  · rw [eG]; exact p103
                  · rw [eG]; exact p104
                  · rw [eQ]; exact p105
                  · rw [eX]; exact H107
            · skip
              skip
              refine e_aload_n dX12_drawDeed_106 rfl ?_
              refine z_iconst (4) dX12_drawDeed_107 rfl ?_
              refine z_iconst (0) dX12_drawDeed_108 rfl ?_
              refine e_iload_n dX12_drawDeed_109 rfl ?_
              refine e_callV [.int _, .int _, .int _] dX12_drawDeed_110 tm_12_367 rfl (Nat.le_of_ble_eq_true rfl) (rk_s k15) (Nat.le_of_ble_eq_true rfl) (Nat.le_refl _) (Nat.le_refl _) rfl (zp_X12_does k15 H16 H17 H18 H19 4 ⟨by omega, by omega⟩ 0 ⟨by omega, by omega⟩ d ⟨by omega, by omega⟩ (by omega) (by omega) (by omega) (fun  h109 f110 p111 p112 p113 p114 => ?_))
              have k115 := rk_q (frm_s f110) k15
              have H116 := sdR_c f110 (fun a k q1 q2 => by omega) p14
              have FR117 := frm_t FR20 (frm_m (S' := (fun a i => a = m + 11 ∨ a = m + 13 ∨ a = m + 15 ∨ (a = m ∧ ((33 ≤ i ∧ i ≤ 38) ∨ i = 57)))) f110 (fun a k q => by omega))
              refine e_pop dX12_drawDeed_113 rfl ?_
              refine e_goto 141 dX12_drawDeed_114 rfl ?_
              refine e_vret dX12_drawDeed_141 rfl ⟨rfl, ?_⟩
              have ew : w = 5 := by omega
              subst ew
              have eG : DG g q 5 d (dwZ (dwZ x)) = (nG g q 4 0 d) := by simp [DG, DQ, dkK, dkA, dkB, dkX, nG4, nQ4]
              have eQ : DQ g q 5 d (dwZ (dwZ x)) = (nQ g q 4 0 d) := by simp [DG, DQ, dkK, dkA, dkB, dkX, nG4, nQ4]
              have eX : dkX g 5 (dwZ (dwZ x)) = (dwZ (dwZ x)) := by simp [DG, DQ, dkK, dkA, dkB, dkX, nG4, nQ4]
              refine kq _ FR117 ?_ ?_ ?_ ?_ ?_
              · rw [eG]; exact p111
              · rw [eG]; exact p112
              · rw [eG]; exact p113
              · rw [eQ]; exact p114
              · rw [eX]; exact H116
          · skip
            skip
            refine e_aload_n dX12_drawDeed_76 rfl ?_
            refine z_get (nc g) dX12_drawDeed_77 tf_12_277 (rk_s k15) (Or.inl rfl) (rC_nc H18) ?_
            have y118 := rC_n H18
            refine z_if_le 101 dX12_drawDeed_80 rfl ⟨by omega, by omega⟩ (fun c119 => ?_) (fun c119 => ?_)
            · skip
              refine e_iload_n dX12_drawDeed_101 rfl ?_
              refine z_iconst (5) dX12_drawDeed_102 rfl ?_
              refine z_icmp_ne 117 dX12_drawDeed_103 rfl ⟨by omega, by omega⟩ ⟨by omega, by omega⟩ (fun c120 => ?_) (fun c120 => ?_)
              · skip
                refine e_iload_n dX12_drawDeed_117 rfl ?_
                refine z_iconst (5) dX12_drawDeed_118 rfl ?_
                refine z_icmp_le 141 dX12_drawDeed_119 rfl ⟨by omega, by omega⟩ ⟨by omega, by omega⟩ (fun c121 => ?_) (fun c121 => ?_)
                · skip
                  refine e_vret dX12_drawDeed_141 rfl ⟨rfl, ?_⟩
                  have ew : w = 4 := by omega
                  subst ew
                  have eG : DG g q 4 d (dwZ (dwZ x)) = g := by simp [DG, DQ, dkK, dkA, dkB, dkX, nG7, nQ7, show ¬ 0 < nc g by omega]
                  have eQ : DQ g q 4 d (dwZ (dwZ x)) = q := by simp [DG, DQ, dkK, dkA, dkB, dkX, nG7, nQ7, show ¬ 0 < nc g by omega]
                  have eX : dkX g 4 (dwZ (dwZ x)) = (dwZ (dwZ x)) := by simp [DG, DQ, dkK, dkA, dkB, dkX, nG7, nQ7, show ¬ 0 < nc g by omega]
                  refine kq _ FR20 ?_ ?_ ?_ ?_ ?_
                  · rw [eG]; exact H16
                  · rw [eG]; exact H17
                  · rw [eG]; exact H18
                  · rw [eQ]; exact (rQ_1 H19 pn)
                  · rw [eX]; exact p14
                · skip
                  skip
                  refine e_aload_n dX12_drawDeed_122 rfl ?_
                  refine e_iload_n dX12_drawDeed_123 rfl ?_
                  refine z_bipush (6) dX12_drawDeed_124 rfl ?_
                  refine z_icmp_ne 133 dX12_drawDeed_126 rfl ⟨by omega, by omega⟩ ⟨by omega, by omega⟩ (fun c122 => ?_) (fun c122 => ?_)
                  · skip
                    skip
                    refine z_bipush (6) dX12_drawDeed_133 rfl ?_
                    refine e_iload_n dX12_drawDeed_135 rfl ?_
                    refine z_iconst (-1) dX12_drawDeed_136 rfl ?_
                    refine e_callV [.int _, .int _, .int _] dX12_drawDeed_137 tm_12_367 rfl (Nat.le_of_ble_eq_true rfl) (rk_s k15) (Nat.le_of_ble_eq_true rfl) (Nat.le_refl _) (Nat.le_refl _) rfl (zp_X12_does k15 H16 H17 H18 H19 6 ⟨by omega, by omega⟩ d ⟨by omega, by omega⟩ (-1) ⟨by omega, by omega⟩ (by omega) (by omega) (by omega) (fun  h123 f124 p125 p126 p127 p128 => ?_))
                    have k129 := rk_q (frm_s f124) k15
                    have H130 := sdR_c f124 (fun a k q1 q2 => by omega) p14
                    have FR131 := frm_t FR20 (frm_m (S' := (fun a i => a = m + 11 ∨ a = m + 13 ∨ a = m + 15 ∨ (a = m ∧ ((33 ≤ i ∧ i ≤ 38) ∨ i = 57)))) f124 (fun a k q => by omega))
                    refine e_pop dX12_drawDeed_140 rfl ?_
                    refine e_vret dX12_drawDeed_141 rfl ⟨rfl, ?_⟩
                    exfalso; omega
                  · skip
                    skip
                    refine z_iconst (5) dX12_drawDeed_129 rfl ?_
                    refine e_goto 135 dX12_drawDeed_130 rfl ?_
                    refine e_iload_n dX12_drawDeed_135 rfl ?_
                    refine z_iconst (-1) dX12_drawDeed_136 rfl ?_
                    refine e_callV [.int _, .int _, .int _] dX12_drawDeed_137 tm_12_367 rfl (Nat.le_of_ble_eq_true rfl) (rk_s k15) (Nat.le_of_ble_eq_true rfl) (Nat.le_refl _) (Nat.le_refl _) rfl (zp_X12_does k15 H16 H17 H18 H19 5 ⟨by omega, by omega⟩ d ⟨by omega, by omega⟩ (-1) ⟨by omega, by omega⟩ (by omega) (by omega) (by omega) (fun  h132 f133 p134 p135 p136 p137 => ?_))
                    have k138 := rk_q (frm_s f133) k15
                    have H139 := sdR_c f133 (fun a k q1 q2 => by omega) p14
                    have FR140 := frm_t FR20 (frm_m (S' := (fun a i => a = m + 11 ∨ a = m + 13 ∨ a = m + 15 ∨ (a = m ∧ ((33 ≤ i ∧ i ≤ 38) ∨ i = 57)))) f133 (fun a k q => by omega))
                    refine e_pop dX12_drawDeed_140 rfl ?_
                    refine e_vret dX12_drawDeed_141 rfl ⟨rfl, ?_⟩
                    exfalso; omega
              · skip
                skip
                refine e_aload_n dX12_drawDeed_106 rfl ?_
                refine z_iconst (4) dX12_drawDeed_107 rfl ?_
                refine z_iconst (0) dX12_drawDeed_108 rfl ?_
                refine e_iload_n dX12_drawDeed_109 rfl ?_
                refine e_callV [.int _, .int _, .int _] dX12_drawDeed_110 tm_12_367 rfl (Nat.le_of_ble_eq_true rfl) (rk_s k15) (Nat.le_of_ble_eq_true rfl) (Nat.le_refl _) (Nat.le_refl _) rfl (zp_X12_does k15 H16 H17 H18 H19 4 ⟨by omega, by omega⟩ 0 ⟨by omega, by omega⟩ d ⟨by omega, by omega⟩ (by omega) (by omega) (by omega) (fun  h141 f142 p143 p144 p145 p146 => ?_))
                have k147 := rk_q (frm_s f142) k15
                have H148 := sdR_c f142 (fun a k q1 q2 => by omega) p14
                have FR149 := frm_t FR20 (frm_m (S' := (fun a i => a = m + 11 ∨ a = m + 13 ∨ a = m + 15 ∨ (a = m ∧ ((33 ≤ i ∧ i ≤ 38) ∨ i = 57)))) f142 (fun a k q => by omega))
                refine e_pop dX12_drawDeed_113 rfl ?_
                refine e_goto 141 dX12_drawDeed_114 rfl ?_
                refine e_vret dX12_drawDeed_141 rfl ⟨rfl, ?_⟩
                exfalso; omega
            · skip
              skip
              refine e_aload_n dX12_drawDeed_83 rfl ?_
              refine z_iconst (3) dX12_drawDeed_84 rfl ?_
              refine e_iload_n dX12_drawDeed_85 rfl ?_
              refine e_aload_n dX12_drawDeed_86 rfl ?_
              refine e_aload_n dX12_drawDeed_87 rfl ?_
              refine z_get (nc g) dX12_drawDeed_88 tf_12_277 (rk_s k15) (Or.inl rfl) (rC_nc H18) ?_
              have y150 := rC_n H18
              refine e_callV [.int _] dX12_drawDeed_91 tm_12_538 rfl (Nat.le_of_ble_eq_true rfl) (rk_s k15) (Nat.le_of_ble_eq_true rfl) (Nat.le_refl _) (Nat.le_refl _) rfl (zp_X12_draw k15 p14 (nc g) ⟨by omega, by omega⟩ (by omega) (fun  h151 f152 p153 => ?_))
              have k154 := rk_q (frm_s f152) k15
              have H155 := rB_c f152 (fun a k q => by omega) H16
              have H156 := rM_c f152 (fun a k q => by omega) H17
              have H157 := rC_c f152 (fun a k q => by omega) H18
              have H158 := rQ_c f152 (fun a k q1 q2 q3 => by omega) H19
              have FR159 := frm_t FR20 (frm_m (S' := (fun a i => a = m + 11 ∨ a = m + 13 ∨ a = m + 15 ∨ (a = m ∧ ((33 ≤ i ∧ i ≤ 38) ∨ i = 57)))) f152 (fun a k q => by omega))
              have y160 := dvZ_b (dwZ (dwZ x)) (show 0 < (nc g) by omega)
              refine e_callV [.int _, .int _, .int _] dX12_drawDeed_94 tm_12_367 rfl (Nat.le_of_ble_eq_true rfl) (rk_s k154) (Nat.le_of_ble_eq_true rfl) (Nat.le_refl _) (Nat.le_refl _) rfl (zp_X12_does k154 H155 H156 H157 H158 3 ⟨by omega, by omega⟩ d ⟨by omega, by omega⟩ (dvZ (dwZ (dwZ x)) (nc g)) ⟨by omega, by omega⟩ (by omega) (by omega) (by omega) (fun  h161 f162 p163 p164 p165 p166 => ?_))
              have k167 := rk_q (frm_s f162) k154
              have H168 := sdR_c f162 (fun a k q1 q2 => by omega) p153
              have FR169 := frm_t FR159 (frm_m (S' := (fun a i => a = m + 11 ∨ a = m + 13 ∨ a = m + 15 ∨ (a = m ∧ ((33 ≤ i ∧ i ≤ 38) ∨ i = 57)))) f162 (fun a k q => by omega))
              refine e_pop dX12_drawDeed_97 rfl ?_
              refine e_goto 141 dX12_drawDeed_98 rfl ?_
              refine e_vret dX12_drawDeed_141 rfl ⟨rfl, ?_⟩
              have ew : w = 4 := by omega
              subst ew
              have eG : DG g q 4 d (dwZ (dwZ x)) = (nG g q 3 d (dvZ (dwZ (dwZ x)) (nc g))) := by simp [DG, DQ, dkK, dkA, dkB, dkX, nG3, nQ3, show 0 < nc g by omega]
              have eQ : DQ g q 4 d (dwZ (dwZ x)) = (nQ g q 3 d (dvZ (dwZ (dwZ x)) (nc g))) := by simp [DG, DQ, dkK, dkA, dkB, dkX, nG3, nQ3, show 0 < nc g by omega]
              have eX : dkX g 4 (dwZ (dwZ x)) = (dwZ (dwZ (dwZ x))) := by simp [DG, DQ, dkK, dkA, dkB, dkX, nG3, nQ3, show 0 < nc g by omega]
              refine kq _ FR169 ?_ ?_ ?_ ?_ ?_
              · rw [eG]; exact p163
              · rw [eG]; exact p164
              · rw [eG]; exact p165
              · rw [eQ]; exact p166
              · rw [eX]; exact H168
      · skip
        skip
        refine e_aload_n dX12_drawDeed_55 rfl ?_
        refine e_iload_n dX12_drawDeed_56 rfl ?_
        refine e_iload_n dX12_drawDeed_57 rfl ?_
        refine z_iconst (-1) dX12_drawDeed_58 rfl ?_
        refine e_callV [.int _, .int _, .int _] dX12_drawDeed_59 tm_12_367 rfl (Nat.le_of_ble_eq_true rfl) (rk_s k15) (Nat.le_of_ble_eq_true rfl) (Nat.le_refl _) (Nat.le_refl _) rfl (zp_X12_does k15 H16 H17 H18 H19 w ⟨by omega, by omega⟩ d ⟨by omega, by omega⟩ (-1) ⟨by omega, by omega⟩ (by omega) (by omega) (by omega) (fun  h170 f171 p172 p173 p174 p175 => ?_))
        have k176 := rk_q (frm_s f171) k15
        have H177 := sdR_c f171 (fun a k q1 q2 => by omega) p14
        have FR178 := frm_t FR20 (frm_m (S' := (fun a i => a = m + 11 ∨ a = m + 13 ∨ a = m + 15 ∨ (a = m ∧ ((33 ≤ i ∧ i ≤ 38) ∨ i = 57)))) f171 (fun a k q => by omega))
        refine e_pop dX12_drawDeed_62 rfl ?_
        refine e_goto 141 dX12_drawDeed_63 rfl ?_
        refine e_vret dX12_drawDeed_141 rfl ⟨rfl, ?_⟩
        have ew : w = 2 := by omega
        subst ew
        have eG : DG g q 2 d (dwZ (dwZ x)) = (nG g q 2 d (-1)) := by simp [DG, DQ, dkK, dkA, dkB, dkX, nG2, nQ2]
        have eQ : DQ g q 2 d (dwZ (dwZ x)) = (nQ g q 2 d (-1)) := by simp [DG, DQ, dkK, dkA, dkB, dkX, nG2, nQ2]
        have eX : dkX g 2 (dwZ (dwZ x)) = (dwZ (dwZ x)) := by simp [DG, DQ, dkK, dkA, dkB, dkX, nG2, nQ2]
        refine kq _ FR178 ?_ ?_ ?_ ?_ ?_
        · rw [eG]; exact p172
        · rw [eG]; exact p173
        · rw [eG]; exact p174
        · rw [eQ]; exact p175
        · rw [eX]; exact H177
  · skip
    skip
    refine e_aload_n dX12_drawDeed_20 rfl ?_
    refine z_get (nu g) dX12_drawDeed_21 tf_12_274 (rk_s k15) (Or.inl rfl) (rB_nu H16) ?_
    have y179 := rB_n H16
    refine z_if_le 45 dX12_drawDeed_24 rfl ⟨by omega, by omega⟩ (fun c180 => ?_) (fun c180 => ?_)
    · skip
      refine e_iload_n dX12_drawDeed_45 rfl ?_
      refine z_iconst (1) dX12_drawDeed_46 rfl ?_
      refine z_icmp_eq 55 dX12_drawDeed_47 rfl ⟨by omega, by omega⟩ ⟨by omega, by omega⟩ (fun c181 => ?_) (fun c181 => ?_)
      · skip
        skip
        refine e_aload_n dX12_drawDeed_55 rfl ?_
        refine e_iload_n dX12_drawDeed_56 rfl ?_
        refine e_iload_n dX12_drawDeed_57 rfl ?_
        refine z_iconst (-1) dX12_drawDeed_58 rfl ?_
        refine e_callV [.int _, .int _, .int _] dX12_drawDeed_59 tm_12_367 rfl (Nat.le_of_ble_eq_true rfl) (rk_s k15) (Nat.le_of_ble_eq_true rfl) (Nat.le_refl _) (Nat.le_refl _) rfl (zp_X12_does k15 H16 H17 H18 H19 w ⟨by omega, by omega⟩ d ⟨by omega, by omega⟩ (-1) ⟨by omega, by omega⟩ (by omega) (by omega) (by omega) (fun  h182 f183 p184 p185 p186 p187 => ?_))
        have k188 := rk_q (frm_s f183) k15
        have H189 := sdR_c f183 (fun a k q1 q2 => by omega) p14
        have FR190 := frm_t FR20 (frm_m (S' := (fun a i => a = m + 11 ∨ a = m + 13 ∨ a = m + 15 ∨ (a = m ∧ ((33 ≤ i ∧ i ≤ 38) ∨ i = 57)))) f183 (fun a k q => by omega))
        refine e_pop dX12_drawDeed_62 rfl ?_
        refine e_goto 141 dX12_drawDeed_63 rfl ?_
        refine e_vret dX12_drawDeed_141 rfl ⟨rfl, ?_⟩
        exfalso; omega
      · skip
        skip
        refine e_iload_n dX12_drawDeed_50 rfl ?_
        refine z_iconst (2) dX12_drawDeed_51 rfl ?_
        refine z_icmp_ne 66 dX12_drawDeed_52 rfl ⟨by omega, by omega⟩ ⟨by omega, by omega⟩ (fun c191 => ?_) (fun c191 => ?_)
        · skip
          refine e_iload_n dX12_drawDeed_66 rfl ?_
          refine z_iconst (3) dX12_drawDeed_67 rfl ?_
          refine z_icmp_eq 76 dX12_drawDeed_68 rfl ⟨by omega, by omega⟩ ⟨by omega, by omega⟩ (fun c192 => ?_) (fun c192 => ?_)
          · skip
            skip
            refine e_aload_n dX12_drawDeed_76 rfl ?_
            refine z_get (nc g) dX12_drawDeed_77 tf_12_277 (rk_s k15) (Or.inl rfl) (rC_nc H18) ?_
            have y193 := rC_n H18
            refine z_if_le 101 dX12_drawDeed_80 rfl ⟨by omega, by omega⟩ (fun c194 => ?_) (fun c194 => ?_)
            · skip
              refine e_iload_n dX12_drawDeed_101 rfl ?_
              refine z_iconst (5) dX12_drawDeed_102 rfl ?_
              refine z_icmp_ne 117 dX12_drawDeed_103 rfl ⟨by omega, by omega⟩ ⟨by omega, by omega⟩ (fun c195 => ?_) (fun c195 => ?_)
              · skip
                refine e_iload_n dX12_drawDeed_117 rfl ?_
                refine z_iconst (5) dX12_drawDeed_118 rfl ?_
                refine z_icmp_le 141 dX12_drawDeed_119 rfl ⟨by omega, by omega⟩ ⟨by omega, by omega⟩ (fun c196 => ?_) (fun c196 => ?_)
                · skip
                  refine e_vret dX12_drawDeed_141 rfl ⟨rfl, ?_⟩
                  exfalso; omega
                · skip
                  skip
                  refine e_aload_n dX12_drawDeed_122 rfl ?_
                  refine e_iload_n dX12_drawDeed_123 rfl ?_
                  refine z_bipush (6) dX12_drawDeed_124 rfl ?_
                  refine z_icmp_ne 133 dX12_drawDeed_126 rfl ⟨by omega, by omega⟩ ⟨by omega, by omega⟩ (fun c197 => ?_) (fun c197 => ?_)
                  · skip
                    skip
                    refine z_bipush (6) dX12_drawDeed_133 rfl ?_
                    refine e_iload_n dX12_drawDeed_135 rfl ?_
                    refine z_iconst (-1) dX12_drawDeed_136 rfl ?_
                    refine e_callV [.int _, .int _, .int _] dX12_drawDeed_137 tm_12_367 rfl (Nat.le_of_ble_eq_true rfl) (rk_s k15) (Nat.le_of_ble_eq_true rfl) (Nat.le_refl _) (Nat.le_refl _) rfl (zp_X12_does k15 H16 H17 H18 H19 6 ⟨by omega, by omega⟩ d ⟨by omega, by omega⟩ (-1) ⟨by omega, by omega⟩ (by omega) (by omega) (by omega) (fun  h198 f199 p200 p201 p202 p203 => ?_))
                    have k204 := rk_q (frm_s f199) k15
                    have H205 := sdR_c f199 (fun a k q1 q2 => by omega) p14
                    have FR206 := frm_t FR20 (frm_m (S' := (fun a i => a = m + 11 ∨ a = m + 13 ∨ a = m + 15 ∨ (a = m ∧ ((33 ≤ i ∧ i ≤ 38) ∨ i = 57)))) f199 (fun a k q => by omega))
                    refine e_pop dX12_drawDeed_140 rfl ?_
                    refine e_vret dX12_drawDeed_141 rfl ⟨rfl, ?_⟩
                    exfalso; omega
                  · skip
                    skip
                    refine z_iconst (5) dX12_drawDeed_129 rfl ?_
                    refine e_goto 135 dX12_drawDeed_130 rfl ?_
                    refine e_iload_n dX12_drawDeed_135 rfl ?_
                    refine z_iconst (-1) dX12_drawDeed_136 rfl ?_
                    refine e_callV [.int _, .int _, .int _] dX12_drawDeed_137 tm_12_367 rfl (Nat.le_of_ble_eq_true rfl) (rk_s k15) (Nat.le_of_ble_eq_true rfl) (Nat.le_refl _) (Nat.le_refl _) rfl (zp_X12_does k15 H16 H17 H18 H19 5 ⟨by omega, by omega⟩ d ⟨by omega, by omega⟩ (-1) ⟨by omega, by omega⟩ (by omega) (by omega) (by omega) (fun  h207 f208 p209 p210 p211 p212 => ?_))
                    have k213 := rk_q (frm_s f208) k15
                    have H214 := sdR_c f208 (fun a k q1 q2 => by omega) p14
                    have FR215 := frm_t FR20 (frm_m (S' := (fun a i => a = m + 11 ∨ a = m + 13 ∨ a = m + 15 ∨ (a = m ∧ ((33 ≤ i ∧ i ≤ 38) ∨ i = 57)))) f208 (fun a k q => by omega))
                    refine e_pop dX12_drawDeed_140 rfl ?_
                    refine e_vret dX12_drawDeed_141 rfl ⟨rfl, ?_⟩
                    exfalso; omega
              · skip
                skip
                refine e_aload_n dX12_drawDeed_106 rfl ?_
                refine z_iconst (4) dX12_drawDeed_107 rfl ?_
                refine z_iconst (0) dX12_drawDeed_108 rfl ?_
                refine e_iload_n dX12_drawDeed_109 rfl ?_
                refine e_callV [.int _, .int _, .int _] dX12_drawDeed_110 tm_12_367 rfl (Nat.le_of_ble_eq_true rfl) (rk_s k15) (Nat.le_of_ble_eq_true rfl) (Nat.le_refl _) (Nat.le_refl _) rfl (zp_X12_does k15 H16 H17 H18 H19 4 ⟨by omega, by omega⟩ 0 ⟨by omega, by omega⟩ d ⟨by omega, by omega⟩ (by omega) (by omega) (by omega) (fun  h216 f217 p218 p219 p220 p221 => ?_))
                have k222 := rk_q (frm_s f217) k15
                have H223 := sdR_c f217 (fun a k q1 q2 => by omega) p14
                have FR224 := frm_t FR20 (frm_m (S' := (fun a i => a = m + 11 ∨ a = m + 13 ∨ a = m + 15 ∨ (a = m ∧ ((33 ≤ i ∧ i ≤ 38) ∨ i = 57)))) f217 (fun a k q => by omega))
                refine e_pop dX12_drawDeed_113 rfl ?_
                refine e_goto 141 dX12_drawDeed_114 rfl ?_
                refine e_vret dX12_drawDeed_141 rfl ⟨rfl, ?_⟩
                exfalso; omega
            · skip
              skip
              refine e_aload_n dX12_drawDeed_83 rfl ?_
              refine z_iconst (3) dX12_drawDeed_84 rfl ?_
              refine e_iload_n dX12_drawDeed_85 rfl ?_
              refine e_aload_n dX12_drawDeed_86 rfl ?_
              refine e_aload_n dX12_drawDeed_87 rfl ?_
              refine z_get (nc g) dX12_drawDeed_88 tf_12_277 (rk_s k15) (Or.inl rfl) (rC_nc H18) ?_
              have y225 := rC_n H18
              refine e_callV [.int _] dX12_drawDeed_91 tm_12_538 rfl (Nat.le_of_ble_eq_true rfl) (rk_s k15) (Nat.le_of_ble_eq_true rfl) (Nat.le_refl _) (Nat.le_refl _) rfl (zp_X12_draw k15 p14 (nc g) ⟨by omega, by omega⟩ (by omega) (fun  h226 f227 p228 => ?_))
              have k229 := rk_q (frm_s f227) k15
              have H230 := rB_c f227 (fun a k q => by omega) H16
              have H231 := rM_c f227 (fun a k q => by omega) H17
              have H232 := rC_c f227 (fun a k q => by omega) H18
              have H233 := rQ_c f227 (fun a k q1 q2 q3 => by omega) H19
              have FR234 := frm_t FR20 (frm_m (S' := (fun a i => a = m + 11 ∨ a = m + 13 ∨ a = m + 15 ∨ (a = m ∧ ((33 ≤ i ∧ i ≤ 38) ∨ i = 57)))) f227 (fun a k q => by omega))
              have y235 := dvZ_b (dwZ (dwZ x)) (show 0 < (nc g) by omega)
              refine e_callV [.int _, .int _, .int _] dX12_drawDeed_94 tm_12_367 rfl (Nat.le_of_ble_eq_true rfl) (rk_s k229) (Nat.le_of_ble_eq_true rfl) (Nat.le_refl _) (Nat.le_refl _) rfl (zp_X12_does k229 H230 H231 H232 H233 3 ⟨by omega, by omega⟩ d ⟨by omega, by omega⟩ (dvZ (dwZ (dwZ x)) (nc g)) ⟨by omega, by omega⟩ (by omega) (by omega) (by omega) (fun  h236 f237 p238 p239 p240 p241 => ?_))
              have k242 := rk_q (frm_s f237) k229
              have H243 := sdR_c f237 (fun a k q1 q2 => by omega) p228
              have FR244 := frm_t FR234 (frm_m (S' := (fun a i => a = m + 11 ∨ a = m + 13 ∨ a = m + 15 ∨ (a = m ∧ ((33 ≤ i ∧ i ≤ 38) ∨ i = 57)))) f237 (fun a k q => by omega))
              refine e_pop dX12_drawDeed_97 rfl ?_
              refine e_goto 141 dX12_drawDeed_98 rfl ?_
              refine e_vret dX12_drawDeed_141 rfl ⟨rfl, ?_⟩
              exfalso; omega
          · skip
            skip
            refine e_iload_n dX12_drawDeed_71 rfl ?_
            refine z_iconst (4) dX12_drawDeed_72 rfl ?_
            refine z_icmp_ne 101 dX12_drawDeed_73 rfl ⟨by omega, by omega⟩ ⟨by omega, by omega⟩ (fun c245 => ?_) (fun c245 => ?_)
            · skip
              refine e_iload_n dX12_drawDeed_101 rfl ?_
              refine z_iconst (5) dX12_drawDeed_102 rfl ?_
              refine z_icmp_ne 117 dX12_drawDeed_103 rfl ⟨by omega, by omega⟩ ⟨by omega, by omega⟩ (fun c246 => ?_) (fun c246 => ?_)
              · skip
                refine e_iload_n dX12_drawDeed_117 rfl ?_
                refine z_iconst (5) dX12_drawDeed_118 rfl ?_
                refine z_icmp_le 141 dX12_drawDeed_119 rfl ⟨by omega, by omega⟩ ⟨by omega, by omega⟩ (fun c247 => ?_) (fun c247 => ?_)
                · skip
                  refine e_vret dX12_drawDeed_141 rfl ⟨rfl, ?_⟩
                  have ew : w = 0 := by omega
                  subst ew
                  have eG : DG g q 0 d (dwZ (dwZ x)) = g := by simp [DG, DQ, dkK, dkA, dkB, dkX, nG7, nQ7, show ¬ 0 < nu g by omega]
                  have eQ : DQ g q 0 d (dwZ (dwZ x)) = q := by simp [DG, DQ, dkK, dkA, dkB, dkX, nG7, nQ7, show ¬ 0 < nu g by omega]
                  have eX : dkX g 0 (dwZ (dwZ x)) = (dwZ (dwZ x)) := by simp [DG, DQ, dkK, dkA, dkB, dkX, nG7, nQ7, show ¬ 0 < nu g by omega]
                  refine kq _ FR20 ?_ ?_ ?_ ?_ ?_
                  · rw [eG]; exact H16
                  · rw [eG]; exact H17
                  · rw [eG]; exact H18
                  · rw [eQ]; exact (rQ_1 H19 pn)
                  · rw [eX]; exact p14
                · skip
                  skip
                  refine e_aload_n dX12_drawDeed_122 rfl ?_
                  refine e_iload_n dX12_drawDeed_123 rfl ?_
                  refine z_bipush (6) dX12_drawDeed_124 rfl ?_
                  refine z_icmp_ne 133 dX12_drawDeed_126 rfl ⟨by omega, by omega⟩ ⟨by omega, by omega⟩ (fun c248 => ?_) (fun c248 => ?_)
                  · skip
                    skip
                    refine z_bipush (6) dX12_drawDeed_133 rfl ?_
                    refine e_iload_n dX12_drawDeed_135 rfl ?_
                    refine z_iconst (-1) dX12_drawDeed_136 rfl ?_
                    refine e_callV [.int _, .int _, .int _] dX12_drawDeed_137 tm_12_367 rfl (Nat.le_of_ble_eq_true rfl) (rk_s k15) (Nat.le_of_ble_eq_true rfl) (Nat.le_refl _) (Nat.le_refl _) rfl (zp_X12_does k15 H16 H17 H18 H19 6 ⟨by omega, by omega⟩ d ⟨by omega, by omega⟩ (-1) ⟨by omega, by omega⟩ (by omega) (by omega) (by omega) (fun  h249 f250 p251 p252 p253 p254 => ?_))
                    have k255 := rk_q (frm_s f250) k15
                    have H256 := sdR_c f250 (fun a k q1 q2 => by omega) p14
                    have FR257 := frm_t FR20 (frm_m (S' := (fun a i => a = m + 11 ∨ a = m + 13 ∨ a = m + 15 ∨ (a = m ∧ ((33 ≤ i ∧ i ≤ 38) ∨ i = 57)))) f250 (fun a k q => by omega))
                    refine e_pop dX12_drawDeed_140 rfl ?_
                    refine e_vret dX12_drawDeed_141 rfl ⟨rfl, ?_⟩
                    exfalso; omega
                  · skip
                    skip
                    refine z_iconst (5) dX12_drawDeed_129 rfl ?_
                    refine e_goto 135 dX12_drawDeed_130 rfl ?_
                    refine e_iload_n dX12_drawDeed_135 rfl ?_
                    refine z_iconst (-1) dX12_drawDeed_136 rfl ?_
                    refine e_callV [.int _, .int _, .int _] dX12_drawDeed_137 tm_12_367 rfl (Nat.le_of_ble_eq_true rfl) (rk_s k15) (Nat.le_of_ble_eq_true rfl) (Nat.le_refl _) (Nat.le_refl _) rfl (zp_X12_does k15 H16 H17 H18 H19 5 ⟨by omega, by omega⟩ d ⟨by omega, by omega⟩ (-1) ⟨by omega, by omega⟩ (by omega) (by omega) (by omega) (fun  h258 f259 p260 p261 p262 p263 => ?_))
                    have k264 := rk_q (frm_s f259) k15
                    have H265 := sdR_c f259 (fun a k q1 q2 => by omega) p14
                    have FR266 := frm_t FR20 (frm_m (S' := (fun a i => a = m + 11 ∨ a = m + 13 ∨ a = m + 15 ∨ (a = m ∧ ((33 ≤ i ∧ i ≤ 38) ∨ i = 57)))) f259 (fun a k q => by omega))
                    refine e_pop dX12_drawDeed_140 rfl ?_
                    refine e_vret dX12_drawDeed_141 rfl ⟨rfl, ?_⟩
                    exfalso; omega
              · skip
                skip
                refine e_aload_n dX12_drawDeed_106 rfl ?_
                refine z_iconst (4) dX12_drawDeed_107 rfl ?_
                refine z_iconst (0) dX12_drawDeed_108 rfl ?_
                refine e_iload_n dX12_drawDeed_109 rfl ?_
                refine e_callV [.int _, .int _, .int _] dX12_drawDeed_110 tm_12_367 rfl (Nat.le_of_ble_eq_true rfl) (rk_s k15) (Nat.le_of_ble_eq_true rfl) (Nat.le_refl _) (Nat.le_refl _) rfl (zp_X12_does k15 H16 H17 H18 H19 4 ⟨by omega, by omega⟩ 0 ⟨by omega, by omega⟩ d ⟨by omega, by omega⟩ (by omega) (by omega) (by omega) (fun  h267 f268 p269 p270 p271 p272 => ?_))
                have k273 := rk_q (frm_s f268) k15
                have H274 := sdR_c f268 (fun a k q1 q2 => by omega) p14
                have FR275 := frm_t FR20 (frm_m (S' := (fun a i => a = m + 11 ∨ a = m + 13 ∨ a = m + 15 ∨ (a = m ∧ ((33 ≤ i ∧ i ≤ 38) ∨ i = 57)))) f268 (fun a k q => by omega))
                refine e_pop dX12_drawDeed_113 rfl ?_
                refine e_goto 141 dX12_drawDeed_114 rfl ?_
                refine e_vret dX12_drawDeed_141 rfl ⟨rfl, ?_⟩
                exfalso; omega
            · skip
              skip
              refine e_aload_n dX12_drawDeed_76 rfl ?_
              refine z_get (nc g) dX12_drawDeed_77 tf_12_277 (rk_s k15) (Or.inl rfl) (rC_nc H18) ?_
              have y276 := rC_n H18
              refine z_if_le 101 dX12_drawDeed_80 rfl ⟨by omega, by omega⟩ (fun c277 => ?_) (fun c277 => ?_)
              · skip
                refine e_iload_n dX12_drawDeed_101 rfl ?_
                refine z_iconst (5) dX12_drawDeed_102 rfl ?_
                refine z_icmp_ne 117 dX12_drawDeed_103 rfl ⟨by omega, by omega⟩ ⟨by omega, by omega⟩ (fun c278 => ?_) (fun c278 => ?_)
                · skip
                  refine e_iload_n dX12_drawDeed_117 rfl ?_
                  refine z_iconst (5) dX12_drawDeed_118 rfl ?_
                  refine z_icmp_le 141 dX12_drawDeed_119 rfl ⟨by omega, by omega⟩ ⟨by omega, by omega⟩ (fun c279 => ?_) (fun c279 => ?_)
                  · skip
                    refine e_vret dX12_drawDeed_141 rfl ⟨rfl, ?_⟩
                    exfalso; omega
                  · skip
                    skip
                    refine e_aload_n dX12_drawDeed_122 rfl ?_
                    refine e_iload_n dX12_drawDeed_123 rfl ?_
                    refine z_bipush (6) dX12_drawDeed_124 rfl ?_
                    refine z_icmp_ne 133 dX12_drawDeed_126 rfl ⟨by omega, by omega⟩ ⟨by omega, by omega⟩ (fun c280 => ?_) (fun c280 => ?_)
                    · skip
                      skip
                      refine z_bipush (6) dX12_drawDeed_133 rfl ?_
                      refine e_iload_n dX12_drawDeed_135 rfl ?_
                      refine z_iconst (-1) dX12_drawDeed_136 rfl ?_
                      refine e_callV [.int _, .int _, .int _] dX12_drawDeed_137 tm_12_367 rfl (Nat.le_of_ble_eq_true rfl) (rk_s k15) (Nat.le_of_ble_eq_true rfl) (Nat.le_refl _) (Nat.le_refl _) rfl (zp_X12_does k15 H16 H17 H18 H19 6 ⟨by omega, by omega⟩ d ⟨by omega, by omega⟩ (-1) ⟨by omega, by omega⟩ (by omega) (by omega) (by omega) (fun  h281 f282 p283 p284 p285 p286 => ?_))
                      have k287 := rk_q (frm_s f282) k15
                      have H288 := sdR_c f282 (fun a k q1 q2 => by omega) p14
                      have FR289 := frm_t FR20 (frm_m (S' := (fun a i => a = m + 11 ∨ a = m + 13 ∨ a = m + 15 ∨ (a = m ∧ ((33 ≤ i ∧ i ≤ 38) ∨ i = 57)))) f282 (fun a k q => by omega))
                      refine e_pop dX12_drawDeed_140 rfl ?_
                      refine e_vret dX12_drawDeed_141 rfl ⟨rfl, ?_⟩
                      exfalso; omega
                    · skip
                      skip
                      refine z_iconst (5) dX12_drawDeed_129 rfl ?_
                      refine e_goto 135 dX12_drawDeed_130 rfl ?_
                      refine e_iload_n dX12_drawDeed_135 rfl ?_
                      refine z_iconst (-1) dX12_drawDeed_136 rfl ?_
                      refine e_callV [.int _, .int _, .int _] dX12_drawDeed_137 tm_12_367 rfl (Nat.le_of_ble_eq_true rfl) (rk_s k15) (Nat.le_of_ble_eq_true rfl) (Nat.le_refl _) (Nat.le_refl _) rfl (zp_X12_does k15 H16 H17 H18 H19 5 ⟨by omega, by omega⟩ d ⟨by omega, by omega⟩ (-1) ⟨by omega, by omega⟩ (by omega) (by omega) (by omega) (fun  h290 f291 p292 p293 p294 p295 => ?_))
                      have k296 := rk_q (frm_s f291) k15
                      have H297 := sdR_c f291 (fun a k q1 q2 => by omega) p14
                      have FR298 := frm_t FR20 (frm_m (S' := (fun a i => a = m + 11 ∨ a = m + 13 ∨ a = m + 15 ∨ (a = m ∧ ((33 ≤ i ∧ i ≤ 38) ∨ i = 57)))) f291 (fun a k q => by omega))
                      refine e_pop dX12_drawDeed_140 rfl ?_
                      refine e_vret dX12_drawDeed_141 rfl ⟨rfl, ?_⟩
                      exfalso; omega
                · skip
                  skip
                  refine e_aload_n dX12_drawDeed_106 rfl ?_
                  refine z_iconst (4) dX12_drawDeed_107 rfl ?_
                  refine z_iconst (0) dX12_drawDeed_108 rfl ?_
                  refine e_iload_n dX12_drawDeed_109 rfl ?_
                  refine e_callV [.int _, .int _, .int _] dX12_drawDeed_110 tm_12_367 rfl (Nat.le_of_ble_eq_true rfl) (rk_s k15) (Nat.le_of_ble_eq_true rfl) (Nat.le_refl _) (Nat.le_refl _) rfl (zp_X12_does k15 H16 H17 H18 H19 4 ⟨by omega, by omega⟩ 0 ⟨by omega, by omega⟩ d ⟨by omega, by omega⟩ (by omega) (by omega) (by omega) (fun  h299 f300 p301 p302 p303 p304 => ?_))
                  have k305 := rk_q (frm_s f300) k15
                  have H306 := sdR_c f300 (fun a k q1 q2 => by omega) p14
                  have FR307 := frm_t FR20 (frm_m (S' := (fun a i => a = m + 11 ∨ a = m + 13 ∨ a = m + 15 ∨ (a = m ∧ ((33 ≤ i ∧ i ≤ 38) ∨ i = 57)))) f300 (fun a k q => by omega))
                  refine e_pop dX12_drawDeed_113 rfl ?_
                  refine e_goto 141 dX12_drawDeed_114 rfl ?_
                  refine e_vret dX12_drawDeed_141 rfl ⟨rfl, ?_⟩
                  exfalso; omega
              · skip
                skip
                refine e_aload_n dX12_drawDeed_83 rfl ?_
                refine z_iconst (3) dX12_drawDeed_84 rfl ?_
                refine e_iload_n dX12_drawDeed_85 rfl ?_
                refine e_aload_n dX12_drawDeed_86 rfl ?_
                refine e_aload_n dX12_drawDeed_87 rfl ?_
                refine z_get (nc g) dX12_drawDeed_88 tf_12_277 (rk_s k15) (Or.inl rfl) (rC_nc H18) ?_
                have y308 := rC_n H18
                refine e_callV [.int _] dX12_drawDeed_91 tm_12_538 rfl (Nat.le_of_ble_eq_true rfl) (rk_s k15) (Nat.le_of_ble_eq_true rfl) (Nat.le_refl _) (Nat.le_refl _) rfl (zp_X12_draw k15 p14 (nc g) ⟨by omega, by omega⟩ (by omega) (fun  h309 f310 p311 => ?_))
                have k312 := rk_q (frm_s f310) k15
                have H313 := rB_c f310 (fun a k q => by omega) H16
                have H314 := rM_c f310 (fun a k q => by omega) H17
                have H315 := rC_c f310 (fun a k q => by omega) H18
                have H316 := rQ_c f310 (fun a k q1 q2 q3 => by omega) H19
                have FR317 := frm_t FR20 (frm_m (S' := (fun a i => a = m + 11 ∨ a = m + 13 ∨ a = m + 15 ∨ (a = m ∧ ((33 ≤ i ∧ i ≤ 38) ∨ i = 57)))) f310 (fun a k q => by omega))
                have y318 := dvZ_b (dwZ (dwZ x)) (show 0 < (nc g) by omega)
                refine e_callV [.int _, .int _, .int _] dX12_drawDeed_94 tm_12_367 rfl (Nat.le_of_ble_eq_true rfl) (rk_s k312) (Nat.le_of_ble_eq_true rfl) (Nat.le_refl _) (Nat.le_refl _) rfl (zp_X12_does k312 H313 H314 H315 H316 3 ⟨by omega, by omega⟩ d ⟨by omega, by omega⟩ (dvZ (dwZ (dwZ x)) (nc g)) ⟨by omega, by omega⟩ (by omega) (by omega) (by omega) (fun  h319 f320 p321 p322 p323 p324 => ?_))
                have k325 := rk_q (frm_s f320) k312
                have H326 := sdR_c f320 (fun a k q1 q2 => by omega) p311
                have FR327 := frm_t FR317 (frm_m (S' := (fun a i => a = m + 11 ∨ a = m + 13 ∨ a = m + 15 ∨ (a = m ∧ ((33 ≤ i ∧ i ≤ 38) ∨ i = 57)))) f320 (fun a k q => by omega))
                refine e_pop dX12_drawDeed_97 rfl ?_
                refine e_goto 141 dX12_drawDeed_98 rfl ?_
                refine e_vret dX12_drawDeed_141 rfl ⟨rfl, ?_⟩
                exfalso; omega
        · skip
          skip
          refine e_aload_n dX12_drawDeed_55 rfl ?_
          refine e_iload_n dX12_drawDeed_56 rfl ?_
          refine e_iload_n dX12_drawDeed_57 rfl ?_
          refine z_iconst (-1) dX12_drawDeed_58 rfl ?_
          refine e_callV [.int _, .int _, .int _] dX12_drawDeed_59 tm_12_367 rfl (Nat.le_of_ble_eq_true rfl) (rk_s k15) (Nat.le_of_ble_eq_true rfl) (Nat.le_refl _) (Nat.le_refl _) rfl (zp_X12_does k15 H16 H17 H18 H19 w ⟨by omega, by omega⟩ d ⟨by omega, by omega⟩ (-1) ⟨by omega, by omega⟩ (by omega) (by omega) (by omega) (fun  h328 f329 p330 p331 p332 p333 => ?_))
          have k334 := rk_q (frm_s f329) k15
          have H335 := sdR_c f329 (fun a k q1 q2 => by omega) p14
          have FR336 := frm_t FR20 (frm_m (S' := (fun a i => a = m + 11 ∨ a = m + 13 ∨ a = m + 15 ∨ (a = m ∧ ((33 ≤ i ∧ i ≤ 38) ∨ i = 57)))) f329 (fun a k q => by omega))
          refine e_pop dX12_drawDeed_62 rfl ?_
          refine e_goto 141 dX12_drawDeed_63 rfl ?_
          refine e_vret dX12_drawDeed_141 rfl ⟨rfl, ?_⟩
          exfalso; omega
    · skip
      skip
      refine e_aload_n dX12_drawDeed_27 rfl ?_
      refine z_iconst (0) dX12_drawDeed_28 rfl ?_
      refine e_iload_n dX12_drawDeed_29 rfl ?_
      refine e_aload_n dX12_drawDeed_30 rfl ?_
      refine e_aload_n dX12_drawDeed_31 rfl ?_
      refine z_get (nu g) dX12_drawDeed_32 tf_12_274 (rk_s k15) (Or.inl rfl) (rB_nu H16) ?_
      have y337 := rB_n H16
      refine e_callV [.int _] dX12_drawDeed_35 tm_12_538 rfl (Nat.le_of_ble_eq_true rfl) (rk_s k15) (Nat.le_of_ble_eq_true rfl) (Nat.le_refl _) (Nat.le_refl _) rfl (zp_X12_draw k15 p14 (nu g) ⟨by omega, by omega⟩ (by omega) (fun  h338 f339 p340 => ?_))
      have k341 := rk_q (frm_s f339) k15
      have H342 := rB_c f339 (fun a k q => by omega) H16
      have H343 := rM_c f339 (fun a k q => by omega) H17
      have H344 := rC_c f339 (fun a k q => by omega) H18
      have H345 := rQ_c f339 (fun a k q1 q2 q3 => by omega) H19
      have FR346 := frm_t FR20 (frm_m (S' := (fun a i => a = m + 11 ∨ a = m + 13 ∨ a = m + 15 ∨ (a = m ∧ ((33 ≤ i ∧ i ≤ 38) ∨ i = 57)))) f339 (fun a k q => by omega))
      have y347 := dvZ_b (dwZ (dwZ x)) (show 0 < (nu g) by omega)
      refine e_callV [.int _, .int _, .int _] dX12_drawDeed_38 tm_12_367 rfl (Nat.le_of_ble_eq_true rfl) (rk_s k341) (Nat.le_of_ble_eq_true rfl) (Nat.le_refl _) (Nat.le_refl _) rfl (zp_X12_does k341 H342 H343 H344 H345 0 ⟨by omega, by omega⟩ d ⟨by omega, by omega⟩ (dvZ (dwZ (dwZ x)) (nu g)) ⟨by omega, by omega⟩ (by omega) (by omega) (by omega) (fun  h348 f349 p350 p351 p352 p353 => ?_))
      have k354 := rk_q (frm_s f349) k341
      have H355 := sdR_c f349 (fun a k q1 q2 => by omega) p340
      have FR356 := frm_t FR346 (frm_m (S' := (fun a i => a = m + 11 ∨ a = m + 13 ∨ a = m + 15 ∨ (a = m ∧ ((33 ≤ i ∧ i ≤ 38) ∨ i = 57)))) f349 (fun a k q => by omega))
      refine e_pop dX12_drawDeed_41 rfl ?_
      refine e_goto 141 dX12_drawDeed_42 rfl ?_
      refine e_vret dX12_drawDeed_141 rfl ⟨rfl, ?_⟩
      have ew : w = 0 := by omega
      subst ew
      have eG : DG g q 0 d (dwZ (dwZ x)) = (nG g q 0 d (dvZ (dwZ (dwZ x)) (nu g))) := by simp [DG, DQ, dkK, dkA, dkB, dkX, nG0, nQ0, show 0 < nu g by omega]
      have eQ : DQ g q 0 d (dwZ (dwZ x)) = (nQ g q 0 d (dvZ (dwZ (dwZ x)) (nu g))) := by simp [DG, DQ, dkK, dkA, dkB, dkX, nG0, nQ0, show 0 < nu g by omega]
      have eX : dkX g 0 (dwZ (dwZ x)) = (dwZ (dwZ (dwZ x))) := by simp [DG, DQ, dkK, dkA, dkB, dkX, nG0, nQ0, show 0 < nu g by omega]
      refine kq _ FR356 ?_ ?_ ?_ ?_ ?_
      · rw [eG]; exact p350
      · rw [eG]; exact p351
      · rw [eG]; exact p352
      · rw [eQ]; exact p353
      · rw [eX]; exact H355
set_option maxHeartbeats 2000000 in
theorem zp_X12_drawn_in {ad : mA} {dd : Nat} {h : mH} {Q : mQ} {m : Nat} {σ : Sg} (hk : rk h m) (HR : refT h m 0 σ)  (f : Int) (f_r : -2147483648 ≤ f ∧ f < 2147483648) (x : Int) (x_r : -2147483648 ≤ x ∧ x < 2147483648) (t : Int) (t_r : -2147483648 ≤ t ∧ t < 2147483648) (w : Int) (w_r : -2147483648 ≤ w ∧ w < 2147483648) (p1 : 0 ≤ f) (p2 : f < cn σ 0) (pt : 0 ≤ t ∧ t ≤ 60) (kq : ∀ h1, frm (fun a i => a = m ∨ (m + 9 ≤ a ∧ a < m + 30)) h h1 → Q (some (.int (zI (tlS (drG (sG σ f) x t) (drQ (sG σ f) x t) w)))) h1) : mCal TB0 ad (dd + 8) M_X12_drawn [.ref m, .int (zI f), .int (zI x), .int (zI t), .int (zI w)] h 0 0 Q := by
  refine ⟨Nat.le_of_ble_eq_true rfl, ?_⟩
  show mEv TB0 ad M_X12_drawn (dd + 8) (0, 0) (mCal TB0 ad (dd + 7)) (fun v h' z => z.1 = 0 ∧ Q v h') 0 [some (.ref m), some (.int (zI f)), some (.int (zI x)), some (.int (zI t)), some (.int (zI w)), none] [] h (0, 0)
  have FR0 : frm (fun a i => a = m ∨ (m + 9 ≤ a ∧ a < m + 30)) h h := frm_0 h
  have w1 := wS_n (refT_w HR)
  refine e_aload_n dX12_drawn_0 rfl ?_
  refine z_iconst (0) dX12_drawn_1 rfl ?_
  refine z_put dX12_drawn_2 tf_12_103 (rk_s hk) rfl (Or.inl rfl) (fun h1 e2 => ?_)
  have f3 := frm_1 e2
  have k4 := rk_q (frm_s f3) hk
  have H5 := refT_c f3 (fun a k q1 q2 => by omega) HR
  have FR6 := frm_t FR0 (frm_m (S' := (fun a i => a = m ∨ (m + 9 ≤ a ∧ a < m + 30))) f3 (fun a k q => by omega))
  refine e_iload_n dX12_drawn_5 rfl ?_
  refine z_iconst (0) dX12_drawn_6 rfl ?_
  refine z_bipush (60) dX12_drawn_7 rfl ?_
  refine e_callS [.int _, .int _, .int _] dX12_drawn_9 tm_12_115 rfl (Nat.le_of_ble_eq_true rfl) (Nat.le_refl _) (Nat.le_refl _) rfl (zp_X12_in t ⟨by omega, by omega⟩ 0 ⟨by omega, by omega⟩ 60 ⟨by omega, by omega⟩ ?_)
  refine z_ifb_eq 23 dX12_drawn_12 rfl (fun c7 => ?_) (fun c7 => ?_)
  · exfalso; omega
  · skip
    refine e_aload_n dX12_drawn_15 rfl ?_
    refine e_iload_n dX12_drawn_16 rfl ?_
    refine e_callV [.int _] dX12_drawn_17 tm_12_292 rfl (Nat.le_of_ble_eq_true rfl) (rk_s k4) (Nat.le_of_ble_eq_true rfl) (Nat.le_refl _) (Nat.le_refl _) rfl (zp_X12_hand_in k4 H5 f ⟨by omega, by omega⟩ (by omega) (by omega) (fun  h8 f9 p10 p11 p12 p13 => ?_))
    have k14 := rk_q (frm_s f9) k4
    have H15 := refT_c f9 (fun a k q1 q2 => by omega) H5
    have FR16 := frm_t FR6 (frm_m (S' := (fun a i => a = m ∨ (m + 9 ≤ a ∧ a < m + 30))) f9 (fun a k q => by omega))
    refine z_ifb_ne 26 dX12_drawn_20 rfl (fun c17 => ?_) (fun c17 => ?_)
    · skip
      refine e_aload_n dX12_drawn_26 rfl ?_
      refine e_iload_n dX12_drawn_27 rfl ?_
      refine z_put dX12_drawn_28 tf_12_534 (rk_s k14) rfl (Or.inl rfl) (fun h18 e19 => ?_)
      have f20 := frm_1 e19
      have k21 := rk_q (frm_s f20) k14
      have H22 := refT_c f20 (fun a k q1 q2 => by omega) H15
      have H23 := rB_c f20 (fun a k q => by omega) p10
      have H24 := rM_c f20 (fun a k q => by omega) p11
      have H25 := rC_c f20 (fun a k q => by omega) p12
      have H26 := rK_c f20 (fun a k q1 q2 => by omega) p13
      have FR27 := frm_t FR16 (frm_m (S' := (fun a i => a = m ∨ (m + 9 ≤ a ∧ a < m + 30))) f20 (fun a k q => by omega))
      refine e_aload_n dX12_drawn_31 rfl ?_
      refine e_callV [] dX12_drawn_32 tm_12_364 rfl (Nat.le_of_ble_eq_true rfl) (rk_s k21) (Nat.le_of_ble_eq_true rfl) (Nat.le_refl _) (Nat.le_refl _) rfl (zp_X12_begin k21 (fun  h28 f29 p30 => ?_))
      have k31 := rk_q (frm_s f29) k21
      have H32 := refT_c f29 (fun a k q1 q2 => by omega) H22
      have H33 := rB_c f29 (fun a k q => by omega) H23
      have H34 := rM_c f29 (fun a k q => by omega) H24
      have H35 := rC_c f29 (fun a k q => by omega) H25
      have H36 := rK_c f29 (fun a k q1 q2 => by omega) H26
      have FR37 := frm_t FR27 (frm_m (S' := (fun a i => a = m ∨ (m + 9 ≤ a ∧ a < m + 30))) f29 (fun a k q => by omega))
      refine z_iconst (0) dX12_drawn_35 rfl ?_
      refine e_istore (L' := [_, _, _, _, _, _]) dX12_drawn_36 (Nat.le_of_ble_eq_true rfl) rfl ?_
      have lp38 : ∀ (n38 : Nat) (k : Int) (h38 : mH), (t - k).toNat = n38 → (rk h38 m) → (refT h38 m 0 σ) → (rK h38 m f) → (frm (fun a i => a = m ∨ (m + 9 ≤ a ∧ a < m + 30)) h h38) → (0 ≤ k) → (k ≤ t) → (rB h38 m (drG (sG σ f) x k)) → (rM h38 m (drG (sG σ f) x k)) → (rC h38 m (drG (sG σ f) x k)) → (rQ h38 m (drQ (sG σ f) x k) k) → (sdR h38 m (drX (sG σ f) x k)) → mEv TB0 ad M_X12_drawn (dd + 8) (0, 0) (mCal TB0 ad (dd + 7)) (fun v h' z => z.1 = 0 ∧ Q v h') 38 [some (.ref m), some (.int (zI f)), some (.int (zI x)), some (.int (zI t)), some (.int (zI w)), some (.int (zI k))] [] h38 (0, 0) := by
        intro n38
        induction n38 using Nat.strongRecOn with
        | ind n38 ih38 =>
        intro k h38 hn38 k39 H40 H41 FR42 I1 I2 I3 I4 I5 I6 I7
        refine e_iload dX12_drawn_38 rfl ?_
        refine e_iload_n dX12_drawn_40 rfl ?_
        refine z_icmp_ge 61 dX12_drawn_41 rfl ⟨by omega, by omega⟩ ⟨by omega, by omega⟩ (fun c43 => ?_) (fun c43 => ?_)
        · skip
          skip
          refine e_aload_n dX12_drawn_61 rfl ?_
          refine e_iload dX12_drawn_62 rfl ?_
          refine e_callV [.int _] dX12_drawn_64 tm_12_379 rfl (Nat.le_of_ble_eq_true rfl) (rk_s k39) (Nat.le_of_ble_eq_true rfl) (Nat.le_refl _) (Nat.le_refl _) rfl (zp_X12_ofState k39 I3 I4 I6 w ⟨by omega, by omega⟩ ?_)
          refine z_iret dX12_drawn_67 rfl ⟨rfl, ?_⟩
          refine z_q (kq _ FR42) ?_
          first | rw [show t = k by omega] | (have E := dr_e (g := (sG σ f)) (x := x) I1 I2 (by omega); rw [E.1, E.2])
        · skip
          skip
          skip
          skip
          skip
          skip
          have nk := rB_n I3
          refine e_aload_n dX12_drawn_44 rfl ?_
          refine z_get (nd (drG (sG σ f) x k)) dX12_drawn_45 tf_12_271 (rk_s k39) (Or.inl rfl) (rB_nd I3) ?_
          have y44 := rB_n I3
          refine z_if_le 61 dX12_drawn_48 rfl ⟨by omega, by omega⟩ (fun c45 => ?_) (fun c45 => ?_)
          · skip
            skip
            refine e_aload_n dX12_drawn_61 rfl ?_
            refine e_iload dX12_drawn_62 rfl ?_
            refine e_callV [.int _] dX12_drawn_64 tm_12_379 rfl (Nat.le_of_ble_eq_true rfl) (rk_s k39) (Nat.le_of_ble_eq_true rfl) (Nat.le_refl _) (Nat.le_refl _) rfl (zp_X12_ofState k39 I3 I4 I6 w ⟨by omega, by omega⟩ ?_)
            refine z_iret dX12_drawn_67 rfl ⟨rfl, ?_⟩
            refine z_q (kq _ FR42) ?_
            first | rw [show t = k by omega] | (have E := dr_e (g := (sG σ f)) (x := x) I1 I2 (by omega); rw [E.1, E.2])
          · skip
            refine e_aload_n dX12_drawn_51 rfl ?_
            refine e_callV [] dX12_drawn_52 tm_12_541 rfl (Nat.le_of_ble_eq_true rfl) (rk_s k39) (Nat.le_of_ble_eq_true rfl) (Nat.le_refl _) (Nat.le_refl _) rfl (zp_X12_drawDeed k39 I3 I4 I5 I6 I7 (dvZ (drX (sG σ f) x k) (nd (drG (sG σ f) x k))) (dvZ (dwZ (drX (sG σ f) x k)) 8) (by omega) (by omega) rfl rfl (fun  h46 f47 p48 p49 p50 p51 p52 => ?_))
            have k53 := rk_q (frm_s f47) k39
            have H54 := refT_c f47 (fun a k q1 q2 => by omega) H40
            have H55 := rK_c f47 (fun a k q1 q2 => by omega) H41
            have FR56 := frm_t FR42 (frm_m (S' := (fun a i => a = m ∨ (m + 9 ≤ a ∧ a < m + 30))) f47 (fun a k q => by omega))
            refine z_iinc (L' := [_, _, _, _, _, _]) dX12_drawn_55 rfl rfl ?_
            refine e_goto 38 dX12_drawn_58 rfl ?_
            have ds := dr_s (g := (sG σ f)) (x := x) I1 (by omega)
            exact ih38 _ (by omega) (k + 1) h46 rfl k53 H54 H55 FR56 (by omega) (by omega) (by rw [ds.1]; exact p48) (by rw [ds.1]; exact p49) (by rw [ds.1]; exact p50) (by rw [ds.2.1]; exact p51) (by rw [ds.2.2]; exact p52)
      exact lp38 _ 0 h28 rfl k31 H32 H36 FR37 (by omega) (by omega) H33 H34 H35 p30 (show rI h28 m 57 = x from ((frm_r f29 (by omega)).trans (rI_eq e19 ⟨by omega, by omega⟩)))
    · exact absurd trivial c17
set_option maxHeartbeats 400000 in
theorem zp_X12_drawn_on {ad : mA} {dd : Nat} {h : mH} {Q : mQ} {m : Nat} {σ : Sg} (hk : rk h m) (HR : refT h m 0 σ)  (f : Int) (f_r : -2147483648 ≤ f ∧ f < 2147483648) (x : Int) (x_r : -2147483648 ≤ x ∧ x < 2147483648) (t : Int) (t_r : -2147483648 ≤ t ∧ t < 2147483648) (w : Int) (w_r : -2147483648 ≤ w ∧ w < 2147483648) (pt : ¬ (0 ≤ t ∧ t ≤ 60)) (kq : ∀ h1, frm (fun a i => a = m ∨ (m + 9 ≤ a ∧ a < m + 30)) h h1 → Q (some (.int (zI (-2)))) h1) : mCal TB0 ad (dd + 8) M_X12_drawn [.ref m, .int (zI f), .int (zI x), .int (zI t), .int (zI w)] h 0 0 Q := by
  refine ⟨Nat.le_of_ble_eq_true rfl, ?_⟩
  show mEv TB0 ad M_X12_drawn (dd + 8) (0, 0) (mCal TB0 ad (dd + 7)) (fun v h' z => z.1 = 0 ∧ Q v h') 0 [some (.ref m), some (.int (zI f)), some (.int (zI x)), some (.int (zI t)), some (.int (zI w)), none] [] h (0, 0)
  have FR0 : frm (fun a i => a = m ∨ (m + 9 ≤ a ∧ a < m + 30)) h h := frm_0 h
  have w1 := wS_n (refT_w HR)
  refine e_aload_n dX12_drawn_0 rfl ?_
  refine z_iconst (0) dX12_drawn_1 rfl ?_
  refine z_put dX12_drawn_2 tf_12_103 (rk_s hk) rfl (Or.inl rfl) (fun h1 e2 => ?_)
  have f3 := frm_1 e2
  have k4 := rk_q (frm_s f3) hk
  have H5 := refT_c f3 (fun a k q1 q2 => by omega) HR
  have FR6 := frm_t FR0 (frm_m (S' := (fun a i => a = m ∨ (m + 9 ≤ a ∧ a < m + 30))) f3 (fun a k q => by omega))
  refine e_iload_n dX12_drawn_5 rfl ?_
  refine z_iconst (0) dX12_drawn_6 rfl ?_
  refine z_bipush (60) dX12_drawn_7 rfl ?_
  refine e_callS [.int _, .int _, .int _] dX12_drawn_9 tm_12_115 rfl (Nat.le_of_ble_eq_true rfl) (Nat.le_refl _) (Nat.le_refl _) rfl (zp_X12_in t ⟨by omega, by omega⟩ 0 ⟨by omega, by omega⟩ 60 ⟨by omega, by omega⟩ ?_)
  refine z_ifb_eq 23 dX12_drawn_12 rfl (fun c7 => ?_) (fun c7 => ?_)
  · skip
    refine z_bipush (-2) dX12_drawn_23 rfl ?_
    refine z_iret dX12_drawn_25 rfl ⟨rfl, ?_⟩
    exact kq _ FR6
  · exfalso; omega
set_option maxHeartbeats 400000 in
theorem zp_X12_drawn_of {ad : mA} {dd : Nat} {h : mH} {Q : mQ} {m : Nat} {σ : Sg} (hk : rk h m) (HR : refT h m 0 σ)  (f : Int) (f_r : -2147483648 ≤ f ∧ f < 2147483648) (x : Int) (x_r : -2147483648 ≤ x ∧ x < 2147483648) (t : Int) (t_r : -2147483648 ≤ t ∧ t < 2147483648) (w : Int) (w_r : -2147483648 ≤ w ∧ w < 2147483648) (p1 : ¬ (0 ≤ f ∧ f < cn σ 0)) (pt : 0 ≤ t ∧ t ≤ 60) (kq : ∀ h1, frm (fun a i => a = m ∨ (m + 9 ≤ a ∧ a < m + 30)) h h1 → Q (some (.int (zI (-2)))) h1) : mCal TB0 ad (dd + 8) M_X12_drawn [.ref m, .int (zI f), .int (zI x), .int (zI t), .int (zI w)] h 0 0 Q := by
  refine ⟨Nat.le_of_ble_eq_true rfl, ?_⟩
  show mEv TB0 ad M_X12_drawn (dd + 8) (0, 0) (mCal TB0 ad (dd + 7)) (fun v h' z => z.1 = 0 ∧ Q v h') 0 [some (.ref m), some (.int (zI f)), some (.int (zI x)), some (.int (zI t)), some (.int (zI w)), none] [] h (0, 0)
  have FR0 : frm (fun a i => a = m ∨ (m + 9 ≤ a ∧ a < m + 30)) h h := frm_0 h
  have w1 := wS_n (refT_w HR)
  refine e_aload_n dX12_drawn_0 rfl ?_
  refine z_iconst (0) dX12_drawn_1 rfl ?_
  refine z_put dX12_drawn_2 tf_12_103 (rk_s hk) rfl (Or.inl rfl) (fun h1 e2 => ?_)
  have f3 := frm_1 e2
  have k4 := rk_q (frm_s f3) hk
  have H5 := refT_c f3 (fun a k q1 q2 => by omega) HR
  have FR6 := frm_t FR0 (frm_m (S' := (fun a i => a = m ∨ (m + 9 ≤ a ∧ a < m + 30))) f3 (fun a k q => by omega))
  refine e_iload_n dX12_drawn_5 rfl ?_
  refine z_iconst (0) dX12_drawn_6 rfl ?_
  refine z_bipush (60) dX12_drawn_7 rfl ?_
  refine e_callS [.int _, .int _, .int _] dX12_drawn_9 tm_12_115 rfl (Nat.le_of_ble_eq_true rfl) (Nat.le_refl _) (Nat.le_refl _) rfl (zp_X12_in t ⟨by omega, by omega⟩ 0 ⟨by omega, by omega⟩ 60 ⟨by omega, by omega⟩ ?_)
  refine z_ifb_eq 23 dX12_drawn_12 rfl (fun c7 => ?_) (fun c7 => ?_)
  · exfalso; omega
  · skip
    refine e_aload_n dX12_drawn_15 rfl ?_
    refine e_iload_n dX12_drawn_16 rfl ?_
    refine e_callV [.int _] dX12_drawn_17 tm_12_292 rfl (Nat.le_of_ble_eq_true rfl) (rk_s k4) (Nat.le_of_ble_eq_true rfl) (Nat.le_refl _) (Nat.le_refl _) rfl (zp_X12_hand_out k4 H5 f ⟨by omega, by omega⟩ (by omega) ?_)
    refine z_ifb_ne 26 dX12_drawn_20 rfl (fun c8 => ?_) (fun c8 => ?_)
    · exact absurd c8 id
    · skip
      refine z_bipush (-2) dX12_drawn_23 rfl ?_
      refine z_iret dX12_drawn_25 rfl ⟨rfl, ?_⟩
      exact kq _ FR6
set_option maxHeartbeats 400000 in
theorem zp_X11_drawn_in {ad : mA} {dd : Nat} {h : mH} {Q : mQ} {x : Nat} {σ : Sg} (hk : bk h x) (HX : clsT h (x + 1) σ)  (f : Int) (f_r : -2147483648 ≤ f ∧ f < 2147483648) (x_ : Int) (x__r : -2147483648 ≤ x_ ∧ x_ < 2147483648) (t : Int) (t_r : -2147483648 ≤ t ∧ t < 2147483648) (w : Int) (w_r : -2147483648 ≤ w ∧ w < 2147483648) (p1 : 0 ≤ f) (p2 : f < cn σ 0) (pt : 0 ≤ t ∧ t ≤ 60) (kq : ∀ h1, frm (fun a i => x + 56 ≤ a ∧ a < x + 157) h h1 → Q (some (.int (zI (tlS (drG (sG σ f) x_ t) (drQ (sG σ f) x_ t) w)))) h1) : mCal TB0 ad (dd + 7) M_X11_drawn [.ref x, .int (zI f), .int (zI x_), .int (zI t), .int (zI w)] h 0 0 Q := by
  refine ⟨Nat.le_of_ble_eq_true rfl, ?_⟩
  show mEv TB0 ad M_X11_drawn (dd + 7) (0, 0) (mCal TB0 ad (dd + 6)) (fun v h' z => z.1 = 0 ∧ Q v h') 0 [some (.ref x), some (.int (zI f)), some (.int (zI x_)), some (.int (zI t)), some (.int (zI w)), none] [] h (0, 0)
  have FR0 : frm (fun a i => x + 56 ≤ a ∧ a < x + 157) h h := frm_0 h
  have w1 := wS_n (clsT_w HX)
  refine e_aload_n dX11_drawn_0 rfl ?_
  refine e_get (.ref (x + 1)) dX11_drawn_1 tf_11_10 (congrArg Prod.fst (bk_s0 hk)) (congrArg va_rf (bk_r0_0 hk)) ?_
  refine e_iload_n dX11_drawn_4 rfl ?_
  refine e_callV [.int _] dX11_drawn_5 tm_11_94 rfl (Nat.le_of_ble_eq_true rfl) (congrArg Prod.fst (bk_s1 hk)) (Nat.le_of_ble_eq_true rfl) (Nat.le_refl _) (Nat.le_refl _) rfl (zp_X8_forgeAt_in (bk_td1 hk) HX f ⟨by omega, by omega⟩ (by omega) (by omega) ?_)
  have k1 := fAt_k (bk_td1 hk) f
  have H2 := clsT_F HX (show 0 ≤ f by omega) (by omega)
  have y3 := fAt_b (x + 1) f
  refine e_astore (L' := [_, _, _, _, _, _]) dX11_drawn_8 (Nat.le_of_ble_eq_true rfl) rfl ?_
  refine e_aload dX11_drawn_10 rfl ?_
  refine e_ifnull 25 dX11_drawn_12 rfl ?_
  refine e_iload_n dX11_drawn_15 rfl ?_
  refine z_if_lt 25 dX11_drawn_16 rfl ⟨by omega, by omega⟩ (fun c4 => ?_) (fun c4 => ?_)
  · exfalso; omega
  · skip
    refine e_iload_n dX11_drawn_19 rfl ?_
    refine z_bipush (60) dX11_drawn_20 rfl ?_
    refine z_icmp_le 28 dX11_drawn_22 rfl ⟨by omega, by omega⟩ ⟨by omega, by omega⟩ (fun c5 => ?_) (fun c5 => ?_)
    · skip
      refine e_aload_n dX11_drawn_28 rfl ?_
      refine e_get (.ref (x + 83)) dX11_drawn_29 tf_11_30 (congrArg Prod.fst (bk_s0 hk)) (congrArg va_rf (bk_r0_3 hk)) ?_
      refine e_aload dX11_drawn_32 rfl ?_
      refine e_iload_n dX11_drawn_34 rfl ?_
      refine e_iload_n dX11_drawn_35 rfl ?_
      refine e_callV [.ref _, .int _, .int _] dX11_drawn_36 tm_11_252 rfl (Nat.le_of_ble_eq_true rfl) (congrArg Prod.fst (bk_s83 hk)) (Nat.le_of_ble_eq_true rfl) (Nat.le_refl _) (Nat.le_refl _) rfl (zp_X7_drawAll (bk_se83 hk) k1 H2 x_ ⟨by omega, by omega⟩ t ⟨by omega, by omega⟩ (by omega) (by omega) (fun  h6 f7 p8 p9 => ?_))
      have k10 := bk_q (frm_s f7) hk
      have k11 := lk_q (frm_s f7) k1
      have H12 := clsT_c f7 (fun a k q1 q2 => by omega) HX
      have H13 := isF_c f7 (fun a k q1 q2 => by omega) H2
      have FR14 := frm_t FR0 (frm_m (S' := (fun a i => x + 56 ≤ a ∧ a < x + 157)) f7 (fun a k q => by omega))
      refine e_aload_n dX11_drawn_39 rfl ?_
      refine e_get (.ref (x + 83)) dX11_drawn_40 tf_11_30 (congrArg Prod.fst (bk_s0 k10)) (congrArg va_rf (bk_r0_3 k10)) ?_
      refine e_iload dX11_drawn_43 rfl ?_
      refine e_callV [.int _] dX11_drawn_45 tm_11_126 rfl (Nat.le_of_ble_eq_true rfl) (congrArg Prod.fst (bk_s83 k10)) (Nat.le_of_ble_eq_true rfl) (Nat.le_refl _) (Nat.le_refl _) rfl (zp_X7_tell (bk_se83 k10) p8 p9 w ⟨by omega, by omega⟩ ?_)
      refine z_iret dX11_drawn_48 rfl ⟨rfl, ?_⟩
      refine z_q (kq _ FR14) ?_
      rfl
    · exfalso; omega
set_option maxHeartbeats 400000 in
theorem zp_X11_drawn_on {ad : mA} {dd : Nat} {h : mH} {Q : mQ} {x : Nat} {σ : Sg} (hk : bk h x) (HX : clsT h (x + 1) σ)  (f : Int) (f_r : -2147483648 ≤ f ∧ f < 2147483648) (x_ : Int) (x__r : -2147483648 ≤ x_ ∧ x_ < 2147483648) (t : Int) (t_r : -2147483648 ≤ t ∧ t < 2147483648) (w : Int) (w_r : -2147483648 ≤ w ∧ w < 2147483648) (p1 : 0 ≤ f) (p2 : f < cn σ 0) (pt : ¬ (0 ≤ t ∧ t ≤ 60)) (kq : Q (some (.int (zI (-2)))) h) : mCal TB0 ad (dd + 7) M_X11_drawn [.ref x, .int (zI f), .int (zI x_), .int (zI t), .int (zI w)] h 0 0 Q := by
  refine ⟨Nat.le_of_ble_eq_true rfl, ?_⟩
  show mEv TB0 ad M_X11_drawn (dd + 7) (0, 0) (mCal TB0 ad (dd + 6)) (fun v h' z => z.1 = 0 ∧ Q v h') 0 [some (.ref x), some (.int (zI f)), some (.int (zI x_)), some (.int (zI t)), some (.int (zI w)), none] [] h (0, 0)
  have w1 := wS_n (clsT_w HX)
  refine e_aload_n dX11_drawn_0 rfl ?_
  refine e_get (.ref (x + 1)) dX11_drawn_1 tf_11_10 (congrArg Prod.fst (bk_s0 hk)) (congrArg va_rf (bk_r0_0 hk)) ?_
  refine e_iload_n dX11_drawn_4 rfl ?_
  refine e_callV [.int _] dX11_drawn_5 tm_11_94 rfl (Nat.le_of_ble_eq_true rfl) (congrArg Prod.fst (bk_s1 hk)) (Nat.le_of_ble_eq_true rfl) (Nat.le_refl _) (Nat.le_refl _) rfl (zp_X8_forgeAt_in (bk_td1 hk) HX f ⟨by omega, by omega⟩ (by omega) (by omega) ?_)
  have k1 := fAt_k (bk_td1 hk) f
  have H2 := clsT_F HX (show 0 ≤ f by omega) (by omega)
  have y3 := fAt_b (x + 1) f
  refine e_astore (L' := [_, _, _, _, _, _]) dX11_drawn_8 (Nat.le_of_ble_eq_true rfl) rfl ?_
  refine e_aload dX11_drawn_10 rfl ?_
  refine e_ifnull 25 dX11_drawn_12 rfl ?_
  refine e_iload_n dX11_drawn_15 rfl ?_
  refine z_if_lt 25 dX11_drawn_16 rfl ⟨by omega, by omega⟩ (fun c4 => ?_) (fun c4 => ?_)
  · skip
    refine z_bipush (-2) dX11_drawn_25 rfl ?_
    refine z_iret dX11_drawn_27 rfl ⟨rfl, ?_⟩
    refine z_q kq ?_
    rfl
  · skip
    refine e_iload_n dX11_drawn_19 rfl ?_
    refine z_bipush (60) dX11_drawn_20 rfl ?_
    refine z_icmp_le 28 dX11_drawn_22 rfl ⟨by omega, by omega⟩ ⟨by omega, by omega⟩ (fun c5 => ?_) (fun c5 => ?_)
    · exfalso; omega
    · skip
      refine z_bipush (-2) dX11_drawn_25 rfl ?_
      refine z_iret dX11_drawn_27 rfl ⟨rfl, ?_⟩
      refine z_q kq ?_
      rfl
set_option maxHeartbeats 400000 in
theorem zp_X11_drawn_of {ad : mA} {dd : Nat} {h : mH} {Q : mQ} {x : Nat} {σ : Sg} (hk : bk h x) (HX : clsT h (x + 1) σ)  (f : Int) (f_r : -2147483648 ≤ f ∧ f < 2147483648) (x_ : Int) (x__r : -2147483648 ≤ x_ ∧ x_ < 2147483648) (t : Int) (t_r : -2147483648 ≤ t ∧ t < 2147483648) (w : Int) (w_r : -2147483648 ≤ w ∧ w < 2147483648) (p1 : ¬ (0 ≤ f ∧ f < cn σ 0)) (kq : Q (some (.int (zI (-2)))) h) : mCal TB0 ad (dd + 7) M_X11_drawn [.ref x, .int (zI f), .int (zI x_), .int (zI t), .int (zI w)] h 0 0 Q := by
  refine ⟨Nat.le_of_ble_eq_true rfl, ?_⟩
  show mEv TB0 ad M_X11_drawn (dd + 7) (0, 0) (mCal TB0 ad (dd + 6)) (fun v h' z => z.1 = 0 ∧ Q v h') 0 [some (.ref x), some (.int (zI f)), some (.int (zI x_)), some (.int (zI t)), some (.int (zI w)), none] [] h (0, 0)
  have w1 := wS_n (clsT_w HX)
  refine e_aload_n dX11_drawn_0 rfl ?_
  refine e_get (.ref (x + 1)) dX11_drawn_1 tf_11_10 (congrArg Prod.fst (bk_s0 hk)) (congrArg va_rf (bk_r0_0 hk)) ?_
  refine e_iload_n dX11_drawn_4 rfl ?_
  refine e_callV [.int _] dX11_drawn_5 tm_11_94 rfl (Nat.le_of_ble_eq_true rfl) (congrArg Prod.fst (bk_s1 hk)) (Nat.le_of_ble_eq_true rfl) (Nat.le_refl _) (Nat.le_refl _) rfl (zp_X8_forgeAt_out (bk_td1 hk) HX f ⟨by omega, by omega⟩ (by omega) ?_)
  refine e_astoreN (L' := [_, _, _, _, _, _]) dX11_drawn_8 (Nat.le_of_ble_eq_true rfl) rfl ?_
  refine e_aloadN dX11_drawn_10 rfl ?_
  refine e_ifnullN 25 dX11_drawn_12 rfl ?_
  refine z_bipush (-2) dX11_drawn_25 rfl ?_
  refine z_iret dX11_drawn_27 rfl ⟨rfl, ?_⟩
  refine z_q kq ?_
  rfl
def ansD (f t none_ : Int) (R : Sg → Int → Prop) (σ : Sg) (r : Int) : Prop := (((0 ≤ f ∧ f < cn σ 0) ∧ (0 ≤ t ∧ t ≤ 60)) ∧ R σ r) ∨ (¬ ((0 ≤ f ∧ f < cn σ 0) ∧ (0 ≤ t ∧ t ≤ 60)) ∧ r = none_)
theorem ansD_u {f t n : Int} {R : Sg → Int → Prop} (hR : ∀ σ r r', R σ r → R σ r' → r = r') (σ : Sg) (r r' : Int) (a : ansD f t n R σ r) (b : ansD f t n R σ r') : r = r' := by
  rcases a with ⟨a1, a3⟩ | ⟨a1, a2⟩ <;> rcases b with ⟨b1, b3⟩ | ⟨b1, b2⟩
  · exact hR _ _ _ a3 b3
  · exact absurd a1 b1
  · exact absurd b1 a1
  · rw [a2, b2]
theorem op19 {ad : mA} {B : Nat} : op_19 ad B (Inv B) := by
  intro a b c e
  rw [← zI_toInt a, ← zI_toInt b, ← zI_toInt c, ← zI_toInt e]
  have ra := in_of a
  have rb := in_of b
  have rc := in_of c
  have re := in_of e
  generalize a.toInt = a at *
  generalize b.toInt = b at *
  generalize c.toInt = c at *
  generalize e.toInt = e at *
  refine opq_I (ansD a c (-2) (fun σ r => r = tlS (drG (sG σ a) b c) (drQ (sG σ a) b c) e)) (ansD_u (fun σ r r' x y => x.trans y.symm)) (fun h σ hk HX Q kq => ?_) (fun h σ hr HR Q kq => ?_)
  · by_cases q1 : 0 ≤ a ∧ a < cn σ 0
    · by_cases q2 : 0 ≤ c ∧ c ≤ 60
      · exact zp_X11_drawn_in hk HX a ra b rb c rc e re q1.1 q1.2 q2 (fun h1 f => kq _ _ f (Or.inl ⟨⟨q1, q2⟩, rfl⟩))
      · exact zp_X11_drawn_on hk HX a ra b rb c rc e re q1.1 q1.2 q2 (kq _ _ (frm_0 h) (Or.inr ⟨fun z => q2 z.2, rfl⟩))
    · exact zp_X11_drawn_of hk HX a ra b rb c rc e re q1 (kq _ _ (frm_0 h) (Or.inr ⟨fun z => q1 z.1, rfl⟩))
  · by_cases q2 : 0 ≤ c ∧ c ≤ 60
    · by_cases q1 : 0 ≤ a ∧ a < cn σ 0
      · exact zp_X12_drawn_in hr HR a ra b rb c rc e re q1.1 q1.2 q2 (fun h1 f => kq _ _ f (Or.inl ⟨⟨q1, q2⟩, rfl⟩))
      · exact zp_X12_drawn_of hr HR a ra b rb c rc e re q1 q2 (fun h1 f => kq _ _ f (Or.inr ⟨fun z => q1 z.1, rfl⟩))
    · exact zp_X12_drawn_on hr HR a ra b rb c rc e re q2 (fun h1 f => kq _ _ f (Or.inr ⟨fun z => q2 z.2, rfl⟩))

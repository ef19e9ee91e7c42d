/-! HIRE: the class's run, the reference's, op 31 -/
theorem dX4_bidAll_0 : decode cX4_bidAll 0 = .ok (.aload_n 0, 1) := by decide +kernel
theorem dX4_bidAll_1 : decode cX4_bidAll 1 = .ok (.getfield 9, 3) := by decide +kernel
theorem dX4_bidAll_4 : decode cX4_bidAll 4 = .ok (.iconst (-1), 1) := by decide +kernel
theorem dX4_bidAll_5 : decode cX4_bidAll 5 = .ok (.invokestatic 28, 3) := by decide +kernel
theorem dX4_bidAll_8 : decode cX4_bidAll 8 = .ok (.aload_n 0, 1) := by decide +kernel
theorem dX4_bidAll_9 : decode cX4_bidAll 9 = .ok (.getfield 22, 3) := by decide +kernel
theorem dX4_bidAll_12 : decode cX4_bidAll 12 = .ok (.iconst (-1), 1) := by decide +kernel
theorem dX4_bidAll_13 : decode cX4_bidAll 13 = .ok (.invokestatic 28, 3) := by decide +kernel
theorem dX4_bidAll_16 : decode cX4_bidAll 16 = .ok (.aload_n 0, 1) := by decide +kernel
theorem dX4_bidAll_17 : decode cX4_bidAll 17 = .ok (.getfield 15, 3) := by decide +kernel
theorem dX4_bidAll_20 : decode cX4_bidAll 20 = .ok (.iconst 0, 1) := by decide +kernel
theorem dX4_bidAll_21 : decode cX4_bidAll 21 = .ok (.invokestatic 28, 3) := by decide +kernel
theorem dX4_bidAll_24 : decode cX4_bidAll 24 = .ok (.aload_n 0, 1) := by decide +kernel
theorem dX4_bidAll_25 : decode cX4_bidAll 25 = .ok (.iconst 0, 1) := by decide +kernel
theorem dX4_bidAll_26 : decode cX4_bidAll 26 = .ok (.putfield 25, 3) := by decide +kernel
theorem dX4_bidAll_29 : decode cX4_bidAll 29 = .ok (.iconst 0, 1) := by decide +kernel
theorem dX4_bidAll_30 : decode cX4_bidAll 30 = .ok (.istore_n 2, 1) := by decide +kernel
theorem dX4_bidAll_31 : decode cX4_bidAll 31 = .ok (.iload_n 2, 1) := by decide +kernel
theorem dX4_bidAll_32 : decode cX4_bidAll 32 = .ok (.sipush 1000, 3) := by decide +kernel
theorem dX4_bidAll_35 : decode cX4_bidAll 35 = .ok (.if_icmp .ge 29, 3) := by decide +kernel
theorem dX4_bidAll_38 : decode cX4_bidAll 38 = .ok (.aload_n 0, 1) := by decide +kernel
theorem dX4_bidAll_39 : decode cX4_bidAll 39 = .ok (.aload_n 1, 1) := by decide +kernel
theorem dX4_bidAll_40 : decode cX4_bidAll 40 = .ok (.invokevirtual 68, 3) := by decide +kernel
theorem dX4_bidAll_43 : decode cX4_bidAll 43 = .ok (.istore_n 3, 1) := by decide +kernel
theorem dX4_bidAll_44 : decode cX4_bidAll 44 = .ok (.iload_n 3, 1) := by decide +kernel
theorem dX4_bidAll_45 : decode cX4_bidAll 45 = .ok (.iconst (-1), 1) := by decide +kernel
theorem dX4_bidAll_46 : decode cX4_bidAll 46 = .ok (.if_icmp .ne 6, 3) := by decide +kernel
theorem dX4_bidAll_49 : decode cX4_bidAll 49 = .ok (.goto 15, 3) := by decide +kernel
theorem dX4_bidAll_52 : decode cX4_bidAll 52 = .ok (.aload_n 0, 1) := by decide +kernel
theorem dX4_bidAll_53 : decode cX4_bidAll 53 = .ok (.aload_n 1, 1) := by decide +kernel
theorem dX4_bidAll_54 : decode cX4_bidAll 54 = .ok (.iload_n 3, 1) := by decide +kernel
theorem dX4_bidAll_55 : decode cX4_bidAll 55 = .ok (.invokevirtual 72, 3) := by decide +kernel
theorem dX4_bidAll_58 : decode cX4_bidAll 58 = .ok (.iinc 2 1, 3) := by decide +kernel
theorem dX4_bidAll_61 : decode cX4_bidAll 61 = .ok (.goto (-30), 3) := by decide +kernel
theorem dX4_bidAll_64 : decode cX4_bidAll 64 = .ok (.return_, 1) := by decide +kernel
theorem dX11_hire_0 : decode cX11_hire 0 = .ok (.aload_n 0, 1) := by decide +kernel
theorem dX11_hire_1 : decode cX11_hire 1 = .ok (.getfield 10, 3) := by decide +kernel
theorem dX11_hire_4 : decode cX11_hire 4 = .ok (.iload_n 1, 1) := by decide +kernel
theorem dX11_hire_5 : decode cX11_hire 5 = .ok (.invokevirtual 94, 3) := by decide +kernel
theorem dX11_hire_8 : decode cX11_hire 8 = .ok (.astore 4, 2) := by decide +kernel
theorem dX11_hire_10 : decode cX11_hire 10 = .ok (.aload 4, 2) := by decide +kernel
theorem dX11_hire_12 : decode cX11_hire 12 = .ok (.ifnull 27, 3) := by decide +kernel
theorem dX11_hire_15 : decode cX11_hire 15 = .ok (.iload_n 3, 1) := by decide +kernel
theorem dX11_hire_16 : decode cX11_hire 16 = .ok (.ifCond .eq 11, 3) := by decide +kernel
theorem dX11_hire_19 : decode cX11_hire 19 = .ok (.aload 4, 2) := by decide +kernel
theorem dX11_hire_21 : decode cX11_hire 21 = .ok (.getfield 281, 3) := by decide +kernel
theorem dX11_hire_24 : decode cX11_hire 24 = .ok (.goto 8, 3) := by decide +kernel
theorem dX11_hire_27 : decode cX11_hire 27 = .ok (.aload 4, 2) := by decide +kernel
theorem dX11_hire_29 : decode cX11_hire 29 = .ok (.getfield 135, 3) := by decide +kernel
theorem dX11_hire_32 : decode cX11_hire 32 = .ok (.iload_n 2, 1) := by decide +kernel
theorem dX11_hire_33 : decode cX11_hire 33 = .ok (.invokevirtual 139, 3) := by decide +kernel
theorem dX11_hire_36 : decode cX11_hire 36 = .ok (.ifCond .ne 6, 3) := by decide +kernel
theorem dX11_hire_39 : decode cX11_hire 39 = .ok (.bipush (-2), 2) := by decide +kernel
theorem dX11_hire_41 : decode cX11_hire 41 = .ok (.ireturn, 1) := by decide +kernel
theorem dX11_hire_42 : decode cX11_hire 42 = .ok (.aload_n 0, 1) := by decide +kernel
theorem dX11_hire_43 : decode cX11_hire 43 = .ok (.getfield 44, 3) := by decide +kernel
theorem dX11_hire_46 : decode cX11_hire 46 = .ok (.aload 4, 2) := by decide +kernel
theorem dX11_hire_48 : decode cX11_hire 48 = .ok (.invokevirtual 309, 3) := by decide +kernel
theorem dX11_hire_51 : decode cX11_hire 51 = .ok (.iload_n 3, 1) := by decide +kernel
theorem dX11_hire_52 : decode cX11_hire 52 = .ok (.ifCond .eq 15, 3) := by decide +kernel
theorem dX11_hire_55 : decode cX11_hire 55 = .ok (.aload_n 0, 1) := by decide +kernel
theorem dX11_hire_56 : decode cX11_hire 56 = .ok (.getfield 44, 3) := by decide +kernel
theorem dX11_hire_59 : decode cX11_hire 59 = .ok (.getfield 312, 3) := by decide +kernel
theorem dX11_hire_62 : decode cX11_hire 62 = .ok (.iload_n 2, 1) := by decide +kernel
theorem dX11_hire_63 : decode cX11_hire 63 = .ok (.iaload, 1) := by decide +kernel
theorem dX11_hire_64 : decode cX11_hire 64 = .ok (.goto 12, 3) := by decide +kernel
theorem dX11_hire_67 : decode cX11_hire 67 = .ok (.aload_n 0, 1) := by decide +kernel
theorem dX11_hire_68 : decode cX11_hire 68 = .ok (.getfield 44, 3) := by decide +kernel
theorem dX11_hire_71 : decode cX11_hire 71 = .ok (.getfield 164, 3) := by decide +kernel
theorem dX11_hire_74 : decode cX11_hire 74 = .ok (.iload_n 2, 1) := by decide +kernel
theorem dX11_hire_75 : decode cX11_hire 75 = .ok (.iaload, 1) := by decide +kernel
theorem dX11_hire_76 : decode cX11_hire 76 = .ok (.ireturn, 1) := by decide +kernel
theorem dX12_hires_0 : decode cX12_hires 0 = .ok (.iconst 0, 1) := by decide +kernel
theorem dX12_hires_1 : decode cX12_hires 1 = .ok (.istore_n 3, 1) := by decide +kernel
theorem dX12_hires_2 : decode cX12_hires 2 = .ok (.iload_n 3, 1) := by decide +kernel
theorem dX12_hires_3 : decode cX12_hires 3 = .ok (.aload_n 0, 1) := by decide +kernel
theorem dX12_hires_4 : decode cX12_hires 4 = .ok (.getfield 271, 3) := by decide +kernel
theorem dX12_hires_7 : decode cX12_hires 7 = .ok (.if_icmp .ge 37, 3) := by decide +kernel
theorem dX12_hires_10 : decode cX12_hires 10 = .ok (.aload_n 0, 1) := by decide +kernel
theorem dX12_hires_11 : decode cX12_hires 11 = .ok (.getfield 56, 3) := by decide +kernel
theorem dX12_hires_14 : decode cX12_hires 14 = .ok (.iload_n 3, 1) := by decide +kernel
theorem dX12_hires_15 : decode cX12_hires 15 = .ok (.iaload, 1) := by decide +kernel
theorem dX12_hires_16 : decode cX12_hires 16 = .ok (.iload_n 2, 1) := by decide +kernel
theorem dX12_hires_17 : decode cX12_hires 17 = .ok (.if_icmp .ne 21, 3) := by decide +kernel
theorem dX12_hires_20 : decode cX12_hires 20 = .ok (.aload_n 0, 1) := by decide +kernel
theorem dX12_hires_21 : decode cX12_hires 21 = .ok (.getfield 56, 3) := by decide +kernel
theorem dX12_hires_24 : decode cX12_hires 24 = .ok (.iload_n 3, 1) := by decide +kernel
theorem dX12_hires_25 : decode cX12_hires 25 = .ok (.bipush 6, 2) := by decide +kernel
theorem dX12_hires_27 : decode cX12_hires 27 = .ok (.iastore, 1) := by decide +kernel
theorem dX12_hires_28 : decode cX12_hires 28 = .ok (.aload_n 0, 1) := by decide +kernel
theorem dX12_hires_29 : decode cX12_hires 29 = .ok (.getfield 94, 3) := by decide +kernel
theorem dX12_hires_32 : decode cX12_hires 32 = .ok (.iload_n 2, 1) := by decide +kernel
theorem dX12_hires_33 : decode cX12_hires 33 = .ok (.dup2, 1) := by decide +kernel
theorem dX12_hires_34 : decode cX12_hires 34 = .ok (.iaload, 1) := by decide +kernel
theorem dX12_hires_35 : decode cX12_hires 35 = .ok (.iconst 1, 1) := by decide +kernel
theorem dX12_hires_36 : decode cX12_hires 36 = .ok (.iadd, 1) := by decide +kernel
theorem dX12_hires_37 : decode cX12_hires 37 = .ok (.iastore, 1) := by decide +kernel
theorem dX12_hires_38 : decode cX12_hires 38 = .ok (.iinc 3 1, 3) := by decide +kernel
theorem dX12_hires_41 : decode cX12_hires 41 = .ok (.goto (-39), 3) := by decide +kernel
theorem dX12_hires_44 : decode cX12_hires 44 = .ok (.aload_n 0, 1) := by decide +kernel
theorem dX12_hires_45 : decode cX12_hires 45 = .ok (.getfield 56, 3) := by decide +kernel
theorem dX12_hires_48 : decode cX12_hires 48 = .ok (.iload_n 1, 1) := by decide +kernel
theorem dX12_hires_49 : decode cX12_hires 49 = .ok (.iload_n 2, 1) := by decide +kernel
theorem dX12_hires_50 : decode cX12_hires 50 = .ok (.iastore, 1) := by decide +kernel
theorem dX12_hires_51 : decode cX12_hires 51 = .ok (.return_, 1) := by decide +kernel
theorem dX12_hire_0 : decode cX12_hire 0 = .ok (.aload_n 0, 1) := by decide +kernel
theorem dX12_hire_1 : decode cX12_hire 1 = .ok (.iconst 0, 1) := by decide +kernel
theorem dX12_hire_2 : decode cX12_hire 2 = .ok (.putfield 103, 3) := by decide +kernel
theorem dX12_hire_5 : decode cX12_hire 5 = .ok (.aload_n 0, 1) := by decide +kernel
theorem dX12_hire_6 : decode cX12_hire 6 = .ok (.iload_n 1, 1) := by decide +kernel
theorem dX12_hire_7 : decode cX12_hire 7 = .ok (.invokevirtual 292, 3) := by decide +kernel
theorem dX12_hire_10 : decode cX12_hire 10 = .ok (.ifCond .eq 26, 3) := by decide +kernel
theorem dX12_hire_13 : decode cX12_hire 13 = .ok (.iload_n 3, 1) := by decide +kernel
theorem dX12_hire_14 : decode cX12_hire 14 = .ok (.ifCond .eq 14, 3) := by decide +kernel
theorem dX12_hire_17 : decode cX12_hire 17 = .ok (.aload_n 0, 1) := by decide +kernel
theorem dX12_hire_18 : decode cX12_hire 18 = .ok (.iload_n 2, 1) := by decide +kernel
theorem dX12_hire_19 : decode cX12_hire 19 = .ok (.invokevirtual 298, 3) := by decide +kernel
theorem dX12_hire_22 : decode cX12_hire 22 = .ok (.ifCond .ne 17, 3) := by decide +kernel
theorem dX12_hire_25 : decode cX12_hire 25 = .ok (.goto 11, 3) := by decide +kernel
theorem dX12_hire_28 : decode cX12_hire 28 = .ok (.aload_n 0, 1) := by decide +kernel
theorem dX12_hire_29 : decode cX12_hire 29 = .ok (.iload_n 2, 1) := by decide +kernel
theorem dX12_hire_30 : decode cX12_hire 30 = .ok (.invokevirtual 295, 3) := by decide +kernel
theorem dX12_hire_33 : decode cX12_hire 33 = .ok (.ifCond .ne 6, 3) := by decide +kernel
theorem dX12_hire_36 : decode cX12_hire 36 = .ok (.bipush (-2), 2) := by decide +kernel
theorem dX12_hire_38 : decode cX12_hire 38 = .ok (.ireturn, 1) := by decide +kernel
theorem dX12_hire_39 : decode cX12_hire 39 = .ok (.iconst 0, 1) := by decide +kernel
theorem dX12_hire_40 : decode cX12_hire 40 = .ok (.istore 4, 2) := by decide +kernel
theorem dX12_hire_42 : decode cX12_hire 42 = .ok (.iconst 0, 1) := by decide +kernel
theorem dX12_hire_43 : decode cX12_hire 43 = .ok (.istore 5, 2) := by decide +kernel
theorem dX12_hire_45 : decode cX12_hire 45 = .ok (.iload 5, 2) := by decide +kernel
theorem dX12_hire_47 : decode cX12_hire 47 = .ok (.bipush 6, 2) := by decide +kernel
theorem dX12_hire_49 : decode cX12_hire 49 = .ok (.if_icmp .ge 26, 3) := by decide +kernel
theorem dX12_hire_52 : decode cX12_hire 52 = .ok (.aload_n 0, 1) := by decide +kernel
theorem dX12_hire_53 : decode cX12_hire 53 = .ok (.getfield 94, 3) := by decide +kernel
theorem dX12_hire_56 : decode cX12_hire 56 = .ok (.iload 5, 2) := by decide +kernel
theorem dX12_hire_58 : decode cX12_hire 58 = .ok (.iconst 0, 1) := by decide +kernel
theorem dX12_hire_59 : decode cX12_hire 59 = .ok (.iastore, 1) := by decide +kernel
theorem dX12_hire_60 : decode cX12_hire 60 = .ok (.aload_n 0, 1) := by decide +kernel
theorem dX12_hire_61 : decode cX12_hire 61 = .ok (.getfield 56, 3) := by decide +kernel
theorem dX12_hire_64 : decode cX12_hire 64 = .ok (.iload 5, 2) := by decide +kernel
theorem dX12_hire_66 : decode cX12_hire 66 = .ok (.bipush 6, 2) := by decide +kernel
theorem dX12_hire_68 : decode cX12_hire 68 = .ok (.iastore, 1) := by decide +kernel
theorem dX12_hire_69 : decode cX12_hire 69 = .ok (.iinc 5 1, 3) := by decide +kernel
theorem dX12_hire_72 : decode cX12_hire 72 = .ok (.goto (-27), 3) := by decide +kernel
theorem dX12_hire_75 : decode cX12_hire 75 = .ok (.iconst 0, 1) := by decide +kernel
theorem dX12_hire_76 : decode cX12_hire 76 = .ok (.istore 5, 2) := by decide +kernel
theorem dX12_hire_78 : decode cX12_hire 78 = .ok (.iload 5, 2) := by decide +kernel
theorem dX12_hire_80 : decode cX12_hire 80 = .ok (.aload_n 0, 1) := by decide +kernel
theorem dX12_hire_81 : decode cX12_hire 81 = .ok (.getfield 271, 3) := by decide +kernel
theorem dX12_hire_84 : decode cX12_hire 84 = .ok (.if_icmp .ge 68, 3) := by decide +kernel
theorem dX12_hire_87 : decode cX12_hire 87 = .ok (.aload_n 0, 1) := by decide +kernel
theorem dX12_hire_88 : decode cX12_hire 88 = .ok (.getfield 56, 3) := by decide +kernel
theorem dX12_hire_91 : decode cX12_hire 91 = .ok (.iload 5, 2) := by decide +kernel
theorem dX12_hire_93 : decode cX12_hire 93 = .ok (.iaload, 1) := by decide +kernel
theorem dX12_hire_94 : decode cX12_hire 94 = .ok (.bipush 6, 2) := by decide +kernel
theorem dX12_hire_96 : decode cX12_hire 96 = .ok (.if_icmp .ne 50, 3) := by decide +kernel
theorem dX12_hire_99 : decode cX12_hire 99 = .ok (.iload 4, 2) := by decide +kernel
theorem dX12_hire_101 : decode cX12_hire 101 = .ok (.iload 5, 2) := by decide +kernel
theorem dX12_hire_103 : decode cX12_hire 103 = .ok (.invokestatic 107, 3) := by decide +kernel
theorem dX12_hire_106 : decode cX12_hire 106 = .ok (.ifCond .ne 40, 3) := by decide +kernel
theorem dX12_hire_109 : decode cX12_hire 109 = .ok (.aload_n 0, 1) := by decide +kernel
theorem dX12_hire_110 : decode cX12_hire 110 = .ok (.iload 5, 2) := by decide +kernel
theorem dX12_hire_112 : decode cX12_hire 112 = .ok (.invokevirtual 555, 3) := by decide +kernel
theorem dX12_hire_115 : decode cX12_hire 115 = .ok (.istore 6, 2) := by decide +kernel
theorem dX12_hire_117 : decode cX12_hire 117 = .ok (.iload 6, 2) := by decide +kernel
theorem dX12_hire_119 : decode cX12_hire 119 = .ok (.iconst (-1), 1) := by decide +kernel
theorem dX12_hire_120 : decode cX12_hire 120 = .ok (.if_icmp .ne 15, 3) := by decide +kernel
theorem dX12_hire_123 : decode cX12_hire 123 = .ok (.iload 4, 2) := by decide +kernel
theorem dX12_hire_125 : decode cX12_hire 125 = .ok (.iconst 1, 1) := by decide +kernel
theorem dX12_hire_126 : decode cX12_hire 126 = .ok (.iload 5, 2) := by decide +kernel
theorem dX12_hire_128 : decode cX12_hire 128 = .ok (.ishl, 1) := by decide +kernel
theorem dX12_hire_129 : decode cX12_hire 129 = .ok (.ior, 1) := by decide +kernel
theorem dX12_hire_130 : decode cX12_hire 130 = .ok (.istore 4, 2) := by decide +kernel
theorem dX12_hire_132 : decode cX12_hire 132 = .ok (.goto 11, 3) := by decide +kernel
theorem dX12_hire_135 : decode cX12_hire 135 = .ok (.aload_n 0, 1) := by decide +kernel
theorem dX12_hire_136 : decode cX12_hire 136 = .ok (.iload 5, 2) := by decide +kernel
theorem dX12_hire_138 : decode cX12_hire 138 = .ok (.iload 6, 2) := by decide +kernel
theorem dX12_hire_140 : decode cX12_hire 140 = .ok (.invokevirtual 558, 3) := by decide +kernel
theorem dX12_hire_143 : decode cX12_hire 143 = .ok (.iconst (-1), 1) := by decide +kernel
theorem dX12_hire_144 : decode cX12_hire 144 = .ok (.istore 5, 2) := by decide +kernel
theorem dX12_hire_146 : decode cX12_hire 146 = .ok (.iinc 5 1, 3) := by decide +kernel
theorem dX12_hire_149 : decode cX12_hire 149 = .ok (.goto (-71), 3) := by decide +kernel
theorem dX12_hire_152 : decode cX12_hire 152 = .ok (.iload_n 3, 1) := by decide +kernel
theorem dX12_hire_153 : decode cX12_hire 153 = .ok (.ifCond .eq 12, 3) := by decide +kernel
theorem dX12_hire_156 : decode cX12_hire 156 = .ok (.aload_n 0, 1) := by decide +kernel
theorem dX12_hire_157 : decode cX12_hire 157 = .ok (.getfield 94, 3) := by decide +kernel
theorem dX12_hire_160 : decode cX12_hire 160 = .ok (.iload_n 2, 1) := by decide +kernel
theorem dX12_hire_161 : decode cX12_hire 161 = .ok (.iaload, 1) := by decide +kernel
theorem dX12_hire_162 : decode cX12_hire 162 = .ok (.goto 24, 3) := by decide +kernel
theorem dX12_hire_165 : decode cX12_hire 165 = .ok (.aload_n 0, 1) := by decide +kernel
theorem dX12_hire_166 : decode cX12_hire 166 = .ok (.getfield 56, 3) := by decide +kernel
theorem dX12_hire_169 : decode cX12_hire 169 = .ok (.iload_n 2, 1) := by decide +kernel
theorem dX12_hire_170 : decode cX12_hire 170 = .ok (.iaload, 1) := by decide +kernel
theorem dX12_hire_171 : decode cX12_hire 171 = .ok (.bipush 6, 2) := by decide +kernel
theorem dX12_hire_173 : decode cX12_hire 173 = .ok (.if_icmp .ne 7, 3) := by decide +kernel
theorem dX12_hire_176 : decode cX12_hire 176 = .ok (.iconst (-1), 1) := by decide +kernel
theorem dX12_hire_177 : decode cX12_hire 177 = .ok (.goto 9, 3) := by decide +kernel
theorem dX12_hire_180 : decode cX12_hire 180 = .ok (.aload_n 0, 1) := by decide +kernel
theorem dX12_hire_181 : decode cX12_hire 181 = .ok (.getfield 56, 3) := by decide +kernel
theorem dX12_hire_184 : decode cX12_hire 184 = .ok (.iload_n 2, 1) := by decide +kernel
theorem dX12_hire_185 : decode cX12_hire 185 = .ok (.iaload, 1) := by decide +kernel
theorem dX12_hire_186 : decode cX12_hire 186 = .ok (.ireturn, 1) := by decide +kernel
theorem tf_11_164 : tFld TB0 11 164 = some (4, 0) := rfl
theorem tf_11_312 : tFld TB0 11 312 = some (4, 1) := rfl
set_option maxRecDepth 20000 in
theorem tm_4_28 : tMet TB0 4 28 = some (1, M_J7_fill_53178) := rfl
set_option maxRecDepth 20000 in
theorem tm_4_68 : tMet TB0 4 68 = some (0, M_X4_nextBidder) := rfl
set_option maxRecDepth 20000 in
theorem tm_4_72 : tMet TB0 4 72 = some (0, M_X4_bid) := rfl
set_option maxRecDepth 20000 in
theorem tm_11_309 : tMet TB0 11 309 = some (0, M_X4_bidAll) := rfl
set_option maxRecDepth 20000 in
theorem tm_12_555 : tMet TB0 12 555 = some (0, M_X12_wants) := rfl
set_option maxRecDepth 20000 in
theorem tm_12_558 : tMet TB0 12 558 = some (0, M_X12_hires) := rfl
set_option maxHeartbeats 3000000 in
theorem zp_X4_bidAll {ad : mA} {dd : Nat} {h : mH} {Q : mQ} {y f : Nat} {g : Int → Int} (hk : mkk h y) (hk1 : fgk h f) (HF : isF h f g)   (pf : y + 4 ≤ f ∨ f + 16 ≤ y) (kq : ∀ h1, frm (fun a k => (a = y ∧ k = 4) ∨ (y + 1 ≤ a ∧ a ≤ y + 3)) h h1 → (hiE h1 y g) → Q none h1) : mCal TB0 ad (dd + 5) M_X4_bidAll [.ref y, .ref f] h 0 0 Q := by
  refine ⟨Nat.le_of_ble_eq_true rfl, ?_⟩
  show mEv TB0 ad M_X4_bidAll (dd + 5) (0, 0) (mCal TB0 ad (dd + 4)) (fun v h' z => z.1 = 0 ∧ Q v h') 0 [some (.ref y), some (.ref f), none, none] [] h (0, 0)
  have FR0 : frm (fun a k => (a = y ∧ k = 4) ∨ (y + 1 ≤ a ∧ a ≤ y + 3)) h h := frm_0 h
  have w1 := isF_n HF
  have w2 := isF_nd HF
  have w3 := isF_nu HF
  have w4 := isF_nc HF
  have W := isF_w HF
  refine e_aload_n dX4_bidAll_0 rfl ?_
  refine e_get (.ref (y + 1)) dX4_bidAll_1 tf_4_9 (congrArg Prod.fst (mk_s0 hk)) (congrArg va_rf (mk_r0_0 hk)) ?_
  refine z_iconst (-1) dX4_bidAll_4 rfl ?_
  refine e_callS [.ref _, .int _] dX4_bidAll_5 tm_4_28 rfl (Nat.le_of_ble_eq_true rfl) (Nat.le_refl _) (Nat.le_refl _) rfl (zp_fill (mk_s1 hk) (by decide) ⟨by omega, by omega⟩ (fun h1 f2 e3 => ?_))
  have k4 := lk_q (frm_s f2) hk
  have k5 := lk_q (frm_s f2) hk1
  have H6 := isF_c f2 (fun a k q1 q2 => by omega) HF
  have FR7 := frm_t FR0 (frm_m (S' := (fun a k => (a = y ∧ k = 4) ∨ (y + 1 ≤ a ∧ a ≤ y + 3))) f2 (fun a k q => by omega))
  refine e_aload_n dX4_bidAll_8 rfl ?_
  refine e_get (.ref (y + 3)) dX4_bidAll_9 tf_4_22 (congrArg Prod.fst (mk_s0 k4)) (congrArg va_rf (mk_r0_3 k4)) ?_
  refine z_iconst (-1) dX4_bidAll_12 rfl ?_
  refine e_callS [.ref _, .int _] dX4_bidAll_13 tm_4_28 rfl (Nat.le_of_ble_eq_true rfl) (Nat.le_refl _) (Nat.le_refl _) rfl (zp_fill (mk_s3 k4) (by decide) ⟨by omega, by omega⟩ (fun h8 f9 e10 => ?_))
  have k11 := lk_q (frm_s f9) k4
  have k12 := lk_q (frm_s f9) k5
  have H13 := isF_c f9 (fun a k q1 q2 => by omega) H6
  have FR14 := frm_t FR7 (frm_m (S' := (fun a k => (a = y ∧ k = 4) ∨ (y + 1 ≤ a ∧ a ≤ y + 3))) f9 (fun a k q => by omega))
  refine e_aload_n dX4_bidAll_16 rfl ?_
  refine e_get (.ref (y + 2)) dX4_bidAll_17 tf_4_15 (congrArg Prod.fst (mk_s0 k11)) (congrArg va_rf (mk_r0_1 k11)) ?_
  refine z_iconst (0) dX4_bidAll_20 rfl ?_
  refine e_callS [.ref _, .int _] dX4_bidAll_21 tm_4_28 rfl (Nat.le_of_ble_eq_true rfl) (Nat.le_refl _) (Nat.le_refl _) rfl (zp_fill (mk_s2 k11) (by decide) ⟨by omega, by omega⟩ (fun h15 f16 e17 => ?_))
  have k18 := lk_q (frm_s f16) k11
  have k19 := lk_q (frm_s f16) k12
  have H20 := isF_c f16 (fun a k q1 q2 => by omega) H13
  have FR21 := frm_t FR14 (frm_m (S' := (fun a k => (a = y ∧ k = 4) ∨ (y + 1 ≤ a ∧ a ≤ y + 3))) f16 (fun a k q => by omega))
  refine e_aload_n dX4_bidAll_24 rfl ?_
  refine z_iconst (0) dX4_bidAll_25 rfl ?_
  refine z_put dX4_bidAll_26 tf_4_25 (congrArg Prod.fst (mk_s0 k18)) rfl (Or.inl rfl) (fun h22 e23 => ?_)
  have f24 := frm_1 e23
  have k25 := lk_q (frm_s f24) k18
  have k26 := lk_q (frm_s f24) k19
  have H27 := isF_c f24 (fun a k q1 q2 => by omega) H20
  have FR28 := frm_t FR21 (frm_m (S' := (fun a k => (a = y ∧ k = 4) ∨ (y + 1 ≤ a ∧ a ≤ y + 3))) f24 (fun a k q => by omega))
  refine z_iconst (0) dX4_bidAll_29 rfl ?_
  refine e_istore_n (L' := [_, _, _, _]) dX4_bidAll_30 (Nat.le_of_ble_eq_true rfl) rfl ?_
  have lp29 : ∀ (n29 : Nat) (i : Int) (h29 : mH), (1000 - i).toNat = n29 → (mkk h29 y) → (fgk h29 f) → (isF h29 f g) → (frm (fun a k => (a = y ∧ k = 4) ∨ (y + 1 ≤ a ∧ a ≤ y + 3)) h h29) → (0 ≤ i) → (hiC h29 y g (hR g i) (hT g i) (hW g i) (hL g i)) → (hMu (hT g i) (hW g i) (hL g i) = i) → mEv TB0 ad M_X4_bidAll (dd + 5) (0, 0) (mCal TB0 ad (dd + 4)) (fun v h' z => z.1 = 0 ∧ Q v h') 31 [some (.ref y), some (.ref f), some (.int (zI i)), none] [] h29 (0, 0) := by
    intro n29
    induction n29 using Nat.strongRecOn with
    | ind n29 ih29 =>
    intro i h29 hn29 k30 k31 H32 FR33 I1 HS I2
    refine e_iload_n dX4_bidAll_31 rfl ?_
    skip
    have mb := hMu_b HS.1
    refine z_sipush (1000) dX4_bidAll_32 rfl ?_
    refine z_icmp_ge 64 dX4_bidAll_35 rfl ⟨by omega, by omega⟩ ⟨by omega, by omega⟩ (fun c34 => ?_) (fun c34 => ?_)
    · exfalso; have := hMu_b HS.1; omega
    · skip
      refine e_aload_n dX4_bidAll_38 rfl ?_
      refine e_aload_n dX4_bidAll_39 rfl ?_
      refine e_callV [.ref _] dX4_bidAll_40 tm_4_68 rfl (Nat.le_of_ble_eq_true rfl) (congrArg Prod.fst (mk_s0 k30)) (Nat.le_of_ble_eq_true rfl) (Nat.le_refl _) (Nat.le_refl _) rfl (zp_X4_nextBidder k30 k31 H32 HS (fun v35 p36 => ?_))
      have eb : v35 = hD g i := nbZ_u (by omega) (by assumption)
      have hb := fst1_b (nbZ_f (r := hR g i) (l := hL g i) (show 0 ≤ nd g by omega))
      have hb : hD g i = -1 ∨ (0 ≤ hD g i ∧ hD g i < nd g) := hb
      refine e_istore_n (L' := [_, _, _, _]) dX4_bidAll_43 (Nat.le_of_ble_eq_true rfl) rfl ?_
      refine e_iload_n dX4_bidAll_44 rfl ?_
      refine z_iconst (-1) dX4_bidAll_45 rfl ?_
      refine z_icmp_ne 52 dX4_bidAll_46 rfl ⟨by omega, by omega⟩ ⟨by omega, by omega⟩ (fun c37 => ?_) (fun c37 => ?_)
      · skip
        have e1 := hS_s I1 (show hD g i ≠ -1 by omega)
        have ebp : (0 ≤ hD g i ∧ hD g i < nd g) ∧ hR g i (hD g i) = 6 ∧ ¬ hasZ (hL g i) (hD g i) := by
                rcases nbZ_f (r := hR g i) (l := hL g i) (show 0 ≤ nd g by omega) with q | q
                · exact absurd (eb.trans q.1) (by omega)
                · exact ⟨q.1, q.2.1⟩
        rw [← eb] at e1 ebp
        refine e_aload_n dX4_bidAll_52 rfl ?_
        refine e_aload_n dX4_bidAll_53 rfl ?_
        refine e_iload_n dX4_bidAll_54 rfl ?_
        refine e_callV [.ref _, .int _] dX4_bidAll_55 tm_4_72 rfl (Nat.le_of_ble_eq_true rfl) (congrArg Prod.fst (mk_s0 k30)) (Nat.le_of_ble_eq_true rfl) (Nat.le_refl _) (Nat.le_refl _) rfl (zp_X4_bid k30 k31 H32 HS v35 ⟨by omega, by omega⟩ ebp.1 ebp.2.1 (by omega) (fun  h38 f39 p40 => ?_))
        have k41 := lk_q (frm_s f39) k30
        have k42 := lk_q (frm_s f39) k31
        have H43 := isF_c f39 (fun a k q1 q2 => by omega) H32
        have FR44 := frm_t FR33 (frm_m (S' := (fun a k => (a = y ∧ k = 4) ∨ (y + 1 ≤ a ∧ a ≤ y + 3))) f39 (fun a k q => by omega))
        refine z_iinc (L' := [_, _, _, _]) dX4_bidAll_58 rfl rfl ?_
        refine e_goto 31 dX4_bidAll_61 rfl ?_
        exact mEv_wk (by exact ⟨Or.inr rfl, Or.inr rfl, Or.inr rfl, Or.inl rfl, trivial⟩) (ih29 _ (by omega) (i + 1) h38 rfl k41 k42 H43 FR44 (by omega) (by rw [e1.1, e1.2.1, e1.2.2.1, e1.2.2.2]; exact p40) (by rw [e1.2.1, e1.2.2.1, e1.2.2.2, hMu_bd HS.1 (by omega) ebp.1 ebp.2.2, I2]))
      · skip
        refine e_goto 64 dX4_bidAll_49 rfl ?_
        refine e_vret dX4_bidAll_64 rfl ⟨rfl, ?_⟩
        exact kq _ FR33 ⟨i, by omega, HS⟩
  exact lp29 _ 0 h22 rfl k25 k26 H27 FR28 (by omega) (⟨wfH_0 g, fun d a c => (((frm_r f24 (by omega)).trans ((frm_r f16 (by omega)).trans (frm_r f9 (by omega))))).trans (e3 d a (by omega)), fun d a c => ((frm_r f24 (by omega))).trans (e17 d a (by omega)), fun d a c => (((frm_r f24 (by omega)).trans (frm_r f16 (by omega)))).trans (e10 d a (by omega)), (show rI h22 y 4 = 0 from (rI_eq e23 ⟨by omega, by omega⟩))⟩) (hMu_0 g)
set_option maxHeartbeats 2000000 in
theorem zp_X11_hire_in {ad : mA} {dd : Nat} {h : mH} {Q : mQ} {x : Nat} {σ : Sg} (hk : bk h x) (HX : clsT h (x + 1) σ)  (f : Int) (f_r : -2147483648 ≤ f ∧ f < 2147483648) (k : Int) (k_r : -2147483648 ≤ k ∧ k < 2147483648) (p : Prop) [Decidable p] (p1 : 0 ≤ f) (p2 : f < cn σ 0) (kq : ∀ v : Int, (hiP (sG σ f) p k v) → ∀ h1, frm (fun a i => x + 56 ≤ a ∧ a < x + 157) h h1 → Q (some (.int (zI v))) h1) : mCal TB0 ad (dd + 6) M_X11_hire [.ref x, .int (zI f), .int (zI k), .int (zI (bZ p))] h 0 0 Q := by
  refine ⟨Nat.le_of_ble_eq_true rfl, ?_⟩
  show mEv TB0 ad M_X11_hire (dd + 6) (0, 0) (mCal TB0 ad (dd + 5)) (fun v h' z => z.1 = 0 ∧ Q v h') 0 [some (.ref x), some (.int (zI f)), some (.int (zI k)), some (.int (zI (bZ p))), none] [] h (0, 0)
  have FR0 : frm (fun a i => x + 56 ≤ a ∧ a < x + 157) h h := frm_0 h
  have w1 := wS_n (clsT_w HX)
  refine e_aload_n dX11_hire_0 rfl ?_
  refine e_get (.ref (x + 1)) dX11_hire_1 tf_11_10 (congrArg Prod.fst (bk_s0 hk)) (congrArg va_rf (bk_r0_0 hk)) ?_
  refine e_iload_n dX11_hire_4 rfl ?_
  refine e_callV [.int _] dX11_hire_5 tm_11_94 rfl (Nat.le_of_ble_eq_true rfl) (congrArg Prod.fst (bk_s1 hk)) (Nat.le_of_ble_eq_true rfl) (Nat.le_refl _) (Nat.le_refl _) rfl (zp_X8_forgeAt_in (bk_td1 hk) HX f ⟨by omega, by omega⟩ (by omega) (by omega) ?_)
  have k1 := fAt_k (bk_td1 hk) f
  have H2 := clsT_F HX (show 0 ≤ f by omega) (by omega)
  have y3 := fAt_b (x + 1) f
  refine e_astore (L' := [_, _, _, _, _]) dX11_hire_8 (Nat.le_of_ble_eq_true rfl) rfl ?_
  refine e_aload dX11_hire_10 rfl ?_
  refine e_ifnull 39 dX11_hire_12 rfl ?_
  have v1 := isF_n H2
  have v2 := isF_nd H2
  have v3 := isF_nu H2
  refine e_iload_n dX11_hire_15 rfl ?_
  refine z_ifb_eq 27 dX11_hire_16 rfl (fun c4 => ?_) (fun c4 => ?_)
  · skip
    refine e_aload dX11_hire_27 rfl ?_
    refine e_get (.ref ((fAt (x + 1) f) + 1)) dX11_hire_29 tf_11_135 (congrArg Prod.fst (fg_s0 k1)) (congrArg va_rf (fg_r0_0 k1)) ?_
    refine e_iload_n dX11_hire_32 rfl ?_
    refine e_callV [.int _] dX11_hire_33 tm_11_139 rfl (Nat.le_of_ble_eq_true rfl) (congrArg Prod.fst (fg_s1 k1)) (Nat.le_of_ble_eq_true rfl) (Nat.le_refl _) (Nat.le_refl _) rfl (zp_X0_has (fg_bl1 k1) k ⟨by omega, by omega⟩ ?_)
    refine z_ifb_ne 42 dX11_hire_36 rfl (fun c5 => ?_) (fun c5 => ?_)
    · skip
      refine e_aload_n dX11_hire_42 rfl ?_
      refine e_get (.ref (x + 142)) dX11_hire_43 tf_11_44 (congrArg Prod.fst (bk_s0 hk)) (congrArg va_rf (bk_r0_5 hk)) ?_
      refine e_aload dX11_hire_46 rfl ?_
      refine e_callV [.ref _] dX11_hire_48 tm_11_309 rfl (Nat.le_of_ble_eq_true rfl) (congrArg Prod.fst (bk_s142 hk)) (Nat.le_of_ble_eq_true rfl) (Nat.le_refl _) (Nat.le_refl _) rfl (zp_X4_bidAll (bk_mk142 hk) k1 H2 (by omega) (fun  h6 f7 p8 => ?_))
      have k9 := bk_q (frm_s f7) hk
      have k10 := lk_q (frm_s f7) k1
      have H11 := clsT_c f7 (fun a k q1 q2 => by omega) HX
      have H12 := isF_c f7 (fun a k q1 q2 => by omega) H2
      have FR13 := frm_t FR0 (frm_m (S' := (fun a i => x + 56 ≤ a ∧ a < x + 157)) f7 (fun a k q => by omega))
      obtain ⟨kk, hkk, HS⟩ := p8
      refine e_iload_n dX11_hire_51 rfl ?_
      refine z_ifb_eq 67 dX11_hire_52 rfl (fun c14 => ?_) (fun c14 => ?_)
      · skip
        refine e_aload_n dX11_hire_67 rfl ?_
        refine e_get (.ref (x + 142)) dX11_hire_68 tf_11_44 (congrArg Prod.fst (bk_s0 k9)) (congrArg va_rf (bk_r0_5 k9)) ?_
        refine e_get (.ref (x + 143)) dX11_hire_71 tf_11_164 (congrArg Prod.fst (bk_s142 k9)) (congrArg va_rf (bk_r142_0 k9)) ?_
        refine e_iload_n dX11_hire_74 rfl ?_
        refine z_ild (gotZ (hR (sG σ f) kk k)) dX11_hire_75 (bk_s143 k9) (by decide) (by omega) (by omega) (HS.2.1 k (by omega) (by omega)) ?_
        refine z_iret dX11_hire_76 rfl ⟨rfl, ?_⟩
        refine kq _ ?_ _ FR13
        first | exact absurd (show p by assumption) (show ¬ p by assumption) | exact hiP_w (by assumption) (by omega) hkk rfl | exact hiP_g (by assumption) (by omega) hkk rfl | exact hiP_ow (by assumption) (by omega) rfl | exact hiP_og (by assumption) (by omega) rfl
      · skip
        refine e_aload_n dX11_hire_55 rfl ?_
        refine e_get (.ref (x + 142)) dX11_hire_56 tf_11_44 (congrArg Prod.fst (bk_s0 k9)) (congrArg va_rf (bk_r0_5 k9)) ?_
        refine e_get (.ref (x + 144)) dX11_hire_59 tf_11_312 (congrArg Prod.fst (bk_s142 k9)) (congrArg va_rf (bk_r142_1 k9)) ?_
        refine e_iload_n dX11_hire_62 rfl ?_
        refine z_ild (hW (sG σ f) kk k) dX11_hire_63 (bk_s144 k9) (by decide) (by omega) (by omega) (HS.2.2.1 k (by omega) (by omega)) ?_
        refine e_goto 76 dX11_hire_64 rfl ?_
        refine z_iret dX11_hire_76 rfl ⟨rfl, ?_⟩
        refine kq _ ?_ _ FR13
        first | exact absurd (show p by assumption) (show ¬ p by assumption) | exact hiP_w (by assumption) (by omega) hkk rfl | exact hiP_g (by assumption) (by omega) hkk rfl | exact hiP_ow (by assumption) (by omega) rfl | exact hiP_og (by assumption) (by omega) rfl
    · skip
      refine z_bipush (-2) dX11_hire_39 rfl ?_
      refine z_iret dX11_hire_41 rfl ⟨rfl, ?_⟩
      refine kq _ ?_ _ FR0
      first | exact absurd (show p by assumption) (show ¬ p by assumption) | exact hiP_w (by assumption) (by omega) hkk rfl | exact hiP_g (by assumption) (by omega) hkk rfl | exact hiP_ow (by assumption) (by omega) rfl | exact hiP_og (by assumption) (by omega) rfl
  · skip
    refine e_aload dX11_hire_19 rfl ?_
    refine e_get (.ref ((fAt (x + 1) f) + 7)) dX11_hire_21 tf_11_281 (congrArg Prod.fst (fg_s0 k1)) (congrArg va_rf (fg_r0_1 k1)) ?_
    refine e_goto 32 dX11_hire_24 rfl ?_
    refine e_iload_n dX11_hire_32 rfl ?_
    refine e_callV [.int _] dX11_hire_33 tm_11_139 rfl (Nat.le_of_ble_eq_true rfl) (congrArg Prod.fst (fg_s7 k1)) (Nat.le_of_ble_eq_true rfl) (Nat.le_refl _) (Nat.le_refl _) rfl (zp_X0_has (fg_bl7 k1) k ⟨by omega, by omega⟩ ?_)
    refine z_ifb_ne 42 dX11_hire_36 rfl (fun c15 => ?_) (fun c15 => ?_)
    · skip
      refine e_aload_n dX11_hire_42 rfl ?_
      refine e_get (.ref (x + 142)) dX11_hire_43 tf_11_44 (congrArg Prod.fst (bk_s0 hk)) (congrArg va_rf (bk_r0_5 hk)) ?_
      refine e_aload dX11_hire_46 rfl ?_
      refine e_callV [.ref _] dX11_hire_48 tm_11_309 rfl (Nat.le_of_ble_eq_true rfl) (congrArg Prod.fst (bk_s142 hk)) (Nat.le_of_ble_eq_true rfl) (Nat.le_refl _) (Nat.le_refl _) rfl (zp_X4_bidAll (bk_mk142 hk) k1 H2 (by omega) (fun  h16 f17 p18 => ?_))
      have k19 := bk_q (frm_s f17) hk
      have k20 := lk_q (frm_s f17) k1
      have H21 := clsT_c f17 (fun a k q1 q2 => by omega) HX
      have H22 := isF_c f17 (fun a k q1 q2 => by omega) H2
      have FR23 := frm_t FR0 (frm_m (S' := (fun a i => x + 56 ≤ a ∧ a < x + 157)) f17 (fun a k q => by omega))
      obtain ⟨kk, hkk, HS⟩ := p18
      refine e_iload_n dX11_hire_51 rfl ?_
      refine z_ifb_eq 67 dX11_hire_52 rfl (fun c24 => ?_) (fun c24 => ?_)
      · skip
        refine e_aload_n dX11_hire_67 rfl ?_
        refine e_get (.ref (x + 142)) dX11_hire_68 tf_11_44 (congrArg Prod.fst (bk_s0 k19)) (congrArg va_rf (bk_r0_5 k19)) ?_
        refine e_get (.ref (x + 143)) dX11_hire_71 tf_11_164 (congrArg Prod.fst (bk_s142 k19)) (congrArg va_rf (bk_r142_0 k19)) ?_
        refine e_iload_n dX11_hire_74 rfl ?_
        refine z_ild (gotZ (hR (sG σ f) kk k)) dX11_hire_75 (bk_s143 k19) (by decide) (by omega) (by omega) (HS.2.1 k (by omega) (by omega)) ?_
        refine z_iret dX11_hire_76 rfl ⟨rfl, ?_⟩
        refine kq _ ?_ _ FR23
        first | exact absurd (show p by assumption) (show ¬ p by assumption) | exact hiP_w (by assumption) (by omega) hkk rfl | exact hiP_g (by assumption) (by omega) hkk rfl | exact hiP_ow (by assumption) (by omega) rfl | exact hiP_og (by assumption) (by omega) rfl
      · skip
        refine e_aload_n dX11_hire_55 rfl ?_
        refine e_get (.ref (x + 142)) dX11_hire_56 tf_11_44 (congrArg Prod.fst (bk_s0 k19)) (congrArg va_rf (bk_r0_5 k19)) ?_
        refine e_get (.ref (x + 144)) dX11_hire_59 tf_11_312 (congrArg Prod.fst (bk_s142 k19)) (congrArg va_rf (bk_r142_1 k19)) ?_
        refine e_iload_n dX11_hire_62 rfl ?_
        refine z_ild (hW (sG σ f) kk k) dX11_hire_63 (bk_s144 k19) (by decide) (by omega) (by omega) (HS.2.2.1 k (by omega) (by omega)) ?_
        refine e_goto 76 dX11_hire_64 rfl ?_
        refine z_iret dX11_hire_76 rfl ⟨rfl, ?_⟩
        refine kq _ ?_ _ FR23
        first | exact absurd (show p by assumption) (show ¬ p by assumption) | exact hiP_w (by assumption) (by omega) hkk rfl | exact hiP_g (by assumption) (by omega) hkk rfl | exact hiP_ow (by assumption) (by omega) rfl | exact hiP_og (by assumption) (by omega) rfl
    · skip
      refine z_bipush (-2) dX11_hire_39 rfl ?_
      refine z_iret dX11_hire_41 rfl ⟨rfl, ?_⟩
      refine kq _ ?_ _ FR0
      first | exact absurd (show p by assumption) (show ¬ p by assumption) | exact hiP_w (by assumption) (by omega) hkk rfl | exact hiP_g (by assumption) (by omega) hkk rfl | exact hiP_ow (by assumption) (by omega) rfl | exact hiP_og (by assumption) (by omega) rfl
set_option maxHeartbeats 400000 in
theorem zp_X11_hire_out {ad : mA} {dd : Nat} {h : mH} {Q : mQ} {x : Nat} {σ : Sg} (hk : bk h x) (HX : clsT h (x + 1) σ)  (f : Int) (f_r : -2147483648 ≤ f ∧ f < 2147483648) (k : Int) (k_r : -2147483648 ≤ k ∧ k < 2147483648) (p : Prop) [Decidable p] (p1 : ¬ (0 ≤ f ∧ f < cn σ 0)) (kq : Q (some (.int (zI (-2)))) h) : mCal TB0 ad (dd + 6) M_X11_hire [.ref x, .int (zI f), .int (zI k), .int (zI (bZ p))] h 0 0 Q := by
  refine ⟨Nat.le_of_ble_eq_true rfl, ?_⟩
  show mEv TB0 ad M_X11_hire (dd + 6) (0, 0) (mCal TB0 ad (dd + 5)) (fun v h' z => z.1 = 0 ∧ Q v h') 0 [some (.ref x), some (.int (zI f)), some (.int (zI k)), some (.int (zI (bZ p))), none] [] h (0, 0)
  have w1 := wS_n (clsT_w HX)
  refine e_aload_n dX11_hire_0 rfl ?_
  refine e_get (.ref (x + 1)) dX11_hire_1 tf_11_10 (congrArg Prod.fst (bk_s0 hk)) (congrArg va_rf (bk_r0_0 hk)) ?_
  refine e_iload_n dX11_hire_4 rfl ?_
  refine e_callV [.int _] dX11_hire_5 tm_11_94 rfl (Nat.le_of_ble_eq_true rfl) (congrArg Prod.fst (bk_s1 hk)) (Nat.le_of_ble_eq_true rfl) (Nat.le_refl _) (Nat.le_refl _) rfl (zp_X8_forgeAt_out (bk_td1 hk) HX f ⟨by omega, by omega⟩ (by omega) ?_)
  refine e_astoreN (L' := [_, _, _, _, _]) dX11_hire_8 (Nat.le_of_ble_eq_true rfl) rfl ?_
  refine e_aloadN dX11_hire_10 rfl ?_
  refine e_ifnullN 39 dX11_hire_12 rfl ?_
  refine z_bipush (-2) dX11_hire_39 rfl ?_
  refine z_iret dX11_hire_41 rfl ⟨rfl, ?_⟩
  refine z_q kq ?_
  rfl
set_option maxHeartbeats 2000000 in
theorem zp_X12_hires {ad : mA} {dd : Nat} {h : mH} {Q : mQ} {m : Nat} {g r t w : Int → Int} {l : Int} (hk : rk h m) (HB : rB h m g) (HH : hiR h m g r t w l)  (d : Int) (d_r : -2147483648 ≤ d ∧ d < 2147483648) (u : Int) (u_r : -2147483648 ≤ u ∧ u < 2147483648) (p1 : 0 ≤ d ∧ d < nd g) (p2 : 0 ≤ u ∧ u < nu g) (pX : ¬ bdX g w d) (pu : u = bwZ g w d) (pw : w u ≤ 30) (pr6 : r d = 6) (kq : ∀ h1, frm (fun a k => a = m + 16 ∨ a = m + 28) h h1 → (hiR h1 m g (bdR g r t w d) (bdT g t w d) (bdW g t w d) l) → Q none h1) : mCal TB0 ad (dd + 1) M_X12_hires [.ref m, .int (zI d), .int (zI u)] h 0 0 Q := by
  refine ⟨Nat.le_of_ble_eq_true rfl, ?_⟩
  show mEv TB0 ad M_X12_hires (dd + 1) (0, 0) (mCal TB0 ad (dd + 0)) (fun v h' z => z.1 = 0 ∧ Q v h') 0 [some (.ref m), some (.int (zI d)), some (.int (zI u)), none] [] h (0, 0)
  have FR0 : frm (fun a k => a = m + 16 ∨ a = m + 28) h h := frm_0 h
  have w1 := rB_n HB
  have w2 := rB_nd HB
  have w3 := rB_nu HB
  have tu : t u = -1 ∨ (0 ≤ t u ∧ t u < nd g) := by rcases HH.1.2.1 u p2.1 (by omega) with q | q <;> omega
  have wu := HH.1.2.2.1 u p2.1 (by omega)
  have Ht := HH.1.1
  refine z_iconst (0) dX12_hires_0 rfl ?_
  refine e_istore_n (L' := [_, _, _, _]) dX12_hires_1 (Nat.le_of_ble_eq_true rfl) rfl ?_
  have lp1 : ∀ (n1 : Nat) (o : Int) (h1 : mH), (6 - o).toNat = n1 → (rk h1 m) → (rB h1 m g) → (frm (fun a k => a = m + 16 ∨ a = m + 28) h h1) → (0 ≤ o ∧ o ≤ nd g) → (∀ j : Int, 0 ≤ j → j < 6 → rI h1 (m + 16) j = if t u = j ∧ j < o then 6 else r j) → (∀ j : Int, 0 ≤ j → j < 6 → rI h1 (m + 28) j = if j = u ∧ 0 ≤ t u ∧ t u < o then w j + 1 else w j) → mEv TB0 ad M_X12_hires (dd + 1) (0, 0) (mCal TB0 ad (dd + 0)) (fun v h' z => z.1 = 0 ∧ Q v h') 2 [some (.ref m), some (.int (zI d)), some (.int (zI u)), some (.int (zI o))] [] h1 (0, 0) := by
    intro n1
    induction n1 using Nat.strongRecOn with
    | ind n1 ih1 =>
    intro o h1 hn1 k2 H3 FR4 I1 A1 A2
    refine e_iload_n dX12_hires_2 rfl ?_
    refine e_aload_n dX12_hires_3 rfl ?_
    refine z_get (nd g) dX12_hires_4 tf_12_271 (rk_s k2) (Or.inl rfl) (rB_nd H3) ?_
    have y5 := rB_n H3
    refine z_icmp_ge 44 dX12_hires_7 rfl ⟨by omega, by omega⟩ ⟨by omega, by omega⟩ (fun c6 => ?_) (fun c6 => ?_)
    · skip
      refine e_aload_n dX12_hires_44 rfl ?_
      refine e_get (.ref (m + 16)) dX12_hires_45 tf_12_56 (rk_s k2) (congrArg va_rf (rk_r16 k2)) ?_
      refine e_iload_n dX12_hires_48 rfl ?_
      refine e_iload_n dX12_hires_49 rfl ?_
      refine z_ist dX12_hires_50 (rk_a16 k2) (by decide) (by omega) (by omega) (fun h7 e8 => ?_)
      have f9 := frm_1 e8
      have k10 := rk_q (frm_s f9) k2
      have H11 := rB_c f9 (fun a k q => by omega) H3
      have FR12 := frm_t FR4 (frm_m (S' := (fun a k => a = m + 16 ∨ a = m + 28)) f9 (fun a k q => by omega))
      refine e_vret dX12_hires_51 rfl ⟨rfl, ?_⟩
      refine kq _ FR12 ⟨?_, fun j a c => ?_, fun j a c => ?_⟩
      · have := wfH_bd (d := d) HH.1 (by omega) p1 pr6
        rw [show bdL g w l d = l from if_neg pX] at this
        exact this
      · rw [hrs_R pX pu tu a]
        by_cases z : j = d
        · rw [if_pos z, z]; exact (rI_eq e8 ⟨by omega, by omega⟩)
        · rw [if_neg z]; exact ((frm_r f9 (by omega))).trans ((A1 j a c).trans (by rw [show o = nd g by omega]))
      · rw [hrs_W pX pu tu]
        exact ((frm_r f9 (by omega))).trans ((A2 j a c).trans (by rw [show o = nd g by omega]))
    · skip
      have hi := wfH_i HH.1 (o := o) (u := u) (by omega) (by omega) (by omega) (by omega)
      refine e_aload_n dX12_hires_10 rfl ?_
      refine e_get (.ref (m + 16)) dX12_hires_11 tf_12_56 (rk_s k2) (congrArg va_rf (rk_r16 k2)) ?_
      refine e_iload_n dX12_hires_14 rfl ?_
      refine z_ild (r o) dX12_hires_15 (rk_a16 k2) (by decide) (by omega) (by omega) ((A1 o (by omega) (by omega)).trans (if_neg (by omega))) ?_
      have y13 := Ht o (by omega) (by omega)
      refine e_iload_n dX12_hires_16 rfl ?_
      refine z_icmp_ne 38 dX12_hires_17 rfl ⟨by omega, by omega⟩ ⟨by omega, by omega⟩ (fun c14 => ?_) (fun c14 => ?_)
      · skip
        refine z_iinc (L' := [_, _, _, _]) dX12_hires_38 rfl rfl ?_
        refine e_goto 2 dX12_hires_41 rfl ?_
        exact ih1 _ (by omega) (o + 1) h1 rfl k2 H3 FR4 (by omega) (fun j a c => (A1 j a c).trans (by
                  by_cases z : t u = j ∧ j < o
                  · rw [if_pos z, if_pos (by omega)]
                  · rw [if_neg z, if_neg (by omega)])) (fun j a c => (A2 j a c).trans (by
                  by_cases z : j = u ∧ 0 ≤ t u ∧ t u < o
                  · rw [if_pos z, if_pos (by omega)]
                  · rw [if_neg z, if_neg (by omega)]))
      · skip
        refine e_aload_n dX12_hires_20 rfl ?_
        refine e_get (.ref (m + 16)) dX12_hires_21 tf_12_56 (rk_s k2) (congrArg va_rf (rk_r16 k2)) ?_
        refine e_iload_n dX12_hires_24 rfl ?_
        refine z_bipush (6) dX12_hires_25 rfl ?_
        refine z_ist dX12_hires_27 (rk_a16 k2) (by decide) (by omega) (by omega) (fun h15 e16 => ?_)
        have f17 := frm_1 e16
        have k18 := rk_q (frm_s f17) k2
        have H19 := rB_c f17 (fun a k q => by omega) H3
        have FR20 := frm_t FR4 (frm_m (S' := (fun a k => a = m + 16 ∨ a = m + 28)) f17 (fun a k q => by omega))
        refine e_aload_n dX12_hires_28 rfl ?_
        refine e_get (.ref (m + 28)) dX12_hires_29 tf_12_94 (rk_s k18) (congrArg va_rf (rk_r28 k18)) ?_
        refine e_iload_n dX12_hires_32 rfl ?_
        refine e_dup2 dX12_hires_33 rfl rfl ?_
        refine z_ild (w u) dX12_hires_34 (rk_a28 k18) (by decide) (by omega) (by omega) (((frm_r f17 (by omega))).trans ((A2 u (by omega) (by omega)).trans (if_neg (by omega)))) ?_
        refine z_iconst (1) dX12_hires_35 rfl ?_
        refine z_iadd dX12_hires_36 ?_
        refine z_ist dX12_hires_37 (rk_a28 k18) (by decide) (by omega) (by omega) (fun h21 e22 => ?_)
        have f23 := frm_1 e22
        have k24 := rk_q (frm_s f23) k18
        have H25 := rB_c f23 (fun a k q => by omega) H19
        have FR26 := frm_t FR20 (frm_m (S' := (fun a k => a = m + 16 ∨ a = m + 28)) f23 (fun a k q => by omega))
        refine z_iinc (L' := [_, _, _, _]) dX12_hires_38 rfl rfl ?_
        refine e_goto 2 dX12_hires_41 rfl ?_
        exact ih1 _ (by omega) (o + 1) h21 rfl k24 H25 FR26 (by omega) (fun j a c => by
                  by_cases z : j = o
                  · rw [z, if_pos (by omega)]; exact ((frm_r f23 (by omega)).trans (rI_eq e16 ⟨by omega, by omega⟩))
                  · rw [if_neg (by omega)]; exact (((frm_r f23 (by omega)).trans (frm_r f17 (by omega)))).trans ((A1 j a c).trans (if_neg (by omega)))) (fun j a c => by
                  by_cases z : j = u
                  · rw [z, if_pos (by omega)]; exact (rI_eq e22 ⟨by omega, by omega⟩)
                  · rw [if_neg (by omega)]; exact (((frm_r f23 (by omega)).trans (frm_r f17 (by omega)))).trans ((A2 j a c).trans (if_neg (by omega))))
  exact lp1 _ 0 h rfl hk HB FR0 (by omega) (fun j a c => (HH.2.1 j a c).trans (if_neg (by omega)).symm) (fun j a c => (HH.2.2 j a c).trans (if_neg (by omega)).symm)
set_option maxHeartbeats 6000000 in
theorem zp_X12_hire_in {ad : mA} {dd : Nat} {h : mH} {Q : mQ} {m : Nat} {σ : Sg} (hk : rk h m) (HR : refT h m 0 σ)  (f : Int) (f_r : -2147483648 ≤ f ∧ f < 2147483648) (k : Int) (k_r : -2147483648 ≤ k ∧ k < 2147483648) (p : Prop) [Decidable p] (p1 : 0 ≤ f) (p2 : f < cn σ 0) (kq : ∀ v : Int, (hiP (sG σ f) p k v) → ∀ h1, frm (fun a i => a = m ∨ (m + 9 ≤ a ∧ a < m + 30)) h h1 → Q (some (.int (zI v))) h1) : mCal TB0 ad (dd + 4) M_X12_hire [.ref m, .int (zI f), .int (zI k), .int (zI (bZ p))] h 0 0 Q := by
  refine ⟨Nat.le_of_ble_eq_true rfl, ?_⟩
  show mEv TB0 ad M_X12_hire (dd + 4) (0, 0) (mCal TB0 ad (dd + 3)) (fun v h' z => z.1 = 0 ∧ Q v h') 0 [some (.ref m), some (.int (zI f)), some (.int (zI k)), some (.int (zI (bZ p))), none, none, none] [] h (0, 0)
  have FR0 : frm (fun a i => a = m ∨ (m + 9 ≤ a ∧ a < m + 30)) h h := frm_0 h
  have w1 := wS_n (refT_w HR)
  refine e_aload_n dX12_hire_0 rfl ?_
  refine z_iconst (0) dX12_hire_1 rfl ?_
  refine z_put dX12_hire_2 tf_12_103 (rk_s hk) rfl (Or.inl rfl) (fun h1 e2 => ?_)
  have f3 := frm_1 e2
  have k4 := rk_q (frm_s f3) hk
  have H5 := refT_c f3 (fun a k q1 q2 => by omega) HR
  have FR6 := frm_t FR0 (frm_m (S' := (fun a i => a = m ∨ (m + 9 ≤ a ∧ a < m + 30))) f3 (fun a k q => by omega))
  refine e_aload_n dX12_hire_5 rfl ?_
  refine e_iload_n dX12_hire_6 rfl ?_
  refine e_callV [.int _] dX12_hire_7 tm_12_292 rfl (Nat.le_of_ble_eq_true rfl) (rk_s k4) (Nat.le_of_ble_eq_true rfl) (Nat.le_refl _) (Nat.le_refl _) rfl (zp_X12_hand_in k4 H5 f ⟨by omega, by omega⟩ (by omega) (by omega) (fun  h7 f8 p9 p10 p11 p12 => ?_))
  have k13 := rk_q (frm_s f8) k4
  have H14 := refT_c f8 (fun a k q1 q2 => by omega) H5
  have FR15 := frm_t FR6 (frm_m (S' := (fun a i => a = m ∨ (m + 9 ≤ a ∧ a < m + 30))) f8 (fun a k q => by omega))
  have w5 := rB_n p9
  have w6 := rC_n p11
  refine z_ifb_eq 36 dX12_hire_10 rfl (fun c16 => ?_) (fun c16 => ?_)
  · exact absurd trivial c16
  · skip
    refine e_iload_n dX12_hire_13 rfl ?_
    refine z_ifb_eq 28 dX12_hire_14 rfl (fun c17 => ?_) (fun c17 => ?_)
    · skip
      refine e_aload_n dX12_hire_28 rfl ?_
      refine e_iload_n dX12_hire_29 rfl ?_
      refine e_callV [.int _] dX12_hire_30 tm_12_295 rfl (Nat.le_of_ble_eq_true rfl) (rk_s k13) (Nat.le_of_ble_eq_true rfl) (Nat.le_refl _) (Nat.le_refl _) rfl (zp_X12_isDown k13 p9 k ⟨by omega, by omega⟩ ?_)
      refine z_ifb_ne 39 dX12_hire_33 rfl (fun c18 => ?_) (fun c18 => ?_)
      · skip
        refine z_iconst (0) dX12_hire_39 rfl ?_
        refine e_istore (L' := [_, _, _, _, _, _, _]) dX12_hire_40 (Nat.le_of_ble_eq_true rfl) rfl ?_
        refine z_iconst (0) dX12_hire_42 rfl ?_
        refine e_istore (L' := [_, _, _, _, _, _, _]) dX12_hire_43 (Nat.le_of_ble_eq_true rfl) rfl ?_
        have lp19 : ∀ (n19 : Nat) (i : Int) (h19 : mH), (6 - i).toNat = n19 → (rk h19 m) → (refT h19 m 0 σ) → (rB h19 m (sG σ f)) → (rM h19 m (sG σ f)) → (rC h19 m (sG σ f)) → (rK h19 m f) → (frm (fun a i => a = m ∨ (m + 9 ≤ a ∧ a < m + 30)) h h19) → (0 ≤ i ∧ i ≤ 6) → (∀ j : Int, 0 ≤ j → j < i → rI h19 (m + 28) j = 0 ∧ rI h19 (m + 16) j = 6) → mEv TB0 ad M_X12_hire (dd + 4) (0, 0) (mCal TB0 ad (dd + 3)) (fun v h' z => z.1 = 0 ∧ Q v h') 45 [some (.ref m), some (.int (zI f)), some (.int (zI k)), some (.int (zI (bZ p))), some (.int (zI 0)), some (.int (zI i)), none] [] h19 (0, 0) := by
          intro n19
          induction n19 using Nat.strongRecOn with
          | ind n19 ih19 =>
          intro i h19 hn19 k20 H21 H22 H23 H24 H25 FR26 F0 F1
          refine e_iload dX12_hire_45 rfl ?_
          refine z_bipush (6) dX12_hire_47 rfl ?_
          refine z_icmp_ge 75 dX12_hire_49 rfl ⟨by omega, by omega⟩ ⟨by omega, by omega⟩ (fun c27 => ?_) (fun c27 => ?_)
          · skip
            refine z_iconst (0) dX12_hire_75 rfl ?_
            refine e_istore (L' := [_, _, _, _, _, _, _]) dX12_hire_76 (Nat.le_of_ble_eq_true rfl) rfl ?_
            have lp28 : ∀ (n28 : Nat) (l d kk : Int) (h28 : mH), (8 * (300 - kk) + (7 - d)).toNat = n28 → (rk h28 m) → (refT h28 m 0 σ) → (rB h28 m (sG σ f)) → (rM h28 m (sG σ f)) → (rC h28 m (sG σ f)) → (rK h28 m f) → (frm (fun a i => a = m ∨ (m + 9 ≤ a ∧ a < m + 30)) h h28) → (0 ≤ kk) → (hiR h28 m (sG σ f) (hR (sG σ f) kk) (hT (sG σ f) kk) (hW (sG σ f) kk) l) → (l = hL (sG σ f) kk) → (hMu (hT (sG σ f) kk) (hW (sG σ f) kk) l = kk) → (0 ≤ d ∧ d ≤ nd (sG σ f)) → (∀ e, 0 ≤ e → e < d → ¬ nbP (hR (sG σ f) kk) l e) → mEv TB0 ad M_X12_hire (dd + 4) (0, 0) (mCal TB0 ad (dd + 3)) (fun v h' z => z.1 = 0 ∧ Q v h') 78 [some (.ref m), some (.int (zI f)), some (.int (zI k)), some (.int (zI (bZ p))), some (.int (zI l)), some (.int (zI d)), none] [] h28 (0, 0) := by
              intro n28
              induction n28 using Nat.strongRecOn with
              | ind n28 ih28 =>
              intro l d kk h28 hn28 k29 H30 H31 H32 H33 H34 FR35 K0 HS el K1 K2 K3
              refine e_iload dX12_hire_78 rfl ?_
              have wl := HS.1.2.2.2
              have mb := hMu_b HS.1
              refine e_aload_n dX12_hire_80 rfl ?_
              refine z_get (nd (sG σ f)) dX12_hire_81 tf_12_271 (rk_s k29) (Or.inl rfl) (rB_nd H31) ?_
              have y36 := rB_n H31
              refine z_icmp_ge 152 dX12_hire_84 rfl ⟨by omega, by omega⟩ ⟨by omega, by omega⟩ (fun c37 => ?_) (fun c37 => ?_)
              · skip
                refine e_iload_n dX12_hire_152 rfl ?_
                refine z_ifb_eq 165 dX12_hire_153 rfl (fun c38 => ?_) (fun c38 => ?_)
                · skip
                  refine e_aload_n dX12_hire_165 rfl ?_
                  refine e_get (.ref (m + 16)) dX12_hire_166 tf_12_56 (rk_s k29) (congrArg va_rf (rk_r16 k29)) ?_
                  refine e_iload_n dX12_hire_169 rfl ?_
                  refine z_ild ((hR (sG σ f) kk) k) dX12_hire_170 (rk_a16 k29) (by decide) (by omega) (by omega) (HS.2.1 k (by omega) (by omega)) ?_
                  have y39 := HS.1.1 k (by omega) (by omega)
                  refine z_bipush (6) dX12_hire_171 rfl ?_
                  refine z_icmp_ne 180 dX12_hire_173 rfl ⟨by omega, by omega⟩ ⟨by omega, by omega⟩ (fun c40 => ?_) (fun c40 => ?_)
                  · skip
                    refine e_aload_n dX12_hire_180 rfl ?_
                    refine e_get (.ref (m + 16)) dX12_hire_181 tf_12_56 (rk_s k29) (congrArg va_rf (rk_r16 k29)) ?_
                    refine e_iload_n dX12_hire_184 rfl ?_
                    refine z_ild ((hR (sG σ f) kk) k) dX12_hire_185 (rk_a16 k29) (by decide) (by omega) (by omega) (HS.2.1 k (by omega) (by omega)) ?_
                    have y41 := HS.1.1 k (by omega) (by omega)
                    refine z_iret dX12_hire_186 rfl ⟨rfl, ?_⟩
                    refine kq _ ?_ _ FR35
                    first | exact absurd (show p by assumption) (show ¬ p by assumption) | (have hkk : hD (sG σ f) kk = -1 := (by unfold hD; rw [← el]; exact (nbZ_u (by omega) (Or.inl ⟨rfl, fun e a c => K3 e a (by omega)⟩)).symm); first | exact hiP_w (by assumption) (by omega) hkk rfl | exact hiP_g (by assumption) (by omega) hkk (by unfold gotZ; first | rw [if_pos (by assumption)] | rw [if_neg (by assumption)])) | exact hiP_ow (by assumption) (by omega) rfl | exact hiP_og (by assumption) (by omega) rfl
                  · skip
                    refine z_iconst (-1) dX12_hire_176 rfl ?_
                    refine e_goto 186 dX12_hire_177 rfl ?_
                    refine z_iret dX12_hire_186 rfl ⟨rfl, ?_⟩
                    refine kq _ ?_ _ FR35
                    first | exact absurd (show p by assumption) (show ¬ p by assumption) | (have hkk : hD (sG σ f) kk = -1 := (by unfold hD; rw [← el]; exact (nbZ_u (by omega) (Or.inl ⟨rfl, fun e a c => K3 e a (by omega)⟩)).symm); first | exact hiP_w (by assumption) (by omega) hkk rfl | exact hiP_g (by assumption) (by omega) hkk (by unfold gotZ; first | rw [if_pos (by assumption)] | rw [if_neg (by assumption)])) | exact hiP_ow (by assumption) (by omega) rfl | exact hiP_og (by assumption) (by omega) rfl
                · skip
                  refine e_aload_n dX12_hire_156 rfl ?_
                  refine e_get (.ref (m + 28)) dX12_hire_157 tf_12_94 (rk_s k29) (congrArg va_rf (rk_r28 k29)) ?_
                  refine e_iload_n dX12_hire_160 rfl ?_
                  refine z_ild ((hW (sG σ f) kk) k) dX12_hire_161 (rk_a28 k29) (by decide) (by omega) (by omega) (HS.2.2 k (by omega) (by omega)) ?_
                  have y42 := HS.1.2.2.1 k (by omega) (by omega)
                  refine e_goto 186 dX12_hire_162 rfl ?_
                  refine z_iret dX12_hire_186 rfl ⟨rfl, ?_⟩
                  refine kq _ ?_ _ FR35
                  first | exact absurd (show p by assumption) (show ¬ p by assumption) | (have hkk : hD (sG σ f) kk = -1 := (by unfold hD; rw [← el]; exact (nbZ_u (by omega) (Or.inl ⟨rfl, fun e a c => K3 e a (by omega)⟩)).symm); first | exact hiP_w (by assumption) (by omega) hkk rfl | exact hiP_g (by assumption) (by omega) hkk (by unfold gotZ; first | rw [if_pos (by assumption)] | rw [if_neg (by assumption)])) | exact hiP_ow (by assumption) (by omega) rfl | exact hiP_og (by assumption) (by omega) rfl
              · skip
                refine e_aload_n dX12_hire_87 rfl ?_
                refine e_get (.ref (m + 16)) dX12_hire_88 tf_12_56 (rk_s k29) (congrArg va_rf (rk_r16 k29)) ?_
                refine e_iload dX12_hire_91 rfl ?_
                refine z_ild ((hR (sG σ f) kk) d) dX12_hire_93 (rk_a16 k29) (by decide) (by omega) (by omega) (HS.2.1 d (by omega) (by omega)) ?_
                have y43 := HS.1.1 d (by omega) (by omega)
                refine z_bipush (6) dX12_hire_94 rfl ?_
                refine z_icmp_ne 146 dX12_hire_96 rfl ⟨by omega, by omega⟩ ⟨by omega, by omega⟩ (fun c44 => ?_) (fun c44 => ?_)
                · skip
                  skip
                  refine z_iinc (L' := [_, _, _, _, _, _, _]) dX12_hire_146 rfl rfl ?_
                  refine e_goto 78 dX12_hire_149 rfl ?_
                  exact ih28 _ (by omega) l (d + 1) kk h28 rfl k29 H30 H31 H32 H33 H34 FR35 (by omega) HS el K1 (by omega) (allS (P := nbP (hR (sG σ f) kk) l) K3 (by intro q; exact absurd q (by intro q; obtain ⟨q1, q2⟩ := q; first | omega | exact q2 (by assumption))))
                · skip
                  refine e_iload dX12_hire_99 rfl ?_
                  refine e_iload dX12_hire_101 rfl ?_
                  refine e_callS [.int _, .int _] dX12_hire_103 tm_12_107 rfl (Nat.le_of_ble_eq_true rfl) (Nat.le_refl _) (Nat.le_refl _) rfl (zp_X12_has l ⟨by omega, by omega⟩ d ⟨by omega, by omega⟩ (by omega) (by omega) (by omega) ?_)
                  refine z_ifb_ne 146 dX12_hire_106 rfl (fun c45 => ?_) (fun c45 => ?_)
                  · skip
                    skip
                    refine z_iinc (L' := [_, _, _, _, _, _, _]) dX12_hire_146 rfl rfl ?_
                    refine e_goto 78 dX12_hire_149 rfl ?_
                    exact ih28 _ (by omega) l (d + 1) kk h28 rfl k29 H30 H31 H32 H33 H34 FR35 (by omega) HS el K1 (by omega) (allS (P := nbP (hR (sG σ f) kk) l) K3 (by intro q; exact absurd q (by intro q; obtain ⟨q1, q2⟩ := q; first | omega | exact q2 (by assumption))))
                  · skip
                    have ed : d = hD (sG σ f) kk := by unfold hD; rw [← el]; exact nbZ_u (by omega) (Or.inr ⟨⟨by omega, by omega⟩, ⟨by omega, by assumption⟩, K3⟩)
                    have e1 := hS_s (g := (sG σ f)) K0 (by omega)
                    rw [← ed, ← el] at e1
                    have e3 := hMu_bd (l := l) (d := d) HS.1 (by omega) (by omega) (by assumption)
                    refine e_aload_n dX12_hire_109 rfl ?_
                    refine e_iload dX12_hire_110 rfl ?_
                    refine e_callV [.int _] dX12_hire_112 tm_12_555 rfl (Nat.le_of_ble_eq_true rfl) (rk_s k29) (Nat.le_of_ble_eq_true rfl) (Nat.le_refl _) (Nat.le_refl _) rfl (zp_X12_wants k29 H31 HS d ⟨by omega, by omega⟩ (by omega) (fun v46 p47 => ?_))
                    have wu := wnt_u (show 0 ≤ nu (sG σ f) by omega) (by assumption)
                    refine e_istore (L' := [_, _, _, _, _, _, _]) dX12_hire_115 (Nat.le_of_ble_eq_true rfl) rfl ?_
                    refine e_iload dX12_hire_117 rfl ?_
                    refine z_iconst (-1) dX12_hire_119 rfl ?_
                    refine z_icmp_ne 135 dX12_hire_120 rfl ⟨by omega, by omega⟩ ⟨by omega, by omega⟩ (fun c48 => ?_) (fun c48 => ?_)
                    · skip
                      have X : ¬ bdX (sG σ f) (hW (sG σ f) kk) d := by rcases wu with q | q
                                                                       · exfalso; omega
                                                                       · exact q.1
                      have e2 : l = bdL (sG σ f) (hW (sG σ f) kk) l d := (if_neg X).symm
                      skip
                      refine e_aload_n dX12_hire_135 rfl ?_
                      refine e_iload dX12_hire_136 rfl ?_
                      refine e_iload dX12_hire_138 rfl ?_
                      refine e_callV [.int _, .int _] dX12_hire_140 tm_12_558 rfl (Nat.le_of_ble_eq_true rfl) (rk_s k29) (Nat.le_of_ble_eq_true rfl) (Nat.le_refl _) (Nat.le_refl _) rfl (zp_X12_hires k29 H31 HS d ⟨by omega, by omega⟩ v46 ⟨by omega, by omega⟩ (by omega) (by rcases wu with q | q <;> omega) X (by rcases wu with q | q; exact absurd q.2 (by omega); exact q.2.1) (by rcases wu with q | q; exact absurd q.2 (by omega); exact q.2.2.2.2) (by omega) (fun  h49 f50 p51 => ?_))
                      have k52 := rk_q (frm_s f50) k29
                      have H53 := refT_c f50 (fun a k q1 q2 => by omega) H30
                      have H54 := rB_c f50 (fun a k q => by omega) H31
                      have H55 := rM_c f50 (fun a k q => by omega) H32
                      have H56 := rC_c f50 (fun a k q => by omega) H33
                      have H57 := rK_c f50 (fun a k q1 q2 => by omega) H34
                      have FR58 := frm_t FR35 (frm_m (S' := (fun a i => a = m ∨ (m + 9 ≤ a ∧ a < m + 30))) f50 (fun a k q => by omega))
                      refine z_iconst (-1) dX12_hire_143 rfl ?_
                      refine e_istore (L' := [_, _, _, _, _, _, _]) dX12_hire_144 (Nat.le_of_ble_eq_true rfl) rfl ?_
                      skip
                      refine z_iinc (L' := [_, _, _, _, _, _, _]) dX12_hire_146 rfl rfl ?_
                      refine e_goto 78 dX12_hire_149 rfl ?_
                      exact mEv_wk (by exact ⟨Or.inr rfl, Or.inr rfl, Or.inr rfl, Or.inr rfl, Or.inr rfl, Or.inr rfl, Or.inl rfl, trivial⟩) (ih28 _ (by omega) l ((-1) + 1) (kk + 1) h49 rfl k52 H53 H54 H55 H56 H57 FR58 (by omega) (by rw [e1.1, e1.2.1, e1.2.2.1]; exact p51) (by rw [e1.2.2.2]; exact e2) (by rw [e2, e1.2.1, e1.2.2.1, e3, K1]) (by omega) (fun e a c => by omega))
                    · skip
                      have X : bdX (sG σ f) (hW (sG σ f) kk) d := by rcases wu with q | q
                                                                     · exact q.1
                                                                     · exfalso; omega
                      have e2 : orZ l (shlZ 1 d) = bdL (sG σ f) (hW (sG σ f) kk) l d := (if_pos X).symm
                      skip
                      refine e_iload dX12_hire_123 rfl ?_
                      refine z_iconst (1) dX12_hire_125 rfl ?_
                      refine e_iload dX12_hire_126 rfl ?_
                      refine z_ishl dX12_hire_128 (by omega) (by omega) (by omega) (by omega) ?_
                      have y59 := shlZ_b 1 d
                      refine z_ior dX12_hire_129 (by omega) (by omega) (by omega) (by omega) ?_
                      have y60 := orZ_b l (shlZ 1 d)
                      refine e_istore (L' := [_, _, _, _, _, _, _]) dX12_hire_130 (Nat.le_of_ble_eq_true rfl) rfl ?_
                      skip
                      refine e_goto 143 dX12_hire_132 rfl ?_
                      refine z_iconst (-1) dX12_hire_143 rfl ?_
                      refine e_istore (L' := [_, _, _, _, _, _, _]) dX12_hire_144 (Nat.le_of_ble_eq_true rfl) rfl ?_
                      skip
                      refine z_iinc (L' := [_, _, _, _, _, _, _]) dX12_hire_146 rfl rfl ?_
                      refine e_goto 78 dX12_hire_149 rfl ?_
                      exact mEv_wk (by exact ⟨Or.inr rfl, Or.inr rfl, Or.inr rfl, Or.inr rfl, Or.inr rfl, Or.inr rfl, Or.inl rfl, trivial⟩) (ih28 _ (by omega) (orZ l (shlZ 1 d)) ((-1) + 1) (kk + 1) h28 rfl k29 H30 H31 H32 H33 H34 FR35 (by omega) (by rw [e1.1, e1.2.1, e1.2.2.1, (bd_no (r := hR (sG σ f) kk) (t := hT (sG σ f) kk) (l := l) X).1, (bd_no (r := hR (sG σ f) kk) (t := hT (sG σ f) kk) (l := l) X).2.1, (bd_no (r := hR (sG σ f) kk) (t := hT (sG σ f) kk) (l := l) X).2.2.1]; exact ⟨wfH_l HS.1 (by omega), HS.2⟩) (by rw [e1.2.2.2]; exact e2) (by rw [e2, e1.2.1, e1.2.2.1, e3, K1]) (by omega) (fun e a c => by omega))
            exact lp28 _ 0 0 0 h19 rfl k20 H21 H22 H23 H24 H25 FR26 (by omega) (⟨wfH_0 (sG σ f), fun j a c => (F1 j a (by omega)).2, fun j a c => (F1 j a (by omega)).1⟩ : hiR _ m (sG σ f) (hR (sG σ f) 0) (hT (sG σ f) 0) (hW (sG σ f) 0) 0) rfl (hMu_0 (sG σ f)) (by omega) (fun e a c => by omega)
          · skip
            refine e_aload_n dX12_hire_52 rfl ?_
            refine e_get (.ref (m + 28)) dX12_hire_53 tf_12_94 (rk_s k20) (congrArg va_rf (rk_r28 k20)) ?_
            refine e_iload dX12_hire_56 rfl ?_
            refine z_iconst (0) dX12_hire_58 rfl ?_
            refine z_ist dX12_hire_59 (rk_a28 k20) (by decide) (by omega) (by omega) (fun h61 e62 => ?_)
            have f63 := frm_1 e62
            have k64 := rk_q (frm_s f63) k20
            have H65 := refT_c f63 (fun a k q1 q2 => by omega) H21
            have H66 := rB_c f63 (fun a k q => by omega) H22
            have H67 := rM_c f63 (fun a k q => by omega) H23
            have H68 := rC_c f63 (fun a k q => by omega) H24
            have H69 := rK_c f63 (fun a k q1 q2 => by omega) H25
            have FR70 := frm_t FR26 (frm_m (S' := (fun a i => a = m ∨ (m + 9 ≤ a ∧ a < m + 30))) f63 (fun a k q => by omega))
            refine e_aload_n dX12_hire_60 rfl ?_
            refine e_get (.ref (m + 16)) dX12_hire_61 tf_12_56 (rk_s k64) (congrArg va_rf (rk_r16 k64)) ?_
            refine e_iload dX12_hire_64 rfl ?_
            refine z_bipush (6) dX12_hire_66 rfl ?_
            refine z_ist dX12_hire_68 (rk_a16 k64) (by decide) (by omega) (by omega) (fun h71 e72 => ?_)
            have f73 := frm_1 e72
            have k74 := rk_q (frm_s f73) k64
            have H75 := refT_c f73 (fun a k q1 q2 => by omega) H65
            have H76 := rB_c f73 (fun a k q => by omega) H66
            have H77 := rM_c f73 (fun a k q => by omega) H67
            have H78 := rC_c f73 (fun a k q => by omega) H68
            have H79 := rK_c f73 (fun a k q1 q2 => by omega) H69
            have FR80 := frm_t FR70 (frm_m (S' := (fun a i => a = m ∨ (m + 9 ≤ a ∧ a < m + 30))) f73 (fun a k q => by omega))
            refine z_iinc (L' := [_, _, _, _, _, _, _]) dX12_hire_69 rfl rfl ?_
            refine e_goto 45 dX12_hire_72 rfl ?_
            exact ih19 _ (by omega) (i + 1) h71 rfl k74 H75 H76 H77 H78 H79 FR80 (by omega) (fun j a c => by
                      by_cases z : j = i
                      · rw [z]; exact ⟨((frm_r f73 (by omega)).trans (rI_eq e62 ⟨by omega, by omega⟩)), (rI_eq e72 ⟨by omega, by omega⟩)⟩
                      · exact ⟨(((frm_r f73 (by omega)).trans (frm_r f63 (by omega)))).trans (F1 j a (by omega)).1, (((frm_r f73 (by omega)).trans (frm_r f63 (by omega)))).trans (F1 j a (by omega)).2⟩)
        exact lp19 _ 0 h7 rfl k13 H14 p9 p10 p11 p12 FR15 (by omega) (fun j a c => by omega)
      · skip
        refine z_bipush (-2) dX12_hire_36 rfl ?_
        refine z_iret dX12_hire_38 rfl ⟨rfl, ?_⟩
        refine kq _ ?_ _ FR15
        first | exact absurd (show p by assumption) (show ¬ p by assumption) | (have hkk : hD (sG σ f) kk = -1 := (by unfold hD; rw [← el]; exact (nbZ_u (by omega) (Or.inl ⟨rfl, fun e a c => K3 e a (by omega)⟩)).symm); first | exact hiP_w (by assumption) (by omega) hkk rfl | exact hiP_g (by assumption) (by omega) hkk (by unfold gotZ; first | rw [if_pos (by assumption)] | rw [if_neg (by assumption)])) | exact hiP_ow (by assumption) (by omega) rfl | exact hiP_og (by assumption) (by omega) rfl
    · skip
      refine e_aload_n dX12_hire_17 rfl ?_
      refine e_iload_n dX12_hire_18 rfl ?_
      refine e_callV [.int _] dX12_hire_19 tm_12_298 rfl (Nat.le_of_ble_eq_true rfl) (rk_s k13) (Nat.le_of_ble_eq_true rfl) (Nat.le_refl _) (Nat.le_refl _) rfl (zp_X12_isUp k13 p9 k ⟨by omega, by omega⟩ ?_)
      refine z_ifb_ne 39 dX12_hire_22 rfl (fun c81 => ?_) (fun c81 => ?_)
      · skip
        refine z_iconst (0) dX12_hire_39 rfl ?_
        refine e_istore (L' := [_, _, _, _, _, _, _]) dX12_hire_40 (Nat.le_of_ble_eq_true rfl) rfl ?_
        refine z_iconst (0) dX12_hire_42 rfl ?_
        refine e_istore (L' := [_, _, _, _, _, _, _]) dX12_hire_43 (Nat.le_of_ble_eq_true rfl) rfl ?_
        have lp82 : ∀ (n82 : Nat) (i : Int) (h82 : mH), (6 - i).toNat = n82 → (rk h82 m) → (refT h82 m 0 σ) → (rB h82 m (sG σ f)) → (rM h82 m (sG σ f)) → (rC h82 m (sG σ f)) → (rK h82 m f) → (frm (fun a i => a = m ∨ (m + 9 ≤ a ∧ a < m + 30)) h h82) → (0 ≤ i ∧ i ≤ 6) → (∀ j : Int, 0 ≤ j → j < i → rI h82 (m + 28) j = 0 ∧ rI h82 (m + 16) j = 6) → mEv TB0 ad M_X12_hire (dd + 4) (0, 0) (mCal TB0 ad (dd + 3)) (fun v h' z => z.1 = 0 ∧ Q v h') 45 [some (.ref m), some (.int (zI f)), some (.int (zI k)), some (.int (zI (bZ p))), some (.int (zI 0)), some (.int (zI i)), none] [] h82 (0, 0) := by
          intro n82
          induction n82 using Nat.strongRecOn with
          | ind n82 ih82 =>
          intro i h82 hn82 k83 H84 H85 H86 H87 H88 FR89 F0 F1
          refine e_iload dX12_hire_45 rfl ?_
          refine z_bipush (6) dX12_hire_47 rfl ?_
          refine z_icmp_ge 75 dX12_hire_49 rfl ⟨by omega, by omega⟩ ⟨by omega, by omega⟩ (fun c90 => ?_) (fun c90 => ?_)
          · skip
            refine z_iconst (0) dX12_hire_75 rfl ?_
            refine e_istore (L' := [_, _, _, _, _, _, _]) dX12_hire_76 (Nat.le_of_ble_eq_true rfl) rfl ?_
            have lp91 : ∀ (n91 : Nat) (l d kk : Int) (h91 : mH), (8 * (300 - kk) + (7 - d)).toNat = n91 → (rk h91 m) → (refT h91 m 0 σ) → (rB h91 m (sG σ f)) → (rM h91 m (sG σ f)) → (rC h91 m (sG σ f)) → (rK h91 m f) → (frm (fun a i => a = m ∨ (m + 9 ≤ a ∧ a < m + 30)) h h91) → (0 ≤ kk) → (hiR h91 m (sG σ f) (hR (sG σ f) kk) (hT (sG σ f) kk) (hW (sG σ f) kk) l) → (l = hL (sG σ f) kk) → (hMu (hT (sG σ f) kk) (hW (sG σ f) kk) l = kk) → (0 ≤ d ∧ d ≤ nd (sG σ f)) → (∀ e, 0 ≤ e → e < d → ¬ nbP (hR (sG σ f) kk) l e) → mEv TB0 ad M_X12_hire (dd + 4) (0, 0) (mCal TB0 ad (dd + 3)) (fun v h' z => z.1 = 0 ∧ Q v h') 78 [some (.ref m), some (.int (zI f)), some (.int (zI k)), some (.int (zI (bZ p))), some (.int (zI l)), some (.int (zI d)), none] [] h91 (0, 0) := by
              intro n91
              induction n91 using Nat.strongRecOn with
              | ind n91 ih91 =>
              intro l d kk h91 hn91 k92 H93 H94 H95 H96 H97 FR98 K0 HS el K1 K2 K3
              refine e_iload dX12_hire_78 rfl ?_
              have wl := HS.1.2.2.2
              have mb := hMu_b HS.1
              refine e_aload_n dX12_hire_80 rfl ?_
              refine z_get (nd (sG σ f)) dX12_hire_81 tf_12_271 (rk_s k92) (Or.inl rfl) (rB_nd H94) ?_
              have y99 := rB_n H94
              refine z_icmp_ge 152 dX12_hire_84 rfl ⟨by omega, by omega⟩ ⟨by omega, by omega⟩ (fun c100 => ?_) (fun c100 => ?_)
              · skip
                refine e_iload_n dX12_hire_152 rfl ?_
                refine z_ifb_eq 165 dX12_hire_153 rfl (fun c101 => ?_) (fun c101 => ?_)
                · skip
                  refine e_aload_n dX12_hire_165 rfl ?_
                  refine e_get (.ref (m + 16)) dX12_hire_166 tf_12_56 (rk_s k92) (congrArg va_rf (rk_r16 k92)) ?_
                  refine e_iload_n dX12_hire_169 rfl ?_
                  refine z_ild ((hR (sG σ f) kk) k) dX12_hire_170 (rk_a16 k92) (by decide) (by omega) (by omega) (HS.2.1 k (by omega) (by omega)) ?_
                  have y102 := HS.1.1 k (by omega) (by omega)
                  refine z_bipush (6) dX12_hire_171 rfl ?_
                  refine z_icmp_ne 180 dX12_hire_173 rfl ⟨by omega, by omega⟩ ⟨by omega, by omega⟩ (fun c103 => ?_) (fun c103 => ?_)
                  · skip
                    refine e_aload_n dX12_hire_180 rfl ?_
                    refine e_get (.ref (m + 16)) dX12_hire_181 tf_12_56 (rk_s k92) (congrArg va_rf (rk_r16 k92)) ?_
                    refine e_iload_n dX12_hire_184 rfl ?_
                    refine z_ild ((hR (sG σ f) kk) k) dX12_hire_185 (rk_a16 k92) (by decide) (by omega) (by omega) (HS.2.1 k (by omega) (by omega)) ?_
                    have y104 := HS.1.1 k (by omega) (by omega)
                    refine z_iret dX12_hire_186 rfl ⟨rfl, ?_⟩
                    refine kq _ ?_ _ FR98
                    first | exact absurd (show p by assumption) (show ¬ p by assumption) | (have hkk : hD (sG σ f) kk = -1 := (by unfold hD; rw [← el]; exact (nbZ_u (by omega) (Or.inl ⟨rfl, fun e a c => K3 e a (by omega)⟩)).symm); first | exact hiP_w (by assumption) (by omega) hkk rfl | exact hiP_g (by assumption) (by omega) hkk (by unfold gotZ; first | rw [if_pos (by assumption)] | rw [if_neg (by assumption)])) | exact hiP_ow (by assumption) (by omega) rfl | exact hiP_og (by assumption) (by omega) rfl
                  · skip
                    refine z_iconst (-1) dX12_hire_176 rfl ?_
                    refine e_goto 186 dX12_hire_177 rfl ?_
                    refine z_iret dX12_hire_186 rfl ⟨rfl, ?_⟩
                    refine kq _ ?_ _ FR98
                    first | exact absurd (show p by assumption) (show ¬ p by assumption) | (have hkk : hD (sG σ f) kk = -1 := (by unfold hD; rw [← el]; exact (nbZ_u (by omega) (Or.inl ⟨rfl, fun e a c => K3 e a (by omega)⟩)).symm); first | exact hiP_w (by assumption) (by omega) hkk rfl | exact hiP_g (by assumption) (by omega) hkk (by unfold gotZ; first | rw [if_pos (by assumption)] | rw [if_neg (by assumption)])) | exact hiP_ow (by assumption) (by omega) rfl | exact hiP_og (by assumption) (by omega) rfl
                · skip
                  refine e_aload_n dX12_hire_156 rfl ?_
                  refine e_get (.ref (m + 28)) dX12_hire_157 tf_12_94 (rk_s k92) (congrArg va_rf (rk_r28 k92)) ?_
                  refine e_iload_n dX12_hire_160 rfl ?_
                  refine z_ild ((hW (sG σ f) kk) k) dX12_hire_161 (rk_a28 k92) (by decide) (by omega) (by omega) (HS.2.2 k (by omega) (by omega)) ?_
                  have y105 := HS.1.2.2.1 k (by omega) (by omega)
                  refine e_goto 186 dX12_hire_162 rfl ?_
                  refine z_iret dX12_hire_186 rfl ⟨rfl, ?_⟩
                  refine kq _ ?_ _ FR98
                  first | exact absurd (show p by assumption) (show ¬ p by assumption) | (have hkk : hD (sG σ f) kk = -1 := (by unfold hD; rw [← el]; exact (nbZ_u (by omega) (Or.inl ⟨rfl, fun e a c => K3 e a (by omega)⟩)).symm); first | exact hiP_w (by assumption) (by omega) hkk rfl | exact hiP_g (by assumption) (by omega) hkk (by unfold gotZ; first | rw [if_pos (by assumption)] | rw [if_neg (by assumption)])) | exact hiP_ow (by assumption) (by omega) rfl | exact hiP_og (by assumption) (by omega) rfl
              · skip
                refine e_aload_n dX12_hire_87 rfl ?_
                refine e_get (.ref (m + 16)) dX12_hire_88 tf_12_56 (rk_s k92) (congrArg va_rf (rk_r16 k92)) ?_
                refine e_iload dX12_hire_91 rfl ?_
                refine z_ild ((hR (sG σ f) kk) d) dX12_hire_93 (rk_a16 k92) (by decide) (by omega) (by omega) (HS.2.1 d (by omega) (by omega)) ?_
                have y106 := HS.1.1 d (by omega) (by omega)
                refine z_bipush (6) dX12_hire_94 rfl ?_
                refine z_icmp_ne 146 dX12_hire_96 rfl ⟨by omega, by omega⟩ ⟨by omega, by omega⟩ (fun c107 => ?_) (fun c107 => ?_)
                · skip
                  skip
                  refine z_iinc (L' := [_, _, _, _, _, _, _]) dX12_hire_146 rfl rfl ?_
                  refine e_goto 78 dX12_hire_149 rfl ?_
                  exact ih91 _ (by omega) l (d + 1) kk h91 rfl k92 H93 H94 H95 H96 H97 FR98 (by omega) HS el K1 (by omega) (allS (P := nbP (hR (sG σ f) kk) l) K3 (by intro q; exact absurd q (by intro q; obtain ⟨q1, q2⟩ := q; first | omega | exact q2 (by assumption))))
                · skip
                  refine e_iload dX12_hire_99 rfl ?_
                  refine e_iload dX12_hire_101 rfl ?_
                  refine e_callS [.int _, .int _] dX12_hire_103 tm_12_107 rfl (Nat.le_of_ble_eq_true rfl) (Nat.le_refl _) (Nat.le_refl _) rfl (zp_X12_has l ⟨by omega, by omega⟩ d ⟨by omega, by omega⟩ (by omega) (by omega) (by omega) ?_)
                  refine z_ifb_ne 146 dX12_hire_106 rfl (fun c108 => ?_) (fun c108 => ?_)
                  · skip
                    skip
                    refine z_iinc (L' := [_, _, _, _, _, _, _]) dX12_hire_146 rfl rfl ?_
                    refine e_goto 78 dX12_hire_149 rfl ?_
                    exact ih91 _ (by omega) l (d + 1) kk h91 rfl k92 H93 H94 H95 H96 H97 FR98 (by omega) HS el K1 (by omega) (allS (P := nbP (hR (sG σ f) kk) l) K3 (by intro q; exact absurd q (by intro q; obtain ⟨q1, q2⟩ := q; first | omega | exact q2 (by assumption))))
                  · skip
                    have ed : d = hD (sG σ f) kk := by unfold hD; rw [← el]; exact nbZ_u (by omega) (Or.inr ⟨⟨by omega, by omega⟩, ⟨by omega, by assumption⟩, K3⟩)
                    have e1 := hS_s (g := (sG σ f)) K0 (by omega)
                    rw [← ed, ← el] at e1
                    have e3 := hMu_bd (l := l) (d := d) HS.1 (by omega) (by omega) (by assumption)
                    refine e_aload_n dX12_hire_109 rfl ?_
                    refine e_iload dX12_hire_110 rfl ?_
                    refine e_callV [.int _] dX12_hire_112 tm_12_555 rfl (Nat.le_of_ble_eq_true rfl) (rk_s k92) (Nat.le_of_ble_eq_true rfl) (Nat.le_refl _) (Nat.le_refl _) rfl (zp_X12_wants k92 H94 HS d ⟨by omega, by omega⟩ (by omega) (fun v109 p110 => ?_))
                    have wu := wnt_u (show 0 ≤ nu (sG σ f) by omega) (by assumption)
                    refine e_istore (L' := [_, _, _, _, _, _, _]) dX12_hire_115 (Nat.le_of_ble_eq_true rfl) rfl ?_
                    refine e_iload dX12_hire_117 rfl ?_
                    refine z_iconst (-1) dX12_hire_119 rfl ?_
                    refine z_icmp_ne 135 dX12_hire_120 rfl ⟨by omega, by omega⟩ ⟨by omega, by omega⟩ (fun c111 => ?_) (fun c111 => ?_)
                    · skip
                      have X : ¬ bdX (sG σ f) (hW (sG σ f) kk) d := by rcases wu with q | q
                                                                       · exfalso; omega
                                                                       · exact q.1
                      have e2 : l = bdL (sG σ f) (hW (sG σ f) kk) l d := (if_neg X).symm
                      skip
                      refine e_aload_n dX12_hire_135 rfl ?_
                      refine e_iload dX12_hire_136 rfl ?_
                      refine e_iload dX12_hire_138 rfl ?_
                      refine e_callV [.int _, .int _] dX12_hire_140 tm_12_558 rfl (Nat.le_of_ble_eq_true rfl) (rk_s k92) (Nat.le_of_ble_eq_true rfl) (Nat.le_refl _) (Nat.le_refl _) rfl (zp_X12_hires k92 H94 HS d ⟨by omega, by omega⟩ v109 ⟨by omega, by omega⟩ (by omega) (by rcases wu with q | q <;> omega) X (by rcases wu with q | q; exact absurd q.2 (by omega); exact q.2.1) (by rcases wu with q | q; exact absurd q.2 (by omega); exact q.2.2.2.2) (by omega) (fun  h112 f113 p114 => ?_))
                      have k115 := rk_q (frm_s f113) k92
                      have H116 := refT_c f113 (fun a k q1 q2 => by omega) H93
                      have H117 := rB_c f113 (fun a k q => by omega) H94
                      have H118 := rM_c f113 (fun a k q => by omega) H95
                      have H119 := rC_c f113 (fun a k q => by omega) H96
                      have H120 := rK_c f113 (fun a k q1 q2 => by omega) H97
                      have FR121 := frm_t FR98 (frm_m (S' := (fun a i => a = m ∨ (m + 9 ≤ a ∧ a < m + 30))) f113 (fun a k q => by omega))
                      refine z_iconst (-1) dX12_hire_143 rfl ?_
                      refine e_istore (L' := [_, _, _, _, _, _, _]) dX12_hire_144 (Nat.le_of_ble_eq_true rfl) rfl ?_
                      skip
                      refine z_iinc (L' := [_, _, _, _, _, _, _]) dX12_hire_146 rfl rfl ?_
                      refine e_goto 78 dX12_hire_149 rfl ?_
                      exact mEv_wk (by exact ⟨Or.inr rfl, Or.inr rfl, Or.inr rfl, Or.inr rfl, Or.inr rfl, Or.inr rfl, Or.inl rfl, trivial⟩) (ih91 _ (by omega) l ((-1) + 1) (kk + 1) h112 rfl k115 H116 H117 H118 H119 H120 FR121 (by omega) (by rw [e1.1, e1.2.1, e1.2.2.1]; exact p114) (by rw [e1.2.2.2]; exact e2) (by rw [e2, e1.2.1, e1.2.2.1, e3, K1]) (by omega) (fun e a c => by omega))
                    · skip
                      have X : bdX (sG σ f) (hW (sG σ f) kk) d := by rcases wu with q | q
                                                                     · exact q.1
                                                                     · exfalso; omega
                      have e2 : orZ l (shlZ 1 d) = bdL (sG σ f) (hW (sG σ f) kk) l d := (if_pos X).symm
                      skip
                      refine e_iload dX12_hire_123 rfl ?_
                      refine z_iconst (1) dX12_hire_125 rfl ?_
                      refine e_iload dX12_hire_126 rfl ?_
                      refine z_ishl dX12_hire_128 (by omega) (by omega) (by omega) (by omega) ?_
                      have y122 := shlZ_b 1 d
                      refine z_ior dX12_hire_129 (by omega) (by omega) (by omega) (by omega) ?_
                      have y123 := orZ_b l (shlZ 1 d)
                      refine e_istore (L' := [_, _, _, _, _, _, _]) dX12_hire_130 (Nat.le_of_ble_eq_true rfl) rfl ?_
                      skip
                      refine e_goto 143 dX12_hire_132 rfl ?_
                      refine z_iconst (-1) dX12_hire_143 rfl ?_
                      refine e_istore (L' := [_, _, _, _, _, _, _]) dX12_hire_144 (Nat.le_of_ble_eq_true rfl) rfl ?_
                      skip
                      refine z_iinc (L' := [_, _, _, _, _, _, _]) dX12_hire_146 rfl rfl ?_
                      refine e_goto 78 dX12_hire_149 rfl ?_
                      exact mEv_wk (by exact ⟨Or.inr rfl, Or.inr rfl, Or.inr rfl, Or.inr rfl, Or.inr rfl, Or.inr rfl, Or.inl rfl, trivial⟩) (ih91 _ (by omega) (orZ l (shlZ 1 d)) ((-1) + 1) (kk + 1) h91 rfl k92 H93 H94 H95 H96 H97 FR98 (by omega) (by rw [e1.1, e1.2.1, e1.2.2.1, (bd_no (r := hR (sG σ f) kk) (t := hT (sG σ f) kk) (l := l) X).1, (bd_no (r := hR (sG σ f) kk) (t := hT (sG σ f) kk) (l := l) X).2.1, (bd_no (r := hR (sG σ f) kk) (t := hT (sG σ f) kk) (l := l) X).2.2.1]; exact ⟨wfH_l HS.1 (by omega), HS.2⟩) (by rw [e1.2.2.2]; exact e2) (by rw [e2, e1.2.1, e1.2.2.1, e3, K1]) (by omega) (fun e a c => by omega))
            exact lp91 _ 0 0 0 h82 rfl k83 H84 H85 H86 H87 H88 FR89 (by omega) (⟨wfH_0 (sG σ f), fun j a c => (F1 j a (by omega)).2, fun j a c => (F1 j a (by omega)).1⟩ : hiR _ m (sG σ f) (hR (sG σ f) 0) (hT (sG σ f) 0) (hW (sG σ f) 0) 0) rfl (hMu_0 (sG σ f)) (by omega) (fun e a c => by omega)
          · skip
            refine e_aload_n dX12_hire_52 rfl ?_
            refine e_get (.ref (m + 28)) dX12_hire_53 tf_12_94 (rk_s k83) (congrArg va_rf (rk_r28 k83)) ?_
            refine e_iload dX12_hire_56 rfl ?_
            refine z_iconst (0) dX12_hire_58 rfl ?_
            refine z_ist dX12_hire_59 (rk_a28 k83) (by decide) (by omega) (by omega) (fun h124 e125 => ?_)
            have f126 := frm_1 e125
            have k127 := rk_q (frm_s f126) k83
            have H128 := refT_c f126 (fun a k q1 q2 => by omega) H84
            have H129 := rB_c f126 (fun a k q => by omega) H85
            have H130 := rM_c f126 (fun a k q => by omega) H86
            have H131 := rC_c f126 (fun a k q => by omega) H87
            have H132 := rK_c f126 (fun a k q1 q2 => by omega) H88
            have FR133 := frm_t FR89 (frm_m (S' := (fun a i => a = m ∨ (m + 9 ≤ a ∧ a < m + 30))) f126 (fun a k q => by omega))
            refine e_aload_n dX12_hire_60 rfl ?_
            refine e_get (.ref (m + 16)) dX12_hire_61 tf_12_56 (rk_s k127) (congrArg va_rf (rk_r16 k127)) ?_
            refine e_iload dX12_hire_64 rfl ?_
            refine z_bipush (6) dX12_hire_66 rfl ?_
            refine z_ist dX12_hire_68 (rk_a16 k127) (by decide) (by omega) (by omega) (fun h134 e135 => ?_)
            have f136 := frm_1 e135
            have k137 := rk_q (frm_s f136) k127
            have H138 := refT_c f136 (fun a k q1 q2 => by omega) H128
            have H139 := rB_c f136 (fun a k q => by omega) H129
            have H140 := rM_c f136 (fun a k q => by omega) H130
            have H141 := rC_c f136 (fun a k q => by omega) H131
            have H142 := rK_c f136 (fun a k q1 q2 => by omega) H132
            have FR143 := frm_t FR133 (frm_m (S' := (fun a i => a = m ∨ (m + 9 ≤ a ∧ a < m + 30))) f136 (fun a k q => by omega))
            refine z_iinc (L' := [_, _, _, _, _, _, _]) dX12_hire_69 rfl rfl ?_
            refine e_goto 45 dX12_hire_72 rfl ?_
            exact ih82 _ (by omega) (i + 1) h134 rfl k137 H138 H139 H140 H141 H142 FR143 (by omega) (fun j a c => by
                      by_cases z : j = i
                      · rw [z]; exact ⟨((frm_r f136 (by omega)).trans (rI_eq e125 ⟨by omega, by omega⟩)), (rI_eq e135 ⟨by omega, by omega⟩)⟩
                      · exact ⟨(((frm_r f136 (by omega)).trans (frm_r f126 (by omega)))).trans (F1 j a (by omega)).1, (((frm_r f136 (by omega)).trans (frm_r f126 (by omega)))).trans (F1 j a (by omega)).2⟩)
        exact lp82 _ 0 h7 rfl k13 H14 p9 p10 p11 p12 FR15 (by omega) (fun j a c => by omega)
      · skip
        refine e_goto 36 dX12_hire_25 rfl ?_
        refine z_bipush (-2) dX12_hire_36 rfl ?_
        refine z_iret dX12_hire_38 rfl ⟨rfl, ?_⟩
        refine kq _ ?_ _ FR15
        first | exact absurd (show p by assumption) (show ¬ p by assumption) | (have hkk : hD (sG σ f) kk = -1 := (by unfold hD; rw [← el]; exact (nbZ_u (by omega) (Or.inl ⟨rfl, fun e a c => K3 e a (by omega)⟩)).symm); first | exact hiP_w (by assumption) (by omega) hkk rfl | exact hiP_g (by assumption) (by omega) hkk (by unfold gotZ; first | rw [if_pos (by assumption)] | rw [if_neg (by assumption)])) | exact hiP_ow (by assumption) (by omega) rfl | exact hiP_og (by assumption) (by omega) rfl
set_option maxHeartbeats 400000 in
theorem zp_X12_hire_out {ad : mA} {dd : Nat} {h : mH} {Q : mQ} {m : Nat} {σ : Sg} (hk : rk h m) (HR : refT h m 0 σ)  (f : Int) (f_r : -2147483648 ≤ f ∧ f < 2147483648) (k : Int) (k_r : -2147483648 ≤ k ∧ k < 2147483648) (p : Prop) [Decidable p] (p1 : ¬ (0 ≤ f ∧ f < cn σ 0)) (kq : ∀ h1, frm (fun a i => a = m ∨ (m + 9 ≤ a ∧ a < m + 30)) h h1 → Q (some (.int (zI (-2)))) h1) : mCal TB0 ad (dd + 4) M_X12_hire [.ref m, .int (zI f), .int (zI k), .int (zI (bZ p))] h 0 0 Q := by
  refine ⟨Nat.le_of_ble_eq_true rfl, ?_⟩
  show mEv TB0 ad M_X12_hire (dd + 4) (0, 0) (mCal TB0 ad (dd + 3)) (fun v h' z => z.1 = 0 ∧ Q v h') 0 [some (.ref m), some (.int (zI f)), some (.int (zI k)), some (.int (zI (bZ p))), none, none, none] [] h (0, 0)
  have FR0 : frm (fun a i => a = m ∨ (m + 9 ≤ a ∧ a < m + 30)) h h := frm_0 h
  have w1 := wS_n (refT_w HR)
  refine e_aload_n dX12_hire_0 rfl ?_
  refine z_iconst (0) dX12_hire_1 rfl ?_
  refine z_put dX12_hire_2 tf_12_103 (rk_s hk) rfl (Or.inl rfl) (fun h1 e2 => ?_)
  have f3 := frm_1 e2
  have k4 := rk_q (frm_s f3) hk
  have H5 := refT_c f3 (fun a k q1 q2 => by omega) HR
  have FR6 := frm_t FR0 (frm_m (S' := (fun a i => a = m ∨ (m + 9 ≤ a ∧ a < m + 30))) f3 (fun a k q => by omega))
  refine e_aload_n dX12_hire_5 rfl ?_
  refine e_iload_n dX12_hire_6 rfl ?_
  refine e_callV [.int _] dX12_hire_7 tm_12_292 rfl (Nat.le_of_ble_eq_true rfl) (rk_s k4) (Nat.le_of_ble_eq_true rfl) (Nat.le_refl _) (Nat.le_refl _) rfl (zp_X12_hand_out k4 H5 f ⟨by omega, by omega⟩ (by omega) ?_)
  refine z_ifb_eq 36 dX12_hire_10 rfl (fun c7 => ?_) (fun c7 => ?_)
  · skip
    refine z_bipush (-2) dX12_hire_36 rfl ?_
    refine z_iret dX12_hire_38 rfl ⟨rfl, ?_⟩
    exact kq _ FR6
  · exfalso; exact c7
theorem op31 {ad : mA} {B : Nat} : op_31 ad B (Inv B) := by
  intro a b bb hb
  rw [← zI_toInt a]
  rw [← zI_toInt b]
  rw [bb_z hb]
  have ra := in_of a
  generalize a.toInt = a at *
  have rb := in_of b
  generalize b.toInt = b at *
  refine opq_I (ansF a (-2) (fun g r => hiP g (bb = 1) b r)) (ansF_u (fun g r r' x y => hiP_u g r r' x y)) (fun h σ hk HX Q kq => ?_) (fun h σ hr HR Q kq => ?_)
  · by_cases q : 0 ≤ a ∧ a < cn σ 0
    · exact zp_X11_hire_in hk HX a ra b rb (bb = 1) q.1 q.2 (fun v p h1 f => kq v h1 f (Or.inl ⟨q.1, q.2, p⟩))
    · exact zp_X11_hire_out hk HX a ra b rb (bb = 1) q (kq _ _ (frm_0 h) (Or.inr ⟨q, rfl⟩))
  · by_cases q : 0 ≤ a ∧ a < cn σ 0
    · exact zp_X12_hire_in hr HR a ra b rb (bb = 1) q.1 q.2 (fun v p h1 f => kq v h1 f (Or.inl ⟨q.1, q.2, p⟩))
    · exact zp_X12_hire_out hr HR a ra b rb (bb = 1) q (fun h1 f => kq _ _ f (Or.inr ⟨q, rfl⟩))

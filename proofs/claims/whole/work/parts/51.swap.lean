/-! ONE NUMBER CHANGED; SWAP -/
theorem dX4_bestSwap_0 : decode cX4_bestSwap 0 = .ok (.iconst (-1), 1) := by decide +kernel
theorem dX4_bestSwap_1 : decode cX4_bestSwap 1 = .ok (.istore_n 3, 1) := by decide +kernel
theorem dX4_bestSwap_2 : decode cX4_bestSwap 2 = .ok (.iconst 0, 1) := by decide +kernel
theorem dX4_bestSwap_3 : decode cX4_bestSwap 3 = .ok (.istore 4, 2) := by decide +kernel
theorem dX4_bestSwap_5 : decode cX4_bestSwap 5 = .ok (.iconst 0, 1) := by decide +kernel
theorem dX4_bestSwap_6 : decode cX4_bestSwap 6 = .ok (.istore 5, 2) := by decide +kernel
theorem dX4_bestSwap_8 : decode cX4_bestSwap 8 = .ok (.iload 5, 2) := by decide +kernel
theorem dX4_bestSwap_10 : decode cX4_bestSwap 10 = .ok (.aload_n 1, 1) := by decide +kernel
theorem dX4_bestSwap_11 : decode cX4_bestSwap 11 = .ok (.getfield 34, 3) := by decide +kernel
theorem dX4_bestSwap_14 : decode cX4_bestSwap 14 = .ok (.getfield 40, 3) := by decide +kernel
theorem dX4_bestSwap_17 : decode cX4_bestSwap 17 = .ok (.if_icmp .ge 63, 3) := by decide +kernel
theorem dX4_bestSwap_20 : decode cX4_bestSwap 20 = .ok (.iload 5, 2) := by decide +kernel
theorem dX4_bestSwap_22 : decode cX4_bestSwap 22 = .ok (.iconst 1, 1) := by decide +kernel
theorem dX4_bestSwap_23 : decode cX4_bestSwap 23 = .ok (.iadd, 1) := by decide +kernel
theorem dX4_bestSwap_24 : decode cX4_bestSwap 24 = .ok (.istore 6, 2) := by decide +kernel
theorem dX4_bestSwap_26 : decode cX4_bestSwap 26 = .ok (.iload 6, 2) := by decide +kernel
theorem dX4_bestSwap_28 : decode cX4_bestSwap 28 = .ok (.aload_n 1, 1) := by decide +kernel
theorem dX4_bestSwap_29 : decode cX4_bestSwap 29 = .ok (.getfield 34, 3) := by decide +kernel
theorem dX4_bestSwap_32 : decode cX4_bestSwap 32 = .ok (.getfield 40, 3) := by decide +kernel
theorem dX4_bestSwap_35 : decode cX4_bestSwap 35 = .ok (.if_icmp .ge 39, 3) := by decide +kernel
theorem dX4_bestSwap_38 : decode cX4_bestSwap 38 = .ok (.aload_n 1, 1) := by decide +kernel
theorem dX4_bestSwap_39 : decode cX4_bestSwap 39 = .ok (.iload 5, 2) := by decide +kernel
theorem dX4_bestSwap_41 : decode cX4_bestSwap 41 = .ok (.iload 6, 2) := by decide +kernel
theorem dX4_bestSwap_43 : decode cX4_bestSwap 43 = .ok (.invokestatic 61, 3) := by decide +kernel
theorem dX4_bestSwap_46 : decode cX4_bestSwap 46 = .ok (.istore 7, 2) := by decide +kernel
theorem dX4_bestSwap_48 : decode cX4_bestSwap 48 = .ok (.iload 7, 2) := by decide +kernel
theorem dX4_bestSwap_50 : decode cX4_bestSwap 50 = .ok (.iload 4, 2) := by decide +kernel
theorem dX4_bestSwap_52 : decode cX4_bestSwap 52 = .ok (.if_icmp .le 16, 3) := by decide +kernel
theorem dX4_bestSwap_55 : decode cX4_bestSwap 55 = .ok (.iload 7, 2) := by decide +kernel
theorem dX4_bestSwap_57 : decode cX4_bestSwap 57 = .ok (.istore 4, 2) := by decide +kernel
theorem dX4_bestSwap_59 : decode cX4_bestSwap 59 = .ok (.bipush 6, 2) := by decide +kernel
theorem dX4_bestSwap_61 : decode cX4_bestSwap 61 = .ok (.iload 5, 2) := by decide +kernel
theorem dX4_bestSwap_63 : decode cX4_bestSwap 63 = .ok (.imul, 1) := by decide +kernel
theorem dX4_bestSwap_64 : decode cX4_bestSwap 64 = .ok (.iload 6, 2) := by decide +kernel
theorem dX4_bestSwap_66 : decode cX4_bestSwap 66 = .ok (.iadd, 1) := by decide +kernel
theorem dX4_bestSwap_67 : decode cX4_bestSwap 67 = .ok (.istore_n 3, 1) := by decide +kernel
theorem dX4_bestSwap_68 : decode cX4_bestSwap 68 = .ok (.iinc 6 1, 3) := by decide +kernel
theorem dX4_bestSwap_71 : decode cX4_bestSwap 71 = .ok (.goto (-45), 3) := by decide +kernel
theorem dX4_bestSwap_74 : decode cX4_bestSwap 74 = .ok (.iinc 5 1, 3) := by decide +kernel
theorem dX4_bestSwap_77 : decode cX4_bestSwap 77 = .ok (.goto (-69), 3) := by decide +kernel
theorem dX4_bestSwap_80 : decode cX4_bestSwap 80 = .ok (.iload_n 2, 1) := by decide +kernel
theorem dX4_bestSwap_81 : decode cX4_bestSwap 81 = .ok (.ifCond .eq 13, 3) := by decide +kernel
theorem dX4_bestSwap_84 : decode cX4_bestSwap 84 = .ok (.iload_n 3, 1) := by decide +kernel
theorem dX4_bestSwap_85 : decode cX4_bestSwap 85 = .ok (.iconst (-1), 1) := by decide +kernel
theorem dX4_bestSwap_86 : decode cX4_bestSwap 86 = .ok (.if_icmp .eq 8, 3) := by decide +kernel
theorem dX4_bestSwap_89 : decode cX4_bestSwap 89 = .ok (.iload 4, 2) := by decide +kernel
theorem dX4_bestSwap_91 : decode cX4_bestSwap 91 = .ok (.goto 4, 3) := by decide +kernel
theorem dX4_bestSwap_94 : decode cX4_bestSwap 94 = .ok (.iload_n 3, 1) := by decide +kernel
theorem dX4_bestSwap_95 : decode cX4_bestSwap 95 = .ok (.ireturn, 1) := by decide +kernel
theorem dX4_swapGain_0 : decode cX4_swapGain 0 = .ok (.aload_n 0, 1) := by decide +kernel
theorem dX4_swapGain_1 : decode cX4_swapGain 1 = .ok (.iload_n 1, 1) := by decide +kernel
theorem dX4_swapGain_2 : decode cX4_swapGain 2 = .ok (.invokevirtual 45, 3) := by decide +kernel
theorem dX4_swapGain_5 : decode cX4_swapGain 5 = .ok (.istore_n 3, 1) := by decide +kernel
theorem dX4_swapGain_6 : decode cX4_swapGain 6 = .ok (.aload_n 0, 1) := by decide +kernel
theorem dX4_swapGain_7 : decode cX4_swapGain 7 = .ok (.iload_n 2, 1) := by decide +kernel
theorem dX4_swapGain_8 : decode cX4_swapGain 8 = .ok (.invokevirtual 45, 3) := by decide +kernel
theorem dX4_swapGain_11 : decode cX4_swapGain 11 = .ok (.istore 4, 2) := by decide +kernel
theorem dX4_swapGain_13 : decode cX4_swapGain 13 = .ok (.iload_n 3, 1) := by decide +kernel
theorem dX4_swapGain_14 : decode cX4_swapGain 14 = .ok (.iconst (-1), 1) := by decide +kernel
theorem dX4_swapGain_15 : decode cX4_swapGain 15 = .ok (.if_icmp .eq 9, 3) := by decide +kernel
theorem dX4_swapGain_18 : decode cX4_swapGain 18 = .ok (.iload 4, 2) := by decide +kernel
theorem dX4_swapGain_20 : decode cX4_swapGain 20 = .ok (.iconst (-1), 1) := by decide +kernel
theorem dX4_swapGain_21 : decode cX4_swapGain 21 = .ok (.if_icmp .ne 5, 3) := by decide +kernel
theorem dX4_swapGain_24 : decode cX4_swapGain 24 = .ok (.iconst 0, 1) := by decide +kernel
theorem dX4_swapGain_25 : decode cX4_swapGain 25 = .ok (.ireturn, 1) := by decide +kernel
theorem dX4_swapGain_26 : decode cX4_swapGain 26 = .ok (.aload_n 0, 1) := by decide +kernel
theorem dX4_swapGain_27 : decode cX4_swapGain 27 = .ok (.iload_n 1, 1) := by decide +kernel
theorem dX4_swapGain_28 : decode cX4_swapGain 28 = .ok (.iload 4, 2) := by decide +kernel
theorem dX4_swapGain_30 : decode cX4_swapGain 30 = .ok (.invokevirtual 64, 3) := by decide +kernel
theorem dX4_swapGain_33 : decode cX4_swapGain 33 = .ok (.aload_n 0, 1) := by decide +kernel
theorem dX4_swapGain_34 : decode cX4_swapGain 34 = .ok (.iload_n 2, 1) := by decide +kernel
theorem dX4_swapGain_35 : decode cX4_swapGain 35 = .ok (.iload_n 3, 1) := by decide +kernel
theorem dX4_swapGain_36 : decode cX4_swapGain 36 = .ok (.invokevirtual 64, 3) := by decide +kernel
theorem dX4_swapGain_39 : decode cX4_swapGain 39 = .ok (.iadd, 1) := by decide +kernel
theorem dX4_swapGain_40 : decode cX4_swapGain 40 = .ok (.aload_n 0, 1) := by decide +kernel
theorem dX4_swapGain_41 : decode cX4_swapGain 41 = .ok (.iload_n 1, 1) := by decide +kernel
theorem dX4_swapGain_42 : decode cX4_swapGain 42 = .ok (.iload_n 3, 1) := by decide +kernel
theorem dX4_swapGain_43 : decode cX4_swapGain 43 = .ok (.invokevirtual 64, 3) := by decide +kernel
theorem dX4_swapGain_46 : decode cX4_swapGain 46 = .ok (.isub, 1) := by decide +kernel
theorem dX4_swapGain_47 : decode cX4_swapGain 47 = .ok (.aload_n 0, 1) := by decide +kernel
theorem dX4_swapGain_48 : decode cX4_swapGain 48 = .ok (.iload_n 2, 1) := by decide +kernel
theorem dX4_swapGain_49 : decode cX4_swapGain 49 = .ok (.iload 4, 2) := by decide +kernel
theorem dX4_swapGain_51 : decode cX4_swapGain 51 = .ok (.invokevirtual 64, 3) := by decide +kernel
theorem dX4_swapGain_54 : decode cX4_swapGain 54 = .ok (.isub, 1) := by decide +kernel
theorem dX4_swapGain_55 : decode cX4_swapGain 55 = .ok (.ireturn, 1) := by decide +kernel
theorem dX11_swap_0 : decode cX11_swap 0 = .ok (.aload_n 0, 1) := by decide +kernel
theorem dX11_swap_1 : decode cX11_swap 1 = .ok (.getfield 10, 3) := by decide +kernel
theorem dX11_swap_4 : decode cX11_swap 4 = .ok (.iload_n 1, 1) := by decide +kernel
theorem dX11_swap_5 : decode cX11_swap 5 = .ok (.invokevirtual 94, 3) := by decide +kernel
theorem dX11_swap_8 : decode cX11_swap 8 = .ok (.astore_n 3, 1) := by decide +kernel
theorem dX11_swap_9 : decode cX11_swap 9 = .ok (.aload_n 3, 1) := by decide +kernel
theorem dX11_swap_10 : decode cX11_swap 10 = .ok (.ifnonnull 7, 3) := by decide +kernel
theorem dX11_swap_13 : decode cX11_swap 13 = .ok (.iconst (-1), 1) := by decide +kernel
theorem dX11_swap_14 : decode cX11_swap 14 = .ok (.goto 12, 3) := by decide +kernel
theorem dX11_swap_17 : decode cX11_swap 17 = .ok (.aload_n 0, 1) := by decide +kernel
theorem dX11_swap_18 : decode cX11_swap 18 = .ok (.getfield 44, 3) := by decide +kernel
theorem dX11_swap_21 : decode cX11_swap 21 = .ok (.aload_n 3, 1) := by decide +kernel
theorem dX11_swap_22 : decode cX11_swap 22 = .ok (.iload_n 2, 1) := by decide +kernel
theorem dX11_swap_23 : decode cX11_swap 23 = .ok (.invokevirtual 297, 3) := by decide +kernel
theorem dX11_swap_26 : decode cX11_swap 26 = .ok (.ireturn, 1) := by decide +kernel
theorem dX12_swap_0 : decode cX12_swap 0 = .ok (.aload_n 0, 1) := by decide +kernel
theorem dX12_swap_1 : decode cX12_swap 1 = .ok (.iconst 0, 1) := by decide +kernel
theorem dX12_swap_2 : decode cX12_swap 2 = .ok (.putfield 103, 3) := by decide +kernel
theorem dX12_swap_5 : decode cX12_swap 5 = .ok (.aload_n 0, 1) := by decide +kernel
theorem dX12_swap_6 : decode cX12_swap 6 = .ok (.iload_n 1, 1) := by decide +kernel
theorem dX12_swap_7 : decode cX12_swap 7 = .ok (.invokevirtual 292, 3) := by decide +kernel
theorem dX12_swap_10 : decode cX12_swap 10 = .ok (.ifCond .ne 5, 3) := by decide +kernel
theorem dX12_swap_13 : decode cX12_swap 13 = .ok (.iconst (-1), 1) := by decide +kernel
theorem dX12_swap_14 : decode cX12_swap 14 = .ok (.ireturn, 1) := by decide +kernel
theorem dX12_swap_15 : decode cX12_swap 15 = .ok (.iconst (-1), 1) := by decide +kernel
theorem dX12_swap_16 : decode cX12_swap 16 = .ok (.istore_n 3, 1) := by decide +kernel
theorem dX12_swap_17 : decode cX12_swap 17 = .ok (.iconst 0, 1) := by decide +kernel
theorem dX12_swap_18 : decode cX12_swap 18 = .ok (.istore 4, 2) := by decide +kernel
theorem dX12_swap_20 : decode cX12_swap 20 = .ok (.iconst 0, 1) := by decide +kernel
theorem dX12_swap_21 : decode cX12_swap 21 = .ok (.istore 5, 2) := by decide +kernel
theorem dX12_swap_23 : decode cX12_swap 23 = .ok (.iload 5, 2) := by decide +kernel
theorem dX12_swap_25 : decode cX12_swap 25 = .ok (.bipush 36, 2) := by decide +kernel
theorem dX12_swap_27 : decode cX12_swap 27 = .ok (.if_icmp .ge 137, 3) := by decide +kernel
theorem dX12_swap_30 : decode cX12_swap 30 = .ok (.iload 5, 2) := by decide +kernel
theorem dX12_swap_32 : decode cX12_swap 32 = .ok (.bipush 6, 2) := by decide +kernel
theorem dX12_swap_34 : decode cX12_swap 34 = .ok (.idiv, 1) := by decide +kernel
theorem dX12_swap_35 : decode cX12_swap 35 = .ok (.istore 6, 2) := by decide +kernel
theorem dX12_swap_37 : decode cX12_swap 37 = .ok (.iload 5, 2) := by decide +kernel
theorem dX12_swap_39 : decode cX12_swap 39 = .ok (.bipush 6, 2) := by decide +kernel
theorem dX12_swap_41 : decode cX12_swap 41 = .ok (.irem, 1) := by decide +kernel
theorem dX12_swap_42 : decode cX12_swap 42 = .ok (.istore 7, 2) := by decide +kernel
theorem dX12_swap_44 : decode cX12_swap 44 = .ok (.iload 6, 2) := by decide +kernel
theorem dX12_swap_46 : decode cX12_swap 46 = .ok (.iload 7, 2) := by decide +kernel
theorem dX12_swap_48 : decode cX12_swap 48 = .ok (.if_icmp .ge 110, 3) := by decide +kernel
theorem dX12_swap_51 : decode cX12_swap 51 = .ok (.iload 7, 2) := by decide +kernel
theorem dX12_swap_53 : decode cX12_swap 53 = .ok (.aload_n 0, 1) := by decide +kernel
theorem dX12_swap_54 : decode cX12_swap 54 = .ok (.getfield 271, 3) := by decide +kernel
theorem dX12_swap_57 : decode cX12_swap 57 = .ok (.if_icmp .ge 101, 3) := by decide +kernel
theorem dX12_swap_60 : decode cX12_swap 60 = .ok (.aload_n 0, 1) := by decide +kernel
theorem dX12_swap_61 : decode cX12_swap 61 = .ok (.iload 6, 2) := by decide +kernel
theorem dX12_swap_63 : decode cX12_swap 63 = .ok (.invokevirtual 286, 3) := by decide +kernel
theorem dX12_swap_66 : decode cX12_swap 66 = .ok (.ifCond .eq 92, 3) := by decide +kernel
theorem dX12_swap_69 : decode cX12_swap 69 = .ok (.aload_n 0, 1) := by decide +kernel
theorem dX12_swap_70 : decode cX12_swap 70 = .ok (.iload 7, 2) := by decide +kernel
theorem dX12_swap_72 : decode cX12_swap 72 = .ok (.invokevirtual 286, 3) := by decide +kernel
theorem dX12_swap_75 : decode cX12_swap 75 = .ok (.ifCond .eq 83, 3) := by decide +kernel
theorem dX12_swap_78 : decode cX12_swap 78 = .ok (.aload_n 0, 1) := by decide +kernel
theorem dX12_swap_79 : decode cX12_swap 79 = .ok (.iload 6, 2) := by decide +kernel
theorem dX12_swap_81 : decode cX12_swap 81 = .ok (.aload_n 0, 1) := by decide +kernel
theorem dX12_swap_82 : decode cX12_swap 82 = .ok (.getfield 53, 3) := by decide +kernel
theorem dX12_swap_85 : decode cX12_swap 85 = .ok (.iload 7, 2) := by decide +kernel
theorem dX12_swap_87 : decode cX12_swap 87 = .ok (.iaload, 1) := by decide +kernel
theorem dX12_swap_88 : decode cX12_swap 88 = .ok (.invokevirtual 283, 3) := by decide +kernel
theorem dX12_swap_91 : decode cX12_swap 91 = .ok (.aload_n 0, 1) := by decide +kernel
theorem dX12_swap_92 : decode cX12_swap 92 = .ok (.iload 7, 2) := by decide +kernel
theorem dX12_swap_94 : decode cX12_swap 94 = .ok (.aload_n 0, 1) := by decide +kernel
theorem dX12_swap_95 : decode cX12_swap 95 = .ok (.getfield 53, 3) := by decide +kernel
theorem dX12_swap_98 : decode cX12_swap 98 = .ok (.iload 6, 2) := by decide +kernel
theorem dX12_swap_100 : decode cX12_swap 100 = .ok (.iaload, 1) := by decide +kernel
theorem dX12_swap_101 : decode cX12_swap 101 = .ok (.invokevirtual 283, 3) := by decide +kernel
theorem dX12_swap_104 : decode cX12_swap 104 = .ok (.iadd, 1) := by decide +kernel
theorem dX12_swap_105 : decode cX12_swap 105 = .ok (.aload_n 0, 1) := by decide +kernel
theorem dX12_swap_106 : decode cX12_swap 106 = .ok (.iload 6, 2) := by decide +kernel
theorem dX12_swap_108 : decode cX12_swap 108 = .ok (.aload_n 0, 1) := by decide +kernel
theorem dX12_swap_109 : decode cX12_swap 109 = .ok (.getfield 53, 3) := by decide +kernel
theorem dX12_swap_112 : decode cX12_swap 112 = .ok (.iload 6, 2) := by decide +kernel
theorem dX12_swap_114 : decode cX12_swap 114 = .ok (.iaload, 1) := by decide +kernel
theorem dX12_swap_115 : decode cX12_swap 115 = .ok (.invokevirtual 283, 3) := by decide +kernel
theorem dX12_swap_118 : decode cX12_swap 118 = .ok (.isub, 1) := by decide +kernel
theorem dX12_swap_119 : decode cX12_swap 119 = .ok (.aload_n 0, 1) := by decide +kernel
theorem dX12_swap_120 : decode cX12_swap 120 = .ok (.iload 7, 2) := by decide +kernel
theorem dX12_swap_122 : decode cX12_swap 122 = .ok (.aload_n 0, 1) := by decide +kernel
theorem dX12_swap_123 : decode cX12_swap 123 = .ok (.getfield 53, 3) := by decide +kernel
theorem dX12_swap_126 : decode cX12_swap 126 = .ok (.iload 7, 2) := by decide +kernel
theorem dX12_swap_128 : decode cX12_swap 128 = .ok (.iaload, 1) := by decide +kernel
theorem dX12_swap_129 : decode cX12_swap 129 = .ok (.invokevirtual 283, 3) := by decide +kernel
theorem dX12_swap_132 : decode cX12_swap 132 = .ok (.isub, 1) := by decide +kernel
theorem dX12_swap_133 : decode cX12_swap 133 = .ok (.istore 8, 2) := by decide +kernel
theorem dX12_swap_135 : decode cX12_swap 135 = .ok (.iload 8, 2) := by decide +kernel
theorem dX12_swap_137 : decode cX12_swap 137 = .ok (.iload 4, 2) := by decide +kernel
theorem dX12_swap_139 : decode cX12_swap 139 = .ok (.if_icmp .le 8, 3) := by decide +kernel
theorem dX12_swap_142 : decode cX12_swap 142 = .ok (.iload 5, 2) := by decide +kernel
theorem dX12_swap_144 : decode cX12_swap 144 = .ok (.goto 4, 3) := by decide +kernel
theorem dX12_swap_147 : decode cX12_swap 147 = .ok (.iload_n 3, 1) := by decide +kernel
theorem dX12_swap_148 : decode cX12_swap 148 = .ok (.istore_n 3, 1) := by decide +kernel
theorem dX12_swap_149 : decode cX12_swap 149 = .ok (.iload 4, 2) := by decide +kernel
theorem dX12_swap_151 : decode cX12_swap 151 = .ok (.iload 8, 2) := by decide +kernel
theorem dX12_swap_153 : decode cX12_swap 153 = .ok (.invokestatic 176, 3) := by decide +kernel
theorem dX12_swap_156 : decode cX12_swap 156 = .ok (.istore 4, 2) := by decide +kernel
theorem dX12_swap_158 : decode cX12_swap 158 = .ok (.iinc 5 1, 3) := by decide +kernel
theorem dX12_swap_161 : decode cX12_swap 161 = .ok (.goto (-138), 3) := by decide +kernel
theorem dX12_swap_164 : decode cX12_swap 164 = .ok (.iload_n 3, 1) := by decide +kernel
theorem dX12_swap_165 : decode cX12_swap 165 = .ok (.iconst (-1), 1) := by decide +kernel
theorem dX12_swap_166 : decode cX12_swap 166 = .ok (.if_icmp .eq 7, 3) := by decide +kernel
theorem dX12_swap_169 : decode cX12_swap 169 = .ok (.iload_n 2, 1) := by decide +kernel
theorem dX12_swap_170 : decode cX12_swap 170 = .ok (.ifCond .ne 7, 3) := by decide +kernel
theorem dX12_swap_173 : decode cX12_swap 173 = .ok (.iload_n 3, 1) := by decide +kernel
theorem dX12_swap_174 : decode cX12_swap 174 = .ok (.goto 5, 3) := by decide +kernel
theorem dX12_swap_177 : decode cX12_swap 177 = .ok (.iload 4, 2) := by decide +kernel
theorem dX12_swap_179 : decode cX12_swap 179 = .ok (.ireturn, 1) := by decide +kernel
theorem tf_4_34 : tFld TB0 4 34 = some (2, 0) := rfl
theorem tf_4_40 : tFld TB0 4 40 = some (0, 5) := rfl
set_option maxRecDepth 20000 in
theorem tm_4_45 : tMet TB0 4 45 = some (0, M_X2_upOf) := rfl
set_option maxRecDepth 20000 in
theorem tm_4_61 : tMet TB0 4 61 = some (1, M_X4_swapGain) := rfl
set_option maxRecDepth 20000 in
theorem tm_4_64 : tMet TB0 4 64 = some (0, M_X2_fitOf) := rfl
set_option maxRecDepth 20000 in
theorem tm_11_297 : tMet TB0 11 297 = some (0, M_X4_bestSwap) := rfl
/-! a forge with one number changed -/
def setG (g : Int → Int) (k v : Int) : Int → Int := fun i => if i = k then v else g i
theorem nd_set {g : Int → Int} {k v : Int} (h : 3 ≤ k) : nd (setG g k v) = nd g := if_neg (by omega)
theorem nu_set {g : Int → Int} {k v : Int} (h : 3 ≤ k) : nu (setG g k v) = nu g := if_neg (by omega)
theorem nc_set {g : Int → Int} {k v : Int} (h : 3 ≤ k) : nc (setG g k v) = nc g := if_neg (by omega)
theorem dl_set (g : Int → Int) (k v i : Int) : dl (setG g k v) i = if 3 + i = k then v else dl g i := rfl
theorem ds_set (g : Int → Int) (k v i : Int) : ds (setG g k v) i = if 9 + i = k then v else ds g i := rfl
theorem de_set (g : Int → Int) (k v i : Int) : de (setG g k v) i = if 15 + i = k then v else de g i := rfl
theorem dh_set (g : Int → Int) (k v i : Int) : dh (setG g k v) i = if 21 + i = k then v else dh g i := rfl
theorem dm_set (g : Int → Int) (k v i : Int) : dm (setG g k v) i = if 27 + i = k then v else dm g i := rfl
theorem ul_set (g : Int → Int) (k v i : Int) : ul (setG g k v) i = if 33 + i = k then v else ul g i := rfl
theorem us_set (g : Int → Int) (k v i : Int) : us (setG g k v) i = if 39 + i = k then v else us g i := rfl
theorem ue_set (g : Int → Int) (k v i : Int) : ue (setG g k v) i = if 45 + i = k then v else ue g i := rfl
theorem uh_set (g : Int → Int) (k v i : Int) : uh (setG g k v) i = if 51 + i = k then v else uh g i := rfl
theorem um_set (g : Int → Int) (k v i : Int) : um (setG g k v) i = if 57 + i = k then v else um g i := rfl
theorem ha_set (g : Int → Int) (k v i : Int) : ha (setG g k v) i = if 63 + i = k then v else ha g i := rfl
theorem pr_set (g : Int → Int) (k v i : Int) : pr (setG g k v) i = if 69 + i = k then v else pr g i := rfl
theorem dy_set (g : Int → Int) (k v i : Int) : dy (setG g k v) i = if 75 + i = k then v else dy g i := rfl
theorem wfB_dl {g : Int → Int} (w : wfB g) {d v : Int} (h0 : 0 ≤ d) (h1 : d < nd g) (v0 : 1 ≤ v) (v1 : v ≤ 20) : wfB (setG g (3 + d) v) := by
  have wn0 := wB_n w
  refine ⟨by rw [nd_set (by omega)]; exact w.1, by rw [nu_set (by omega)]; exact w.2.1, ?_, ?_⟩
  · intro i a c
    rw [nd_set (by omega)] at c
    have q := wB_d w a c
    have wn := wB_n w
    rw [dl_set, ds_set, de_set, dh_set, if_neg (show ¬ 9 + i = 3 + d by omega), if_neg (show ¬ 15 + i = 3 + d by omega), if_neg (show ¬ 21 + i = 3 + d by omega)]
    split <;> omega
  · intro i a c
    rw [nu_set (by omega)] at c
    have q := wB_u w a c
    have wn := wB_n w
    rw [ul_set, us_set, ue_set, uh_set, if_neg (show ¬ 33 + i = 3 + d by omega), if_neg (show ¬ 39 + i = 3 + d by omega), if_neg (show ¬ 45 + i = 3 + d by omega), if_neg (show ¬ 51 + i = 3 + d by omega)]
    exact q
theorem rB_setdl {h h1 : mH} {m : Nat} {g : Int → Int} (H : rB h m g) {d v : Int} (e : h1 = sI h (m + 11) d v) (h0 : 0 ≤ d) (h1' : d < nd g) (v0 : 1 ≤ v) (v1 : v ≤ 20) : rB h1 m (setG g (3 + d) v) := by
  have wn0 := rB_n H
  have f := frm_1 e
  refine ⟨wfB_dl (rB_w H) h0 h1' v0 v1, ⟨?_, ?_⟩, ⟨?_, ?_⟩, ⟨?_, ?_⟩, ⟨?_, ?_⟩, ?_, ?_⟩
  · rw [nd_set (by omega), frm_r f (by omega)]; exact rB_nd H
  · rw [nu_set (by omega), frm_r f (by omega)]; exact rB_nu H
  · intro i a c
    rw [nd_set (by omega)] at c
    rw [dl_set]
    by_cases q : i = d
    · subst q; rw [if_pos rfl]; exact rI_eq e ⟨by omega, by omega⟩
    · rw [if_neg (by omega), rI_ne e (by omega)]; exact rB_dl H a c
  · intro i a c
    rw [nu_set (by omega)] at c
    rw [ul_set, if_neg (by omega), frm_r f (by omega)]; exact rB_ul H a c
  · intro i a c
    rw [nd_set (by omega)] at c
    rw [ds_set, if_neg (by omega), frm_r f (by omega)]; exact rB_ds H a c
  · intro i a c
    rw [nu_set (by omega)] at c
    rw [us_set, if_neg (by omega), frm_r f (by omega)]; exact rB_us H a c
  · intro i a c
    rw [nd_set (by omega)] at c
    rw [de_set, if_neg (by omega), frm_r f (by omega)]; exact rB_de H a c
  · intro i a c
    rw [nu_set (by omega)] at c
    rw [ue_set, if_neg (by omega), frm_r f (by omega)]; exact rB_ue H a c
  · intro i a c
    rw [nd_set (by omega)] at c
    rw [dh_set, if_neg (by omega), frm_r f (by omega)]; exact rB_dh H a c
  · intro i a c
    rw [nu_set (by omega)] at c
    rw [uh_set, if_neg (by omega), frm_r f (by omega)]; exact rB_uh H a c
theorem wfM_dl {g : Int → Int} (w : wfM g) {d v : Int} (h0 : 0 ≤ d) (h1 : d < 6) : wfM (setG g (3 + d) v) := by
  refine ⟨fun i a c => ?_, fun i a c => ?_⟩
  · have q := wM_d w a c
    rw [nd_set (by omega), nu_set (by omega), dm_set, if_neg (by omega)]
    rcases q with q | q
    · exact Or.inl q
    · refine Or.inr ⟨q.1, q.2.1, q.2.2.1, ?_⟩
      rw [um_set, if_neg (by omega)]; exact q.2.2.2
  · have q := wM_u w a c
    rw [nd_set (by omega), nu_set (by omega), um_set, if_neg (by omega)]
    rcases q with q | q
    · exact Or.inl q
    · refine Or.inr ⟨q.1, q.2.1, q.2.2.1, ?_⟩
      rw [dm_set, if_neg (by omega)]; exact q.2.2.2
theorem wfC_dl {g : Int → Int} (w : wfC g) {d v : Int} (h0 : 0 ≤ d) (h1 : d < 6) : wfC (setG g (3 + d) v) := by
  refine ⟨by rw [nc_set (by omega)]; exact w.1, fun i a c => ?_⟩
  rw [nc_set (by omega)] at c
  rw [ha_set, pr_set, dy_set, if_neg (by omega), if_neg (by omega), if_neg (by omega)]
  exact wC_c w a c
theorem rM_setdl {h : mH} {m : Nat} {g : Int → Int} (H : rM h m g) {d v : Int} (h0 : 0 ≤ d) (h1 : d < 6) : rM h m (setG g (3 + d) v) := ⟨wfM_dl H.1 h0 h1, fun i a c => by rw [dm_set, um_set, if_neg (by omega), if_neg (by omega)]; exact H.2 i a c⟩
theorem rC_setdl {h : mH} {m : Nat} {g : Int → Int} (H : rC h m g) {d v : Int} (h0 : 0 ≤ d) (h1 : d < 6) : rC h m (setG g (3 + d) v) := ⟨wfC_dl H.1 h0 h1, by rw [nc_set (by omega)]; exact H.2.1, H.2.2.1, fun i a c => by rw [nc_set (by omega)] at c; rw [ha_set, pr_set, dy_set, if_neg (by omega), if_neg (by omega), if_neg (by omega)]; exact H.2.2.2 i a c⟩
theorem wfB_de {g : Int → Int} (w : wfB g) {d v : Int} (h0 : 0 ≤ d) (h1 : d < nd g) (v0 : 0 ≤ v) (v1 : v ≤ 20) : wfB (setG g (15 + d) v) := by
  have wn0 := wB_n w
  refine ⟨by rw [nd_set (by omega)]; exact w.1, by rw [nu_set (by omega)]; exact w.2.1, ?_, ?_⟩
  · intro i a c
    rw [nd_set (by omega)] at c
    have q := wB_d w a c
    have wn := wB_n w
    rw [dl_set, ds_set, de_set, dh_set, if_neg (show ¬ 3 + i = 15 + d by omega), if_neg (show ¬ 9 + i = 15 + d by omega), if_neg (show ¬ 21 + i = 15 + d by omega)]
    split <;> omega
  · intro i a c
    rw [nu_set (by omega)] at c
    have q := wB_u w a c
    have wn := wB_n w
    rw [ul_set, us_set, ue_set, uh_set, if_neg (show ¬ 33 + i = 15 + d by omega), if_neg (show ¬ 39 + i = 15 + d by omega), if_neg (show ¬ 45 + i = 15 + d by omega), if_neg (show ¬ 51 + i = 15 + d by omega)]
    exact q
theorem rB_setde {h h1 : mH} {m : Nat} {g : Int → Int} (H : rB h m g) {d v : Int} (e : h1 = sI h (m + 13) d v) (h0 : 0 ≤ d) (h1' : d < nd g) (v0 : 0 ≤ v) (v1 : v ≤ 20) : rB h1 m (setG g (15 + d) v) := by
  have wn0 := rB_n H
  have f := frm_1 e
  refine ⟨wfB_de (rB_w H) h0 h1' v0 v1, ⟨?_, ?_⟩, ⟨?_, ?_⟩, ⟨?_, ?_⟩, ⟨?_, ?_⟩, ?_, ?_⟩
  · rw [nd_set (by omega), frm_r f (by omega)]; exact rB_nd H
  · rw [nu_set (by omega), frm_r f (by omega)]; exact rB_nu H
  · intro i a c
    rw [nd_set (by omega)] at c
    rw [dl_set, if_neg (by omega), frm_r f (by omega)]; exact rB_dl H a c
  · intro i a c
    rw [nu_set (by omega)] at c
    rw [ul_set, if_neg (by omega), frm_r f (by omega)]; exact rB_ul H a c
  · intro i a c
    rw [nd_set (by omega)] at c
    rw [ds_set, if_neg (by omega), frm_r f (by omega)]; exact rB_ds H a c
  · intro i a c
    rw [nu_set (by omega)] at c
    rw [us_set, if_neg (by omega), frm_r f (by omega)]; exact rB_us H a c
  · intro i a c
    rw [nd_set (by omega)] at c
    rw [de_set]
    by_cases q : i = d
    · subst q; rw [if_pos rfl]; exact rI_eq e ⟨by omega, by omega⟩
    · rw [if_neg (by omega), rI_ne e (by omega)]; exact rB_de H a c
  · intro i a c
    rw [nu_set (by omega)] at c
    rw [ue_set, if_neg (by omega), frm_r f (by omega)]; exact rB_ue H a c
  · intro i a c
    rw [nd_set (by omega)] at c
    rw [dh_set, if_neg (by omega), frm_r f (by omega)]; exact rB_dh H a c
  · intro i a c
    rw [nu_set (by omega)] at c
    rw [uh_set, if_neg (by omega), frm_r f (by omega)]; exact rB_uh H a c
theorem wfM_de {g : Int → Int} (w : wfM g) {d v : Int} (h0 : 0 ≤ d) (h1 : d < 6) : wfM (setG g (15 + d) v) := by
  refine ⟨fun i a c => ?_, fun i a c => ?_⟩
  · have q := wM_d w a c
    rw [nd_set (by omega), nu_set (by omega), dm_set, if_neg (by omega)]
    rcases q with q | q
    · exact Or.inl q
    · refine Or.inr ⟨q.1, q.2.1, q.2.2.1, ?_⟩
      rw [um_set, if_neg (by omega)]; exact q.2.2.2
  · have q := wM_u w a c
    rw [nd_set (by omega), nu_set (by omega), um_set, if_neg (by omega)]
    rcases q with q | q
    · exact Or.inl q
    · refine Or.inr ⟨q.1, q.2.1, q.2.2.1, ?_⟩
      rw [dm_set, if_neg (by omega)]; exact q.2.2.2
theorem wfC_de {g : Int → Int} (w : wfC g) {d v : Int} (h0 : 0 ≤ d) (h1 : d < 6) : wfC (setG g (15 + d) v) := by
  refine ⟨by rw [nc_set (by omega)]; exact w.1, fun i a c => ?_⟩
  rw [nc_set (by omega)] at c
  rw [ha_set, pr_set, dy_set, if_neg (by omega), if_neg (by omega), if_neg (by omega)]
  exact wC_c w a c
theorem rM_setde {h : mH} {m : Nat} {g : Int → Int} (H : rM h m g) {d v : Int} (h0 : 0 ≤ d) (h1 : d < 6) : rM h m (setG g (15 + d) v) := ⟨wfM_de H.1 h0 h1, fun i a c => by rw [dm_set, um_set, if_neg (by omega), if_neg (by omega)]; exact H.2 i a c⟩
theorem rC_setde {h : mH} {m : Nat} {g : Int → Int} (H : rC h m g) {d v : Int} (h0 : 0 ≤ d) (h1 : d < 6) : rC h m (setG g (15 + d) v) := ⟨wfC_de H.1 h0 h1, by rw [nc_set (by omega)]; exact H.2.1, H.2.2.1, fun i a c => by rw [nc_set (by omega)] at c; rw [ha_set, pr_set, dy_set, if_neg (by omega), if_neg (by omega), if_neg (by omega)]; exact H.2.2.2 i a c⟩
theorem wfB_ul {g : Int → Int} (w : wfB g) {d v : Int} (h0 : 0 ≤ d) (h1 : d < nu g) (v0 : 1 ≤ v) (v1 : v ≤ 20) : wfB (setG g (33 + d) v) := by
  have wn0 := wB_n w
  refine ⟨by rw [nd_set (by omega)]; exact w.1, by rw [nu_set (by omega)]; exact w.2.1, ?_, ?_⟩
  · intro i a c
    rw [nd_set (by omega)] at c
    have q := wB_d w a c
    have wn := wB_n w
    rw [dl_set, ds_set, de_set, dh_set, if_neg (show ¬ 3 + i = 33 + d by omega), if_neg (show ¬ 9 + i = 33 + d by omega), if_neg (show ¬ 15 + i = 33 + d by omega), if_neg (show ¬ 21 + i = 33 + d by omega)]
    exact q
  · intro i a c
    rw [nu_set (by omega)] at c
    have q := wB_u w a c
    have wn := wB_n w
    rw [ul_set, us_set, ue_set, uh_set, if_neg (show ¬ 39 + i = 33 + d by omega), if_neg (show ¬ 45 + i = 33 + d by omega), if_neg (show ¬ 51 + i = 33 + d by omega)]
    split <;> omega
theorem rB_setul {h h1 : mH} {m : Nat} {g : Int → Int} (H : rB h m g) {d v : Int} (e : h1 = sI h (m + 11) (6 + d) v) (h0 : 0 ≤ d) (h1' : d < nu g) (v0 : 1 ≤ v) (v1 : v ≤ 20) : rB h1 m (setG g (33 + d) v) := by
  have wn0 := rB_n H
  have f := frm_1 e
  refine ⟨wfB_ul (rB_w H) h0 h1' v0 v1, ⟨?_, ?_⟩, ⟨?_, ?_⟩, ⟨?_, ?_⟩, ⟨?_, ?_⟩, ?_, ?_⟩
  · rw [nd_set (by omega), frm_r f (by omega)]; exact rB_nd H
  · rw [nu_set (by omega), frm_r f (by omega)]; exact rB_nu H
  · intro i a c
    rw [nd_set (by omega)] at c
    rw [dl_set, if_neg (by omega), frm_r f (by omega)]; exact rB_dl H a c
  · intro i a c
    rw [nu_set (by omega)] at c
    rw [ul_set]
    by_cases q : i = d
    · subst q; rw [if_pos rfl]; exact rI_eq e ⟨by omega, by omega⟩
    · rw [if_neg (by omega), rI_ne e (by omega)]; exact rB_ul H a c
  · intro i a c
    rw [nd_set (by omega)] at c
    rw [ds_set, if_neg (by omega), frm_r f (by omega)]; exact rB_ds H a c
  · intro i a c
    rw [nu_set (by omega)] at c
    rw [us_set, if_neg (by omega), frm_r f (by omega)]; exact rB_us H a c
  · intro i a c
    rw [nd_set (by omega)] at c
    rw [de_set, if_neg (by omega), frm_r f (by omega)]; exact rB_de H a c
  · intro i a c
    rw [nu_set (by omega)] at c
    rw [ue_set, if_neg (by omega), frm_r f (by omega)]; exact rB_ue H a c
  · intro i a c
    rw [nd_set (by omega)] at c
    rw [dh_set, if_neg (by omega), frm_r f (by omega)]; exact rB_dh H a c
  · intro i a c
    rw [nu_set (by omega)] at c
    rw [uh_set, if_neg (by omega), frm_r f (by omega)]; exact rB_uh H a c
theorem wfM_ul {g : Int → Int} (w : wfM g) {d v : Int} (h0 : 0 ≤ d) (h1 : d < 6) : wfM (setG g (33 + d) v) := by
  refine ⟨fun i a c => ?_, fun i a c => ?_⟩
  · have q := wM_d w a c
    rw [nd_set (by omega), nu_set (by omega), dm_set, if_neg (by omega)]
    rcases q with q | q
    · exact Or.inl q
    · refine Or.inr ⟨q.1, q.2.1, q.2.2.1, ?_⟩
      rw [um_set, if_neg (by omega)]; exact q.2.2.2
  · have q := wM_u w a c
    rw [nd_set (by omega), nu_set (by omega), um_set, if_neg (by omega)]
    rcases q with q | q
    · exact Or.inl q
    · refine Or.inr ⟨q.1, q.2.1, q.2.2.1, ?_⟩
      rw [dm_set, if_neg (by omega)]; exact q.2.2.2
theorem wfC_ul {g : Int → Int} (w : wfC g) {d v : Int} (h0 : 0 ≤ d) (h1 : d < 6) : wfC (setG g (33 + d) v) := by
  refine ⟨by rw [nc_set (by omega)]; exact w.1, fun i a c => ?_⟩
  rw [nc_set (by omega)] at c
  rw [ha_set, pr_set, dy_set, if_neg (by omega), if_neg (by omega), if_neg (by omega)]
  exact wC_c w a c
theorem rM_setul {h : mH} {m : Nat} {g : Int → Int} (H : rM h m g) {d v : Int} (h0 : 0 ≤ d) (h1 : d < 6) : rM h m (setG g (33 + d) v) := ⟨wfM_ul H.1 h0 h1, fun i a c => by rw [dm_set, um_set, if_neg (by omega), if_neg (by omega)]; exact H.2 i a c⟩
theorem rC_setul {h : mH} {m : Nat} {g : Int → Int} (H : rC h m g) {d v : Int} (h0 : 0 ≤ d) (h1 : d < 6) : rC h m (setG g (33 + d) v) := ⟨wfC_ul H.1 h0 h1, by rw [nc_set (by omega)]; exact H.2.1, H.2.2.1, fun i a c => by rw [nc_set (by omega)] at c; rw [ha_set, pr_set, dy_set, if_neg (by omega), if_neg (by omega), if_neg (by omega)]; exact H.2.2.2 i a c⟩
theorem wfB_ue {g : Int → Int} (w : wfB g) {d v : Int} (h0 : 0 ≤ d) (h1 : d < nu g) (v0 : 0 ≤ v) (v1 : v ≤ 20) : wfB (setG g (45 + d) v) := by
  have wn0 := wB_n w
  refine ⟨by rw [nd_set (by omega)]; exact w.1, by rw [nu_set (by omega)]; exact w.2.1, ?_, ?_⟩
  · intro i a c
    rw [nd_set (by omega)] at c
    have q := wB_d w a c
    have wn := wB_n w
    rw [dl_set, ds_set, de_set, dh_set, if_neg (show ¬ 3 + i = 45 + d by omega), if_neg (show ¬ 9 + i = 45 + d by omega), if_neg (show ¬ 15 + i = 45 + d by omega), if_neg (show ¬ 21 + i = 45 + d by omega)]
    exact q
  · intro i a c
    rw [nu_set (by omega)] at c
    have q := wB_u w a c
    have wn := wB_n w
    rw [ul_set, us_set, ue_set, uh_set, if_neg (show ¬ 33 + i = 45 + d by omega), if_neg (show ¬ 39 + i = 45 + d by omega), if_neg (show ¬ 51 + i = 45 + d by omega)]
    split <;> omega
theorem rB_setue {h h1 : mH} {m : Nat} {g : Int → Int} (H : rB h m g) {d v : Int} (e : h1 = sI h (m + 13) (6 + d) v) (h0 : 0 ≤ d) (h1' : d < nu g) (v0 : 0 ≤ v) (v1 : v ≤ 20) : rB h1 m (setG g (45 + d) v) := by
  have wn0 := rB_n H
  have f := frm_1 e
  refine ⟨wfB_ue (rB_w H) h0 h1' v0 v1, ⟨?_, ?_⟩, ⟨?_, ?_⟩, ⟨?_, ?_⟩, ⟨?_, ?_⟩, ?_, ?_⟩
  · rw [nd_set (by omega), frm_r f (by omega)]; exact rB_nd H
  · rw [nu_set (by omega), frm_r f (by omega)]; exact rB_nu H
  · intro i a c
    rw [nd_set (by omega)] at c
    rw [dl_set, if_neg (by omega), frm_r f (by omega)]; exact rB_dl H a c
  · intro i a c
    rw [nu_set (by omega)] at c
    rw [ul_set, if_neg (by omega), frm_r f (by omega)]; exact rB_ul H a c
  · intro i a c
    rw [nd_set (by omega)] at c
    rw [ds_set, if_neg (by omega), frm_r f (by omega)]; exact rB_ds H a c
  · intro i a c
    rw [nu_set (by omega)] at c
    rw [us_set, if_neg (by omega), frm_r f (by omega)]; exact rB_us H a c
  · intro i a c
    rw [nd_set (by omega)] at c
    rw [de_set, if_neg (by omega), frm_r f (by omega)]; exact rB_de H a c
  · intro i a c
    rw [nu_set (by omega)] at c
    rw [ue_set]
    by_cases q : i = d
    · subst q; rw [if_pos rfl]; exact rI_eq e ⟨by omega, by omega⟩
    · rw [if_neg (by omega), rI_ne e (by omega)]; exact rB_ue H a c
  · intro i a c
    rw [nd_set (by omega)] at c
    rw [dh_set, if_neg (by omega), frm_r f (by omega)]; exact rB_dh H a c
  · intro i a c
    rw [nu_set (by omega)] at c
    rw [uh_set, if_neg (by omega), frm_r f (by omega)]; exact rB_uh H a c
theorem wfM_ue {g : Int → Int} (w : wfM g) {d v : Int} (h0 : 0 ≤ d) (h1 : d < 6) : wfM (setG g (45 + d) v) := by
  refine ⟨fun i a c => ?_, fun i a c => ?_⟩
  · have q := wM_d w a c
    rw [nd_set (by omega), nu_set (by omega), dm_set, if_neg (by omega)]
    rcases q with q | q
    · exact Or.inl q
    · refine Or.inr ⟨q.1, q.2.1, q.2.2.1, ?_⟩
      rw [um_set, if_neg (by omega)]; exact q.2.2.2
  · have q := wM_u w a c
    rw [nd_set (by omega), nu_set (by omega), um_set, if_neg (by omega)]
    rcases q with q | q
    · exact Or.inl q
    · refine Or.inr ⟨q.1, q.2.1, q.2.2.1, ?_⟩
      rw [dm_set, if_neg (by omega)]; exact q.2.2.2
theorem wfC_ue {g : Int → Int} (w : wfC g) {d v : Int} (h0 : 0 ≤ d) (h1 : d < 6) : wfC (setG g (45 + d) v) := by
  refine ⟨by rw [nc_set (by omega)]; exact w.1, fun i a c => ?_⟩
  rw [nc_set (by omega)] at c
  rw [ha_set, pr_set, dy_set, if_neg (by omega), if_neg (by omega), if_neg (by omega)]
  exact wC_c w a c
theorem rM_setue {h : mH} {m : Nat} {g : Int → Int} (H : rM h m g) {d v : Int} (h0 : 0 ≤ d) (h1 : d < 6) : rM h m (setG g (45 + d) v) := ⟨wfM_ue H.1 h0 h1, fun i a c => by rw [dm_set, um_set, if_neg (by omega), if_neg (by omega)]; exact H.2 i a c⟩
theorem rC_setue {h : mH} {m : Nat} {g : Int → Int} (H : rC h m g) {d v : Int} (h0 : 0 ≤ d) (h1 : d < 6) : rC h m (setG g (45 + d) v) := ⟨wfC_ue H.1 h0 h1, by rw [nc_set (by omega)]; exact H.2.1, H.2.2.1, fun i a c => by rw [nc_set (by omega)] at c; rw [ha_set, pr_set, dy_set, if_neg (by omega), if_neg (by omega), if_neg (by omega)]; exact H.2.2.2 i a c⟩
/-! SWAP -/
def swS (g : Int → Int) (k : Int) : Int := fitZ g (k / 6) (upv g (k % 6)) + fitZ g (k % 6) (upv g (k / 6)) - fitZ g (k / 6) (upv g (k / 6)) - fitZ g (k % 6) (upv g (k % 6))
abbrev swC (g : Int → Int) (k : Int) : Prop := k / 6 < k % 6 ∧ k % 6 < nd g ∧ upv g (k / 6) ≠ -1 ∧ upv g (k % 6) ≠ -1 ∧ 0 < swS g k
def swG (g : Int → Int) (a b : Int) : Int := if upv g a = -1 ∨ upv g b = -1 then 0 else fitZ g a (upv g b) + fitZ g b (upv g a) - fitZ g a (upv g a) - fitZ g b (upv g b)
theorem swG_b (g : Int → Int) (a b : Int) : -60 ≤ swG g a b ∧ swG g a b ≤ 60 := by
  have h1 := fitZ_b g a (upv g b)
  have h2 := fitZ_b g b (upv g a)
  have h3 := fitZ_b g a (upv g a)
  have h4 := fitZ_b g b (upv g b)
  unfold swG; split <;> omega
theorem swG_k {g : Int → Int} {i j : Int} (h0 : 0 ≤ j) (h1 : j < 6) (hp : upv g i ≠ -1 ∧ upv g j ≠ -1) : swS g (6 * i + j) = swG g i j := by
  have e := lon_i (i := i) h0 h1
  unfold swS swG
  rw [e.1, e.2, if_neg (by omega)]
theorem sw_step {g : Int → Int} {i j b s : Int} (J3 : fmax (swC g) (swS g) (6 * i + j) b) (J4 : (b = -1 ∧ s = 0) ∨ (b ≠ -1 ∧ s = swS g b)) (h0 : 0 ≤ j) (h1 : j < nd g) (h6 : nd g ≤ 6) (hi : 0 ≤ i) (hij : i < j) : (s < swG g i j → 0 ≤ s → fmax (swC g) (swS g) (6 * i + j + 1) (6 * i + j) ∧ swG g i j = swS g (6 * i + j)) ∧ (swG g i j ≤ s → fmax (swC g) (swS g) (6 * i + j + 1) b) := by
  have e := lon_i (i := i) h0 (show j < 6 by omega)
  refine ⟨fun q p => ?_, fun q => ?_⟩
  · have hp : upv g i ≠ -1 ∧ upv g j ≠ -1 := Decidable.byContradiction (fun z => by
      have : swG g i j = 0 := if_pos (by omega)
      omega)
    have eS := swG_k (g := g) (i := i) h0 (by omega) hp
    refine ⟨fmax_new J3 (by omega) ?_ (by omega), eS.symm⟩
    show _ / 6 < _ ∧ _
    rw [e.1, e.2, eS]
    exact ⟨hij, h1, hp.1, hp.2, by omega⟩
  · by_cases hc : swC g (6 * i + j)
    · have hc0 := hc
      obtain ⟨c1, c2, c3, c4, c5⟩ := hc
      rw [e.1] at c3
      rw [e.2] at c4
      have eS := swG_k (g := g) (i := i) h0 (by omega) ⟨c3, c4⟩
      by_cases hb : b = -1
      · exfalso; omega
      · exact fmax_keep J3 hb (by omega)
    · exact fmax_no J3 hc
set_option maxHeartbeats 400000 in
theorem zp_X4_swapGain {ad : mA} {dd : Nat} {h : mH} {Q : mQ} {f : Nat} {g : Int → Int} (hk : fgk h f) (HF : isF h f g)  (a : Int) (a_r : -2147483648 ≤ a ∧ a < 2147483648) (c : Int) (c_r : -2147483648 ≤ c ∧ c < 2147483648) (p1 : 0 ≤ a ∧ a < nd g) (p2 : 0 ≤ c ∧ c < nd g) (kq : Q (some (.int (zI (swG g a c)))) h) : mCal TB0 ad (dd + 3) M_X4_swapGain [.ref f, .int (zI a), .int (zI c)] h 0 0 Q := by
  refine ⟨Nat.le_of_ble_eq_true rfl, ?_⟩
  show mEv TB0 ad M_X4_swapGain (dd + 3) (0, 0) (mCal TB0 ad (dd + 2)) (fun v h' z => z.1 = 0 ∧ Q v h') 0 [some (.ref f), some (.int (zI a)), some (.int (zI c)), none, none] [] h (0, 0)
  have w1 := isF_n HF
  have w2 := isF_nd HF
  have w3 := isF_nu HF
  have w4 := isF_nc HF
  have W := isF_w HF
  refine e_aload_n dX4_swapGain_0 rfl ?_
  refine e_iload_n dX4_swapGain_1 rfl ?_
  refine e_callV [.int _] dX4_swapGain_2 tm_4_45 rfl (Nat.le_of_ble_eq_true rfl) (congrArg Prod.fst (fg_s0 hk)) (Nat.le_of_ble_eq_true rfl) (Nat.le_refl _) (Nat.le_refl _) rfl (zp_X2_upOf hk HF a ⟨by omega, by omega⟩ ?_)
  have y1 := upv_s (isF_w HF) a
  refine e_istore_n (L' := [_, _, _, _, _]) dX4_swapGain_5 (Nat.le_of_ble_eq_true rfl) rfl ?_
  refine e_aload_n dX4_swapGain_6 rfl ?_
  refine e_iload_n dX4_swapGain_7 rfl ?_
  refine e_callV [.int _] dX4_swapGain_8 tm_4_45 rfl (Nat.le_of_ble_eq_true rfl) (congrArg Prod.fst (fg_s0 hk)) (Nat.le_of_ble_eq_true rfl) (Nat.le_refl _) (Nat.le_refl _) rfl (zp_X2_upOf hk HF c ⟨by omega, by omega⟩ ?_)
  have y2 := upv_s (isF_w HF) c
  refine e_istore (L' := [_, _, _, _, _]) dX4_swapGain_11 (Nat.le_of_ble_eq_true rfl) rfl ?_
  refine e_iload_n dX4_swapGain_13 rfl ?_
  refine z_iconst (-1) dX4_swapGain_14 rfl ?_
  refine z_icmp_eq 24 dX4_swapGain_15 rfl ⟨by omega, by omega⟩ ⟨by omega, by omega⟩ (fun c3 => ?_) (fun c3 => ?_)
  · skip
    refine z_iconst (0) dX4_swapGain_24 rfl ?_
    refine z_iret dX4_swapGain_25 rfl ⟨rfl, ?_⟩
    refine z_q kq ?_
    unfold swG; first | (rw [if_pos (by omega)]) | (rw [if_neg (by omega)]; omega)
  · skip
    refine e_iload dX4_swapGain_18 rfl ?_
    refine z_iconst (-1) dX4_swapGain_20 rfl ?_
    refine z_icmp_ne 26 dX4_swapGain_21 rfl ⟨by omega, by omega⟩ ⟨by omega, by omega⟩ (fun c4 => ?_) (fun c4 => ?_)
    · skip
      refine e_aload_n dX4_swapGain_26 rfl ?_
      refine e_iload_n dX4_swapGain_27 rfl ?_
      refine e_iload dX4_swapGain_28 rfl ?_
      refine e_callV [.int _, .int _] dX4_swapGain_30 tm_4_64 rfl (Nat.le_of_ble_eq_true rfl) (congrArg Prod.fst (fg_s0 hk)) (Nat.le_of_ble_eq_true rfl) (Nat.le_refl _) (Nat.le_refl _) rfl (zp_X2_fitOf hk HF a ⟨by omega, by omega⟩ (upv g c) ⟨by omega, by omega⟩ ?_)
      have y5 := fitC_s g a (upv g c)
      refine e_aload_n dX4_swapGain_33 rfl ?_
      refine e_iload_n dX4_swapGain_34 rfl ?_
      refine e_iload_n dX4_swapGain_35 rfl ?_
      refine e_callV [.int _, .int _] dX4_swapGain_36 tm_4_64 rfl (Nat.le_of_ble_eq_true rfl) (congrArg Prod.fst (fg_s0 hk)) (Nat.le_of_ble_eq_true rfl) (Nat.le_refl _) (Nat.le_refl _) rfl (zp_X2_fitOf hk HF c ⟨by omega, by omega⟩ (upv g a) ⟨by omega, by omega⟩ ?_)
      have y6 := fitC_s g c (upv g a)
      refine z_iadd dX4_swapGain_39 ?_
      refine e_aload_n dX4_swapGain_40 rfl ?_
      refine e_iload_n dX4_swapGain_41 rfl ?_
      refine e_iload_n dX4_swapGain_42 rfl ?_
      refine e_callV [.int _, .int _] dX4_swapGain_43 tm_4_64 rfl (Nat.le_of_ble_eq_true rfl) (congrArg Prod.fst (fg_s0 hk)) (Nat.le_of_ble_eq_true rfl) (Nat.le_refl _) (Nat.le_refl _) rfl (zp_X2_fitOf hk HF a ⟨by omega, by omega⟩ (upv g a) ⟨by omega, by omega⟩ ?_)
      have y7 := fitC_s g a (upv g a)
      refine z_isub dX4_swapGain_46 ?_
      refine e_aload_n dX4_swapGain_47 rfl ?_
      refine e_iload_n dX4_swapGain_48 rfl ?_
      refine e_iload dX4_swapGain_49 rfl ?_
      refine e_callV [.int _, .int _] dX4_swapGain_51 tm_4_64 rfl (Nat.le_of_ble_eq_true rfl) (congrArg Prod.fst (fg_s0 hk)) (Nat.le_of_ble_eq_true rfl) (Nat.le_refl _) (Nat.le_refl _) rfl (zp_X2_fitOf hk HF c ⟨by omega, by omega⟩ (upv g c) ⟨by omega, by omega⟩ ?_)
      have y8 := fitC_s g c (upv g c)
      refine z_isub dX4_swapGain_54 ?_
      refine z_iret dX4_swapGain_55 rfl ⟨rfl, ?_⟩
      refine z_q kq ?_
      unfold swG; first | (rw [if_pos (by omega)]) | (rw [if_neg (by omega)]; omega)
    · skip
      refine z_iconst (0) dX4_swapGain_24 rfl ?_
      refine z_iret dX4_swapGain_25 rfl ⟨rfl, ?_⟩
      refine z_q kq ?_
      unfold swG; first | (rw [if_pos (by omega)]) | (rw [if_neg (by omega)]; omega)
set_option maxHeartbeats 400000 in
theorem zp_X4_bestSwap {ad : mA} {dd : Nat} {h : mH} {Q : mQ} {y f : Nat} {g : Int → Int} (hk : fgk h f) (HF : isF h f g)  (p : Prop) [Decidable p]  (kq : ∀ v : Int, (∃ b, fmax (swC g) (swS g) 36 b ∧ v = if p ∧ b ≠ -1 then swS g b else b) → Q (some (.int (zI v))) h) : mCal TB0 ad (dd + 4) M_X4_bestSwap [.ref y, .ref f, .int (zI (bZ p))] h 0 0 Q := by
  refine ⟨Nat.le_of_ble_eq_true rfl, ?_⟩
  show mEv TB0 ad M_X4_bestSwap (dd + 4) (0, 0) (mCal TB0 ad (dd + 3)) (fun v h' z => z.1 = 0 ∧ Q v h') 0 [some (.ref y), some (.ref f), some (.int (zI (bZ p))), none, none, none, none, none] [] h (0, 0)
  have w1 := isF_n HF
  have w2 := isF_nd HF
  have w3 := isF_nu HF
  have w4 := isF_nc HF
  have W := isF_w HF
  refine z_iconst (-1) dX4_bestSwap_0 rfl ?_
  refine e_istore_n (L' := [_, _, _, _, _, _, _, _]) dX4_bestSwap_1 (Nat.le_of_ble_eq_true rfl) rfl ?_
  refine z_iconst (0) dX4_bestSwap_2 rfl ?_
  refine e_istore (L' := [_, _, _, _, _, _, _, _]) dX4_bestSwap_3 (Nat.le_of_ble_eq_true rfl) rfl ?_
  refine z_iconst (0) dX4_bestSwap_5 rfl ?_
  refine e_istore (L' := [_, _, _, _, _, _, _, _]) dX4_bestSwap_6 (Nat.le_of_ble_eq_true rfl) rfl ?_
  have lp1 : ∀ (n1 : Nat) (b s i : Int), (nd g - i).toNat = n1 → (0 ≤ i) → (i ≤ nd g) → (fmax (swC g) (swS g) (6 * i) b) → ((b = -1 ∧ s = 0) ∨ (b ≠ -1 ∧ s = swS g b)) → (0 ≤ s ∧ s ≤ 60) → mEv TB0 ad M_X4_bestSwap (dd + 4) (0, 0) (mCal TB0 ad (dd + 3)) (fun v h' z => z.1 = 0 ∧ Q v h') 8 [some (.ref y), some (.ref f), some (.int (zI (bZ p))), some (.int (zI b)), some (.int (zI s)), some (.int (zI i)), none, none] [] h (0, 0) := by
    intro n1
    induction n1 using Nat.strongRecOn with
    | ind n1 ih1 =>
    intro b s i  hn1  I1 I2 I3 I4 I5
    refine e_iload dX4_bestSwap_8 rfl ?_
    refine e_aload_n dX4_bestSwap_10 rfl ?_
    refine e_get (.ref (f + 1)) dX4_bestSwap_11 tf_4_34 (congrArg Prod.fst (fg_s0 hk)) (congrArg va_rf (fg_r0_0 hk)) ?_
    refine z_get (nd g) dX4_bestSwap_14 tf_4_40 (congrArg Prod.fst (fg_s1 hk)) (Or.inl rfl) (isF_nd HF) ?_
    have y2 := isF_n HF
    refine z_icmp_ge 80 dX4_bestSwap_17 rfl ⟨by omega, by omega⟩ ⟨by omega, by omega⟩ (fun c3 => ?_) (fun c3 => ?_)
    · skip
      have I6 : fmax (swC g) (swS g) 36 b := fmax_skip I3 (by omega) (fun k a b q => by obtain ⟨q1, q2, q3⟩ := q; omega)
      have I7 := fmax_b I6
      refine e_iload_n dX4_bestSwap_80 rfl ?_
      refine z_ifb_eq 94 dX4_bestSwap_81 rfl (fun c4 => ?_) (fun c4 => ?_)
      · skip
        refine e_iload_n dX4_bestSwap_94 rfl ?_
        refine z_iret dX4_bestSwap_95 rfl ⟨rfl, ?_⟩
        refine kq _ ?_
        first | exact ⟨b, I6, by rw [if_pos ⟨by assumption, by omega⟩]; omega⟩ | exact ⟨b, I6, by rw [if_neg (fun q => q.2 (by omega))]⟩ | exact ⟨b, I6, by rw [if_neg (fun q => absurd q.1 (by assumption))]⟩
      · skip
        refine e_iload_n dX4_bestSwap_84 rfl ?_
        refine z_iconst (-1) dX4_bestSwap_85 rfl ?_
        refine z_icmp_eq 94 dX4_bestSwap_86 rfl ⟨by omega, by omega⟩ ⟨by omega, by omega⟩ (fun c5 => ?_) (fun c5 => ?_)
        · skip
          refine e_iload_n dX4_bestSwap_94 rfl ?_
          refine z_iret dX4_bestSwap_95 rfl ⟨rfl, ?_⟩
          refine kq _ ?_
          first | exact ⟨b, I6, by rw [if_pos ⟨by assumption, by omega⟩]; omega⟩ | exact ⟨b, I6, by rw [if_neg (fun q => q.2 (by omega))]⟩ | exact ⟨b, I6, by rw [if_neg (fun q => absurd q.1 (by assumption))]⟩
        · skip
          refine e_iload dX4_bestSwap_89 rfl ?_
          refine e_goto 95 dX4_bestSwap_91 rfl ?_
          refine z_iret dX4_bestSwap_95 rfl ⟨rfl, ?_⟩
          refine kq _ ?_
          first | exact ⟨b, I6, by rw [if_pos ⟨by assumption, by omega⟩]; omega⟩ | exact ⟨b, I6, by rw [if_neg (fun q => q.2 (by omega))]⟩ | exact ⟨b, I6, by rw [if_neg (fun q => absurd q.1 (by assumption))]⟩
    · skip
      refine e_iload dX4_bestSwap_20 rfl ?_
      refine z_iconst (1) dX4_bestSwap_22 rfl ?_
      refine z_iadd dX4_bestSwap_23 ?_
      refine e_istore (L' := [_, _, _, _, _, _, _, _]) dX4_bestSwap_24 (Nat.le_of_ble_eq_true rfl) rfl ?_
      have lp6 : ∀ (n6 : Nat) (b s j : Int), (nd g - j).toNat = n6 → (i + 1 ≤ j) → (j ≤ nd g ∨ j = i + 1) → (fmax (swC g) (swS g) (6 * i + j) b) → ((b = -1 ∧ s = 0) ∨ (b ≠ -1 ∧ s = swS g b)) → (0 ≤ s ∧ s ≤ 60) → mEv TB0 ad M_X4_bestSwap (dd + 4) (0, 0) (mCal TB0 ad (dd + 3)) (fun v h' z => z.1 = 0 ∧ Q v h') 26 [some (.ref y), some (.ref f), some (.int (zI (bZ p))), some (.int (zI b)), some (.int (zI s)), some (.int (zI i)), some (.int (zI j)), none] [] h (0, 0) := by
        intro n6
        induction n6 using Nat.strongRecOn with
        | ind n6 ih6 =>
        intro b s j  hn6  J1 J2 J3 J4 J5
        refine e_iload dX4_bestSwap_26 rfl ?_
        refine e_aload_n dX4_bestSwap_28 rfl ?_
        refine e_get (.ref (f + 1)) dX4_bestSwap_29 tf_4_34 (congrArg Prod.fst (fg_s0 hk)) (congrArg va_rf (fg_r0_0 hk)) ?_
        refine z_get (nd g) dX4_bestSwap_32 tf_4_40 (congrArg Prod.fst (fg_s1 hk)) (Or.inl rfl) (isF_nd HF) ?_
        have y7 := isF_n HF
        refine z_icmp_ge 74 dX4_bestSwap_35 rfl ⟨by omega, by omega⟩ ⟨by omega, by omega⟩ (fun c8 => ?_) (fun c8 => ?_)
        · skip
          refine z_iinc (L' := [_, _, _, _, _, _, _, _]) dX4_bestSwap_74 rfl rfl ?_
          refine e_goto 8 dX4_bestSwap_77 rfl ?_
          exact mEv_wk (by exact ⟨Or.inr rfl, Or.inr rfl, Or.inr rfl, Or.inr rfl, Or.inr rfl, Or.inr rfl, Or.inl rfl, Or.inl rfl, trivial⟩) (ih1 _ (by omega) b s (i + 1)  rfl  (by omega) (by omega) (fmax_skip J3 (by omega) (fun k a b q => by obtain ⟨q1, q2, q3⟩ := q; omega)) J4 (by omega))
        · skip
          refine e_aload_n dX4_bestSwap_38 rfl ?_
          refine e_iload dX4_bestSwap_39 rfl ?_
          refine e_iload dX4_bestSwap_41 rfl ?_
          refine e_callS [.ref _, .int _, .int _] dX4_bestSwap_43 tm_4_61 rfl (Nat.le_of_ble_eq_true rfl) (Nat.le_refl _) (Nat.le_refl _) rfl (zp_X4_swapGain hk HF i ⟨by omega, by omega⟩ j ⟨by omega, by omega⟩ (by omega) (by omega) ?_)
          have y9 := swG_b g i j
          refine e_istore (L' := [_, _, _, _, _, _, _, _]) dX4_bestSwap_46 (Nat.le_of_ble_eq_true rfl) rfl ?_
          refine e_iload dX4_bestSwap_48 rfl ?_
          refine e_iload dX4_bestSwap_50 rfl ?_
          refine z_icmp_le 68 dX4_bestSwap_52 rfl ⟨by omega, by omega⟩ ⟨by omega, by omega⟩ (fun c10 => ?_) (fun c10 => ?_)
          · skip
            refine z_iinc (L' := [_, _, _, _, _, _, _, _]) dX4_bestSwap_68 rfl rfl ?_
            refine e_goto 26 dX4_bestSwap_71 rfl ?_
            have e1 := sw_step J3 J4 (by omega) (by omega) (by omega) I1 (by omega)
            exact mEv_wk (by exact ⟨Or.inr rfl, Or.inr rfl, Or.inr rfl, Or.inr rfl, Or.inr rfl, Or.inr rfl, Or.inr rfl, Or.inl rfl, trivial⟩) (ih6 _ (by omega) b s (j + 1)  rfl  (by omega) (by omega) (by rw [← Int.add_assoc]; first | exact (e1.1 (by omega) (by omega)).1 | exact e1.2 (by omega)) (by first | exact J4 | exact Or.inr ⟨by omega, (e1.1 (by omega) (by omega)).2⟩) (by omega))
          · skip
            refine e_iload dX4_bestSwap_55 rfl ?_
            refine e_istore (L' := [_, _, _, _, _, _, _, _]) dX4_bestSwap_57 (Nat.le_of_ble_eq_true rfl) rfl ?_
            refine z_bipush (6) dX4_bestSwap_59 rfl ?_
            refine e_iload dX4_bestSwap_61 rfl ?_
            refine z_imul dX4_bestSwap_63 ?_
            refine e_iload dX4_bestSwap_64 rfl ?_
            refine z_iadd dX4_bestSwap_66 ?_
            refine e_istore_n (L' := [_, _, _, _, _, _, _, _]) dX4_bestSwap_67 (Nat.le_of_ble_eq_true rfl) rfl ?_
            refine z_iinc (L' := [_, _, _, _, _, _, _, _]) dX4_bestSwap_68 rfl rfl ?_
            refine e_goto 26 dX4_bestSwap_71 rfl ?_
            have e1 := sw_step J3 J4 (by omega) (by omega) (by omega) I1 (by omega)
            exact mEv_wk (by exact ⟨Or.inr rfl, Or.inr rfl, Or.inr rfl, Or.inr rfl, Or.inr rfl, Or.inr rfl, Or.inr rfl, Or.inl rfl, trivial⟩) (ih6 _ (by omega) ((6 * i) + j) (swG g i j) (j + 1)  rfl  (by omega) (by omega) (by rw [← Int.add_assoc]; first | exact (e1.1 (by omega) (by omega)).1 | exact e1.2 (by omega)) (by first | exact J4 | exact Or.inr ⟨by omega, (e1.1 (by omega) (by omega)).2⟩) (by omega))
      exact lp6 _ b s (i + 1)  rfl  (by omega) (by omega) (fmax_skip I3 (by omega) (fun k a b q => by obtain ⟨q1, q2, q3⟩ := q; omega)) I4 (by omega)
  exact lp1 _ (-1) 0 0  rfl  (by omega) (by omega) (fmax_0 _ _ (by omega)) (by omega) (by omega)
set_option maxHeartbeats 400000 in
theorem zp_X11_swap_in {ad : mA} {dd : Nat} {h : mH} {Q : mQ} {x : Nat} {σ : Sg} (hk : bk h x) (HX : clsT h (x + 1) σ)  (f : Int) (f_r : -2147483648 ≤ f ∧ f < 2147483648) (p : Prop) [Decidable p] (p1 : 0 ≤ f) (p2 : f < cn σ 0) (kq : ∀ v : Int, (∃ b, fmax (swC (sG σ f)) (swS (sG σ f)) 36 b ∧ v = if p ∧ b ≠ -1 then swS (sG σ f) b else b) → Q (some (.int (zI v))) h) : mCal TB0 ad (dd + 5) M_X11_swap [.ref x, .int (zI f), .int (zI (bZ p))] h 0 0 Q := by
  refine ⟨Nat.le_of_ble_eq_true rfl, ?_⟩
  show mEv TB0 ad M_X11_swap (dd + 5) (0, 0) (mCal TB0 ad (dd + 4)) (fun v h' z => z.1 = 0 ∧ Q v h') 0 [some (.ref x), some (.int (zI f)), some (.int (zI (bZ p))), none] [] h (0, 0)
  have w1 := wS_n (clsT_w HX)
  refine e_aload_n dX11_swap_0 rfl ?_
  refine e_get (.ref (x + 1)) dX11_swap_1 tf_11_10 (congrArg Prod.fst (bk_s0 hk)) (congrArg va_rf (bk_r0_0 hk)) ?_
  refine e_iload_n dX11_swap_4 rfl ?_
  refine e_callV [.int _] dX11_swap_5 tm_11_94 rfl (Nat.le_of_ble_eq_true rfl) (congrArg Prod.fst (bk_s1 hk)) (Nat.le_of_ble_eq_true rfl) (Nat.le_refl _) (Nat.le_refl _) rfl (zp_X8_forgeAt_in (bk_td1 hk) HX f ⟨by omega, by omega⟩ (by omega) (by omega) ?_)
  have k1 := fAt_k (bk_td1 hk) f
  have H2 := clsT_F HX (show 0 ≤ f by omega) (by omega)
  have y3 := fAt_b (x + 1) f
  refine e_astore_n (L' := [_, _, _, _]) dX11_swap_8 (Nat.le_of_ble_eq_true rfl) rfl ?_
  refine e_aload_n dX11_swap_9 rfl ?_
  refine e_ifnonnull 17 dX11_swap_10 rfl ?_
  refine e_aload_n dX11_swap_17 rfl ?_
  refine e_get (.ref (x + 142)) dX11_swap_18 tf_11_44 (congrArg Prod.fst (bk_s0 hk)) (congrArg va_rf (bk_r0_5 hk)) ?_
  refine e_aload_n dX11_swap_21 rfl ?_
  refine e_iload_n dX11_swap_22 rfl ?_
  refine e_callV [.ref _, .int _] dX11_swap_23 tm_11_297 rfl (Nat.le_of_ble_eq_true rfl) (congrArg Prod.fst (bk_s142 hk)) (Nat.le_of_ble_eq_true rfl) (Nat.le_refl _) (Nat.le_refl _) rfl (zp_X4_bestSwap k1 H2 p (fun v4 p5 => ?_))
  refine z_iret dX11_swap_26 rfl ⟨rfl, ?_⟩
  refine kq _ ?_
  assumption
set_option maxHeartbeats 400000 in
theorem zp_X11_swap_out {ad : mA} {dd : Nat} {h : mH} {Q : mQ} {x : Nat} {σ : Sg} (hk : bk h x) (HX : clsT h (x + 1) σ)  (f : Int) (f_r : -2147483648 ≤ f ∧ f < 2147483648) (p : Prop) [Decidable p] (p1 : ¬ (0 ≤ f ∧ f < cn σ 0)) (kq : Q (some (.int (zI (-1)))) h) : mCal TB0 ad (dd + 5) M_X11_swap [.ref x, .int (zI f), .int (zI (bZ p))] h 0 0 Q := by
  refine ⟨Nat.le_of_ble_eq_true rfl, ?_⟩
  show mEv TB0 ad M_X11_swap (dd + 5) (0, 0) (mCal TB0 ad (dd + 4)) (fun v h' z => z.1 = 0 ∧ Q v h') 0 [some (.ref x), some (.int (zI f)), some (.int (zI (bZ p))), none] [] h (0, 0)
  have w1 := wS_n (clsT_w HX)
  refine e_aload_n dX11_swap_0 rfl ?_
  refine e_get (.ref (x + 1)) dX11_swap_1 tf_11_10 (congrArg Prod.fst (bk_s0 hk)) (congrArg va_rf (bk_r0_0 hk)) ?_
  refine e_iload_n dX11_swap_4 rfl ?_
  refine e_callV [.int _] dX11_swap_5 tm_11_94 rfl (Nat.le_of_ble_eq_true rfl) (congrArg Prod.fst (bk_s1 hk)) (Nat.le_of_ble_eq_true rfl) (Nat.le_refl _) (Nat.le_refl _) rfl (zp_X8_forgeAt_out (bk_td1 hk) HX f ⟨by omega, by omega⟩ (by omega) ?_)
  refine e_astore_nN (L' := [_, _, _, _]) dX11_swap_8 (Nat.le_of_ble_eq_true rfl) rfl ?_
  refine e_aload_nN dX11_swap_9 rfl ?_
  refine e_ifnonnullN 17 dX11_swap_10 rfl ?_
  refine z_iconst (-1) dX11_swap_13 rfl ?_
  refine e_goto 26 dX11_swap_14 rfl ?_
  refine z_iret dX11_swap_26 rfl ⟨rfl, ?_⟩
  refine z_q kq ?_
  rfl
set_option maxHeartbeats 400000 in
theorem zp_X12_swap_in {ad : mA} {dd : Nat} {h : mH} {Q : mQ} {m : Nat} {σ : Sg} (hk : rk h m) (HR : refT h m 0 σ)  (f : Int) (f_r : -2147483648 ≤ f ∧ f < 2147483648) (p : Prop) [Decidable p] (p1 : 0 ≤ f) (p2 : f < cn σ 0) (kq : ∀ v : Int, (∃ b, fmax (swC (sG σ f)) (swS (sG σ f)) 36 b ∧ v = if p ∧ b ≠ -1 then swS (sG σ f) b else b) → ∀ h1, frm (fun a i => a = m ∨ (m + 9 ≤ a ∧ a < m + 30)) h h1 → Q (some (.int (zI v))) h1) : mCal TB0 ad (dd + 4) M_X12_swap [.ref m, .int (zI f), .int (zI (bZ p))] h 0 0 Q := by
  refine ⟨Nat.le_of_ble_eq_true rfl, ?_⟩
  show mEv TB0 ad M_X12_swap (dd + 4) (0, 0) (mCal TB0 ad (dd + 3)) (fun v h' z => z.1 = 0 ∧ Q v h') 0 [some (.ref m), some (.int (zI f)), some (.int (zI (bZ p))), none, none, none, none, none, none] [] h (0, 0)
  have FR0 : frm (fun a i => a = m ∨ (m + 9 ≤ a ∧ a < m + 30)) h h := frm_0 h
  have w1 := wS_n (refT_w HR)
  refine e_aload_n dX12_swap_0 rfl ?_
  refine z_iconst (0) dX12_swap_1 rfl ?_
  refine z_put dX12_swap_2 tf_12_103 (rk_s hk) rfl (Or.inl rfl) (fun h1 e2 => ?_)
  have f3 := frm_1 e2
  have k4 := rk_q (frm_s f3) hk
  have H5 := refT_c f3 (fun a k q1 q2 => by omega) HR
  have FR6 := frm_t FR0 (frm_m (S' := (fun a i => a = m ∨ (m + 9 ≤ a ∧ a < m + 30))) f3 (fun a k q => by omega))
  refine e_aload_n dX12_swap_5 rfl ?_
  refine e_iload_n dX12_swap_6 rfl ?_
  refine e_callV [.int _] dX12_swap_7 tm_12_292 rfl (Nat.le_of_ble_eq_true rfl) (rk_s k4) (Nat.le_of_ble_eq_true rfl) (Nat.le_refl _) (Nat.le_refl _) rfl (zp_X12_hand_in k4 H5 f ⟨by omega, by omega⟩ (by omega) (by omega) (fun  h7 f8 p9 p10 p11 p12 => ?_))
  have k13 := rk_q (frm_s f8) k4
  have H14 := refT_c f8 (fun a k q1 q2 => by omega) H5
  have FR15 := frm_t FR6 (frm_m (S' := (fun a i => a = m ∨ (m + 9 ≤ a ∧ a < m + 30))) f8 (fun a k q => by omega))
  have w5 := rB_n p9
  have w6 := rC_n p11
  refine z_ifb_ne 15 dX12_swap_10 rfl (fun c16 => ?_) (fun c16 => ?_)
  · skip
    refine z_iconst (-1) dX12_swap_15 rfl ?_
    refine e_istore_n (L' := [_, _, _, _, _, _, _, _, _]) dX12_swap_16 (Nat.le_of_ble_eq_true rfl) rfl ?_
    refine z_iconst (0) dX12_swap_17 rfl ?_
    refine e_istore (L' := [_, _, _, _, _, _, _, _, _]) dX12_swap_18 (Nat.le_of_ble_eq_true rfl) rfl ?_
    refine z_iconst (0) dX12_swap_20 rfl ?_
    refine e_istore (L' := [_, _, _, _, _, _, _, _, _]) dX12_swap_21 (Nat.le_of_ble_eq_true rfl) rfl ?_
    have lp17 : ∀ (n17 : Nat) (b s i : Int), (36 - i).toNat = n17 → (0 ≤ i) → (i ≤ 36) → (fmax (swC (sG σ f)) (swS (sG σ f)) (i) b) → ((b = -1 ∧ s = 0) ∨ (b ≠ -1 ∧ s = swS (sG σ f) b)) → (0 ≤ s ∧ s ≤ 60) → mEv TB0 ad M_X12_swap (dd + 4) (0, 0) (mCal TB0 ad (dd + 3)) (fun v h' z => z.1 = 0 ∧ Q v h') 23 [some (.ref m), some (.int (zI f)), some (.int (zI (bZ p))), some (.int (zI b)), some (.int (zI s)), some (.int (zI i)), none, none, none] [] h7 (0, 0) := by
      intro n17
      induction n17 using Nat.strongRecOn with
      | ind n17 ih17 =>
      intro b s i  hn17  I1 I2 I3 I4 I5
      refine e_iload dX12_swap_23 rfl ?_
      refine z_bipush (36) dX12_swap_25 rfl ?_
      refine z_icmp_ge 164 dX12_swap_27 rfl ⟨by omega, by omega⟩ ⟨by omega, by omega⟩ (fun c18 => ?_) (fun c18 => ?_)
      · skip
        have I6 : fmax (swC (sG σ f)) (swS (sG σ f)) 36 b := by rw [show (36 : Int) = i by omega]; exact I3
        have I7 := fmax_b I6
        refine e_iload_n dX12_swap_164 rfl ?_
        refine z_iconst (-1) dX12_swap_165 rfl ?_
        refine z_icmp_eq 173 dX12_swap_166 rfl ⟨by omega, by omega⟩ ⟨by omega, by omega⟩ (fun c19 => ?_) (fun c19 => ?_)
        · skip
          refine e_iload_n dX12_swap_173 rfl ?_
          refine e_goto 179 dX12_swap_174 rfl ?_
          refine z_iret dX12_swap_179 rfl ⟨rfl, ?_⟩
          refine kq _ ?_ _ FR15
          first | exact ⟨b, I6, by rw [if_pos ⟨by assumption, by omega⟩]; omega⟩ | exact ⟨b, I6, by rw [if_neg (fun q => q.2 (by omega))]⟩ | exact ⟨b, I6, by rw [if_neg (fun q => absurd q.1 (by assumption))]⟩
        · skip
          refine e_iload_n dX12_swap_169 rfl ?_
          refine z_ifb_ne 177 dX12_swap_170 rfl (fun c20 => ?_) (fun c20 => ?_)
          · skip
            refine e_iload dX12_swap_177 rfl ?_
            refine z_iret dX12_swap_179 rfl ⟨rfl, ?_⟩
            refine kq _ ?_ _ FR15
            first | exact ⟨b, I6, by rw [if_pos ⟨by assumption, by omega⟩]; omega⟩ | exact ⟨b, I6, by rw [if_neg (fun q => q.2 (by omega))]⟩ | exact ⟨b, I6, by rw [if_neg (fun q => absurd q.1 (by assumption))]⟩
          · skip
            refine e_iload_n dX12_swap_173 rfl ?_
            refine e_goto 179 dX12_swap_174 rfl ?_
            refine z_iret dX12_swap_179 rfl ⟨rfl, ?_⟩
            refine kq _ ?_ _ FR15
            first | exact ⟨b, I6, by rw [if_pos ⟨by assumption, by omega⟩]; omega⟩ | exact ⟨b, I6, by rw [if_neg (fun q => q.2 (by omega))]⟩ | exact ⟨b, I6, by rw [if_neg (fun q => absurd q.1 (by assumption))]⟩
      · skip
        have I7 := fmax_b I3
        refine e_iload dX12_swap_30 rfl ?_
        refine z_bipush (6) dX12_swap_32 rfl ?_
        refine z_idiv dX12_swap_34 (by omega) (by omega) (by omega) (by omega) ?_
        refine e_istore (L' := [_, _, _, _, _, _, _, _, _]) dX12_swap_35 (Nat.le_of_ble_eq_true rfl) rfl ?_
        refine e_iload dX12_swap_37 rfl ?_
        refine z_bipush (6) dX12_swap_39 rfl ?_
        refine z_irem dX12_swap_41 (by omega) (by omega) (by omega) (by omega) ?_
        refine e_istore (L' := [_, _, _, _, _, _, _, _, _]) dX12_swap_42 (Nat.le_of_ble_eq_true rfl) rfl ?_
        refine e_iload dX12_swap_44 rfl ?_
        refine e_iload dX12_swap_46 rfl ?_
        refine z_icmp_ge 158 dX12_swap_48 rfl ⟨by omega, by omega⟩ ⟨by omega, by omega⟩ (fun c21 => ?_) (fun c21 => ?_)
        · skip
          refine z_iinc (L' := [_, _, _, _, _, _, _, _, _]) dX12_swap_158 rfl rfl ?_
          refine e_goto 23 dX12_swap_161 rfl ?_
          exact mEv_wk (by exact ⟨Or.inr rfl, Or.inr rfl, Or.inr rfl, Or.inr rfl, Or.inr rfl, Or.inr rfl, Or.inl rfl, Or.inl rfl, Or.inl rfl, trivial⟩) (ih17 _ (by omega) b s (i + 1)  rfl  (by omega) (by omega) (by first | exact (e1.1 (by omega) (by omega)).1 | exact e1.2 (by omega) | exact fmax_no I3 (by intro q; obtain ⟨q1, q2, q3, q4, q5⟩ := q; have u1 := upv_in (g := (sG σ f)) (d := i / 6) (by omega) (by omega); have u2 := upv_in (g := (sG σ f)) (d := i % 6) (by omega) (by omega); omega)) (by first | exact I4 | exact Or.inr ⟨by omega, by have := (e1.1 (by omega) (by omega)).2; omega⟩ | (have := I4; omega)) (by omega))
        · skip
          have e0 : 6 * (i / 6) + i % 6 = i := by omega
          refine e_iload dX12_swap_51 rfl ?_
          refine e_aload_n dX12_swap_53 rfl ?_
          refine z_get (nd (sG σ f)) dX12_swap_54 tf_12_271 (rk_s k13) (Or.inl rfl) (rB_nd p9) ?_
          have y22 := rB_n p9
          refine z_icmp_ge 158 dX12_swap_57 rfl ⟨by omega, by omega⟩ ⟨by omega, by omega⟩ (fun c23 => ?_) (fun c23 => ?_)
          · skip
            refine z_iinc (L' := [_, _, _, _, _, _, _, _, _]) dX12_swap_158 rfl rfl ?_
            refine e_goto 23 dX12_swap_161 rfl ?_
            exact mEv_wk (by exact ⟨Or.inr rfl, Or.inr rfl, Or.inr rfl, Or.inr rfl, Or.inr rfl, Or.inr rfl, Or.inl rfl, Or.inl rfl, Or.inl rfl, trivial⟩) (ih17 _ (by omega) b s (i + 1)  rfl  (by omega) (by omega) (by first | exact (e1.1 (by omega) (by omega)).1 | exact e1.2 (by omega) | exact fmax_no I3 (by intro q; obtain ⟨q1, q2, q3, q4, q5⟩ := q; have u1 := upv_in (g := (sG σ f)) (d := i / 6) (by omega) (by omega); have u2 := upv_in (g := (sG σ f)) (d := i % 6) (by omega) (by omega); omega)) (by first | exact I4 | exact Or.inr ⟨by omega, by have := (e1.1 (by omega) (by omega)).2; omega⟩ | (have := I4; omega)) (by omega))
          · skip
            refine e_aload_n dX12_swap_60 rfl ?_
            refine e_iload dX12_swap_61 rfl ?_
            refine e_callV [.int _] dX12_swap_63 tm_12_286 rfl (Nat.le_of_ble_eq_true rfl) (rk_s k13) (Nat.le_of_ble_eq_true rfl) (Nat.le_refl _) (Nat.le_refl _) rfl (zp_X12_isPaired k13 p10 (i / 6) ⟨by omega, by omega⟩ (by omega) (by omega) ?_)
            have y24 := wM_d (rM_w p10) (show 0 ≤ (i / 6) by omega) (by omega)
            refine z_ifb_eq 158 dX12_swap_66 rfl (fun c25 => ?_) (fun c25 => ?_)
            · skip
              refine z_iinc (L' := [_, _, _, _, _, _, _, _, _]) dX12_swap_158 rfl rfl ?_
              refine e_goto 23 dX12_swap_161 rfl ?_
              exact mEv_wk (by exact ⟨Or.inr rfl, Or.inr rfl, Or.inr rfl, Or.inr rfl, Or.inr rfl, Or.inr rfl, Or.inl rfl, Or.inl rfl, Or.inl rfl, trivial⟩) (ih17 _ (by omega) b s (i + 1)  rfl  (by omega) (by omega) (by first | exact (e1.1 (by omega) (by omega)).1 | exact e1.2 (by omega) | exact fmax_no I3 (by intro q; obtain ⟨q1, q2, q3, q4, q5⟩ := q; have u1 := upv_in (g := (sG σ f)) (d := i / 6) (by omega) (by omega); have u2 := upv_in (g := (sG σ f)) (d := i % 6) (by omega) (by omega); omega)) (by first | exact I4 | exact Or.inr ⟨by omega, by have := (e1.1 (by omega) (by omega)).2; omega⟩ | (have := I4; omega)) (by omega))
            · skip
              refine e_aload_n dX12_swap_69 rfl ?_
              refine e_iload dX12_swap_70 rfl ?_
              refine e_callV [.int _] dX12_swap_72 tm_12_286 rfl (Nat.le_of_ble_eq_true rfl) (rk_s k13) (Nat.le_of_ble_eq_true rfl) (Nat.le_refl _) (Nat.le_refl _) rfl (zp_X12_isPaired k13 p10 (i % 6) ⟨by omega, by omega⟩ (by omega) (by omega) ?_)
              have y26 := wM_d (rM_w p10) (show 0 ≤ (i % 6) by omega) (by omega)
              refine z_ifb_eq 158 dX12_swap_75 rfl (fun c27 => ?_) (fun c27 => ?_)
              · skip
                refine z_iinc (L' := [_, _, _, _, _, _, _, _, _]) dX12_swap_158 rfl rfl ?_
                refine e_goto 23 dX12_swap_161 rfl ?_
                exact mEv_wk (by exact ⟨Or.inr rfl, Or.inr rfl, Or.inr rfl, Or.inr rfl, Or.inr rfl, Or.inr rfl, Or.inl rfl, Or.inl rfl, Or.inl rfl, trivial⟩) (ih17 _ (by omega) b s (i + 1)  rfl  (by omega) (by omega) (by first | exact (e1.1 (by omega) (by omega)).1 | exact e1.2 (by omega) | exact fmax_no I3 (by intro q; obtain ⟨q1, q2, q3, q4, q5⟩ := q; have u1 := upv_in (g := (sG σ f)) (d := i / 6) (by omega) (by omega); have u2 := upv_in (g := (sG σ f)) (d := i % 6) (by omega) (by omega); omega)) (by first | exact I4 | exact Or.inr ⟨by omega, by have := (e1.1 (by omega) (by omega)).2; omega⟩ | (have := I4; omega)) (by omega))
              · skip
                have u1 := upv_in (g := (sG σ f)) (d := i / 6) (by omega) (by omega)
                have u2 := upv_in (g := (sG σ f)) (d := i % 6) (by omega) (by omega)
                refine e_aload_n dX12_swap_78 rfl ?_
                refine e_iload dX12_swap_79 rfl ?_
                refine e_aload_n dX12_swap_81 rfl ?_
                refine e_get (.ref (m + 15)) dX12_swap_82 tf_12_53 (rk_s k13) (congrArg va_rf (rk_r15 k13)) ?_
                refine e_iload dX12_swap_85 rfl ?_
                refine z_ild (dm (sG σ f) (i % 6)) dX12_swap_87 (rk_a15 k13) (by decide) (by omega) (by omega) (rM_d p10 (by omega) (by omega)) ?_
                have y28 := wM_d (rM_w p10) (show 0 ≤ (i % 6) by omega) (by omega)
                refine e_callV [.int _, .int _] dX12_swap_88 tm_12_283 rfl (Nat.le_of_ble_eq_true rfl) (rk_s k13) (Nat.le_of_ble_eq_true rfl) (Nat.le_refl _) (Nat.le_refl _) rfl (zp_X12_fitOf k13 p9 (i / 6) ⟨by omega, by omega⟩ (dm (sG σ f) (i % 6)) ⟨by omega, by omega⟩ (by omega) ?_)
                have y29 := fitZ_b (sG σ f) (i / 6) (dm (sG σ f) (i % 6))
                refine e_aload_n dX12_swap_91 rfl ?_
                refine e_iload dX12_swap_92 rfl ?_
                refine e_aload_n dX12_swap_94 rfl ?_
                refine e_get (.ref (m + 15)) dX12_swap_95 tf_12_53 (rk_s k13) (congrArg va_rf (rk_r15 k13)) ?_
                refine e_iload dX12_swap_98 rfl ?_
                refine z_ild (dm (sG σ f) (i / 6)) dX12_swap_100 (rk_a15 k13) (by decide) (by omega) (by omega) (rM_d p10 (by omega) (by omega)) ?_
                have y30 := wM_d (rM_w p10) (show 0 ≤ (i / 6) by omega) (by omega)
                refine e_callV [.int _, .int _] dX12_swap_101 tm_12_283 rfl (Nat.le_of_ble_eq_true rfl) (rk_s k13) (Nat.le_of_ble_eq_true rfl) (Nat.le_refl _) (Nat.le_refl _) rfl (zp_X12_fitOf k13 p9 (i % 6) ⟨by omega, by omega⟩ (dm (sG σ f) (i / 6)) ⟨by omega, by omega⟩ (by omega) ?_)
                have y31 := fitZ_b (sG σ f) (i % 6) (dm (sG σ f) (i / 6))
                refine z_iadd dX12_swap_104 ?_
                refine e_aload_n dX12_swap_105 rfl ?_
                refine e_iload dX12_swap_106 rfl ?_
                refine e_aload_n dX12_swap_108 rfl ?_
                refine e_get (.ref (m + 15)) dX12_swap_109 tf_12_53 (rk_s k13) (congrArg va_rf (rk_r15 k13)) ?_
                refine e_iload dX12_swap_112 rfl ?_
                refine z_ild (dm (sG σ f) (i / 6)) dX12_swap_114 (rk_a15 k13) (by decide) (by omega) (by omega) (rM_d p10 (by omega) (by omega)) ?_
                have y32 := wM_d (rM_w p10) (show 0 ≤ (i / 6) by omega) (by omega)
                refine e_callV [.int _, .int _] dX12_swap_115 tm_12_283 rfl (Nat.le_of_ble_eq_true rfl) (rk_s k13) (Nat.le_of_ble_eq_true rfl) (Nat.le_refl _) (Nat.le_refl _) rfl (zp_X12_fitOf k13 p9 (i / 6) ⟨by omega, by omega⟩ (dm (sG σ f) (i / 6)) ⟨by omega, by omega⟩ (by omega) ?_)
                have y33 := fitZ_b (sG σ f) (i / 6) (dm (sG σ f) (i / 6))
                refine z_isub dX12_swap_118 ?_
                refine e_aload_n dX12_swap_119 rfl ?_
                refine e_iload dX12_swap_120 rfl ?_
                refine e_aload_n dX12_swap_122 rfl ?_
                refine e_get (.ref (m + 15)) dX12_swap_123 tf_12_53 (rk_s k13) (congrArg va_rf (rk_r15 k13)) ?_
                refine e_iload dX12_swap_126 rfl ?_
                refine z_ild (dm (sG σ f) (i % 6)) dX12_swap_128 (rk_a15 k13) (by decide) (by omega) (by omega) (rM_d p10 (by omega) (by omega)) ?_
                have y34 := wM_d (rM_w p10) (show 0 ≤ (i % 6) by omega) (by omega)
                refine e_callV [.int _, .int _] dX12_swap_129 tm_12_283 rfl (Nat.le_of_ble_eq_true rfl) (rk_s k13) (Nat.le_of_ble_eq_true rfl) (Nat.le_refl _) (Nat.le_refl _) rfl (zp_X12_fitOf k13 p9 (i % 6) ⟨by omega, by omega⟩ (dm (sG σ f) (i % 6)) ⟨by omega, by omega⟩ (by omega) ?_)
                have y35 := fitZ_b (sG σ f) (i % 6) (dm (sG σ f) (i % 6))
                have eG : swG (sG σ f) (i / 6) (i % 6) = fitZ (sG σ f) (i / 6) (dm (sG σ f) (i % 6)) + fitZ (sG σ f) (i % 6) (dm (sG σ f) (i / 6)) - fitZ (sG σ f) (i / 6) (dm (sG σ f) (i / 6)) - fitZ (sG σ f) (i % 6) (dm (sG σ f) (i % 6)) := by unfold swG; rw [if_neg (by omega), u1, u2]
                have e1 := sw_step (g := (sG σ f)) (i := i / 6) (j := i % 6) (b := b) (s := s) (by rw [e0]; exact I3) I4 (by omega) (by omega) (by omega) (by omega) (by omega)
                rw [e0] at e1
                refine z_isub dX12_swap_132 ?_
                refine e_istore (L' := [_, _, _, _, _, _, _, _, _]) dX12_swap_133 (Nat.le_of_ble_eq_true rfl) rfl ?_
                refine e_iload dX12_swap_135 rfl ?_
                refine e_iload dX12_swap_137 rfl ?_
                refine z_icmp_le 147 dX12_swap_139 rfl ⟨by omega, by omega⟩ ⟨by omega, by omega⟩ (fun c36 => ?_) (fun c36 => ?_)
                · skip
                  skip
                  refine e_iload_n dX12_swap_147 rfl ?_
                  refine e_istore_n (L' := [_, _, _, _, _, _, _, _, _]) dX12_swap_148 (Nat.le_of_ble_eq_true rfl) rfl ?_
                  refine e_iload dX12_swap_149 rfl ?_
                  refine e_iload dX12_swap_151 rfl ?_
                  refine e_callS [.int _, .int _] dX12_swap_153 tm_12_176 rfl (Nat.le_of_ble_eq_true rfl) (Nat.le_refl _) (Nat.le_refl _) rfl (zp_X12_greater s ⟨by omega, by omega⟩ ((((fitZ (sG σ f) (i / 6) (dm (sG σ f) (i % 6))) + (fitZ (sG σ f) (i % 6) (dm (sG σ f) (i / 6)))) - (fitZ (sG σ f) (i / 6) (dm (sG σ f) (i / 6)))) - (fitZ (sG σ f) (i % 6) (dm (sG σ f) (i % 6)))) ⟨by omega, by omega⟩ ?_)
                  refine e_istore (L' := [_, _, _, _, _, _, _, _, _]) dX12_swap_156 (Nat.le_of_ble_eq_true rfl) rfl ?_
                  refine z_iinc (L' := [_, _, _, _, _, _, _, _, _]) dX12_swap_158 rfl rfl ?_
                  refine e_goto 23 dX12_swap_161 rfl ?_
                  exact mEv_wk (by exact ⟨Or.inr rfl, Or.inr rfl, Or.inr rfl, Or.inr rfl, Or.inr rfl, Or.inr rfl, Or.inl rfl, Or.inl rfl, Or.inl rfl, trivial⟩) (ih17 _ (by omega) b (max s ((((fitZ (sG σ f) (i / 6) (dm (sG σ f) (i % 6))) + (fitZ (sG σ f) (i % 6) (dm (sG σ f) (i / 6)))) - (fitZ (sG σ f) (i / 6) (dm (sG σ f) (i / 6)))) - (fitZ (sG σ f) (i % 6) (dm (sG σ f) (i % 6))))) (i + 1)  rfl  (by omega) (by omega) (by first | exact (e1.1 (by omega) (by omega)).1 | exact e1.2 (by omega) | exact fmax_no I3 (by intro q; obtain ⟨q1, q2, q3, q4, q5⟩ := q; have u1 := upv_in (g := (sG σ f)) (d := i / 6) (by omega) (by omega); have u2 := upv_in (g := (sG σ f)) (d := i % 6) (by omega) (by omega); omega)) (by first | exact I4 | exact Or.inr ⟨by omega, by have := (e1.1 (by omega) (by omega)).2; omega⟩ | (have := I4; omega)) (by omega))
                · skip
                  skip
                  refine e_iload dX12_swap_142 rfl ?_
                  refine e_goto 148 dX12_swap_144 rfl ?_
                  refine e_istore_n (L' := [_, _, _, _, _, _, _, _, _]) dX12_swap_148 (Nat.le_of_ble_eq_true rfl) rfl ?_
                  refine e_iload dX12_swap_149 rfl ?_
                  refine e_iload dX12_swap_151 rfl ?_
                  refine e_callS [.int _, .int _] dX12_swap_153 tm_12_176 rfl (Nat.le_of_ble_eq_true rfl) (Nat.le_refl _) (Nat.le_refl _) rfl (zp_X12_greater s ⟨by omega, by omega⟩ ((((fitZ (sG σ f) (i / 6) (dm (sG σ f) (i % 6))) + (fitZ (sG σ f) (i % 6) (dm (sG σ f) (i / 6)))) - (fitZ (sG σ f) (i / 6) (dm (sG σ f) (i / 6)))) - (fitZ (sG σ f) (i % 6) (dm (sG σ f) (i % 6)))) ⟨by omega, by omega⟩ ?_)
                  refine e_istore (L' := [_, _, _, _, _, _, _, _, _]) dX12_swap_156 (Nat.le_of_ble_eq_true rfl) rfl ?_
                  refine z_iinc (L' := [_, _, _, _, _, _, _, _, _]) dX12_swap_158 rfl rfl ?_
                  refine e_goto 23 dX12_swap_161 rfl ?_
                  exact mEv_wk (by exact ⟨Or.inr rfl, Or.inr rfl, Or.inr rfl, Or.inr rfl, Or.inr rfl, Or.inr rfl, Or.inl rfl, Or.inl rfl, Or.inl rfl, trivial⟩) (ih17 _ (by omega) i (max s ((((fitZ (sG σ f) (i / 6) (dm (sG σ f) (i % 6))) + (fitZ (sG σ f) (i % 6) (dm (sG σ f) (i / 6)))) - (fitZ (sG σ f) (i / 6) (dm (sG σ f) (i / 6)))) - (fitZ (sG σ f) (i % 6) (dm (sG σ f) (i % 6))))) (i + 1)  rfl  (by omega) (by omega) (by first | exact (e1.1 (by omega) (by omega)).1 | exact e1.2 (by omega) | exact fmax_no I3 (by intro q; obtain ⟨q1, q2, q3, q4, q5⟩ := q; have u1 := upv_in (g := (sG σ f)) (d := i / 6) (by omega) (by omega); have u2 := upv_in (g := (sG σ f)) (d := i % 6) (by omega) (by omega); omega)) (by first | exact I4 | exact Or.inr ⟨by omega, by have := (e1.1 (by omega) (by omega)).2; omega⟩ | (have := I4; omega)) (by omega))
    exact lp17 _ (-1) 0 0  rfl  (by omega) (by omega) (fmax_0 _ _ (by omega)) (by omega) (by omega)
  · exact absurd trivial c16
set_option maxHeartbeats 400000 in
theorem zp_X12_swap_out {ad : mA} {dd : Nat} {h : mH} {Q : mQ} {m : Nat} {σ : Sg} (hk : rk h m) (HR : refT h m 0 σ)  (f : Int) (f_r : -2147483648 ≤ f ∧ f < 2147483648) (p : Prop) [Decidable p] (p1 : ¬ (0 ≤ f ∧ f < cn σ 0)) (kq : ∀ h1, frm (fun a i => a = m ∨ (m + 9 ≤ a ∧ a < m + 30)) h h1 → Q (some (.int (zI (-1)))) h1) : mCal TB0 ad (dd + 4) M_X12_swap [.ref m, .int (zI f), .int (zI (bZ p))] h 0 0 Q := by
  refine ⟨Nat.le_of_ble_eq_true rfl, ?_⟩
  show mEv TB0 ad M_X12_swap (dd + 4) (0, 0) (mCal TB0 ad (dd + 3)) (fun v h' z => z.1 = 0 ∧ Q v h') 0 [some (.ref m), some (.int (zI f)), some (.int (zI (bZ p))), none, none, none, none, none, none] [] h (0, 0)
  have FR0 : frm (fun a i => a = m ∨ (m + 9 ≤ a ∧ a < m + 30)) h h := frm_0 h
  have w1 := wS_n (refT_w HR)
  refine e_aload_n dX12_swap_0 rfl ?_
  refine z_iconst (0) dX12_swap_1 rfl ?_
  refine z_put dX12_swap_2 tf_12_103 (rk_s hk) rfl (Or.inl rfl) (fun h1 e2 => ?_)
  have f3 := frm_1 e2
  have k4 := rk_q (frm_s f3) hk
  have H5 := refT_c f3 (fun a k q1 q2 => by omega) HR
  have FR6 := frm_t FR0 (frm_m (S' := (fun a i => a = m ∨ (m + 9 ≤ a ∧ a < m + 30))) f3 (fun a k q => by omega))
  refine e_aload_n dX12_swap_5 rfl ?_
  refine e_iload_n dX12_swap_6 rfl ?_
  refine e_callV [.int _] dX12_swap_7 tm_12_292 rfl (Nat.le_of_ble_eq_true rfl) (rk_s k4) (Nat.le_of_ble_eq_true rfl) (Nat.le_refl _) (Nat.le_refl _) rfl (zp_X12_hand_out k4 H5 f ⟨by omega, by omega⟩ (by omega) ?_)
  refine z_ifb_ne 15 dX12_swap_10 rfl (fun c7 => ?_) (fun c7 => ?_)
  · exfalso; exact c7
  · skip
    refine z_iconst (-1) dX12_swap_13 rfl ?_
    refine z_iret dX12_swap_14 rfl ⟨rfl, ?_⟩
    exact kq _ FR6

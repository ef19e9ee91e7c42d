/-! LINE: the class's descend, the reference's children -/
theorem dX5_descend_0 : decode cX5_descend 0 = .ok (.aload_n 0, 1) := by decide +kernel
theorem dX5_descend_1 : decode cX5_descend 1 = .ok (.aload_n 1, 1) := by decide +kernel
theorem dX5_descend_2 : decode cX5_descend 2 = .ok (.iconst 1, 1) := by decide +kernel
theorem dX5_descend_3 : decode cX5_descend 3 = .ok (.invokevirtual 164, 3) := by decide +kernel
theorem dX5_descend_6 : decode cX5_descend 6 = .ok (.iconst 0, 1) := by decide +kernel
theorem dX5_descend_7 : decode cX5_descend 7 = .ok (.istore 4, 2) := by decide +kernel
theorem dX5_descend_9 : decode cX5_descend 9 = .ok (.iload 4, 2) := by decide +kernel
theorem dX5_descend_11 : decode cX5_descend 11 = .ok (.iload_n 2, 1) := by decide +kernel
theorem dX5_descend_12 : decode cX5_descend 12 = .ok (.if_icmp .ge 22, 3) := by decide +kernel
theorem dX5_descend_15 : decode cX5_descend 15 = .ok (.aload_n 0, 1) := by decide +kernel
theorem dX5_descend_16 : decode cX5_descend 16 = .ok (.invokevirtual 171, 3) := by decide +kernel
theorem dX5_descend_19 : decode cX5_descend 19 = .ok (.aload_n 0, 1) := by decide +kernel
theorem dX5_descend_20 : decode cX5_descend 20 = .ok (.aload_n 0, 1) := by decide +kernel
theorem dX5_descend_21 : decode cX5_descend 21 = .ok (.getfield 18, 3) := by decide +kernel
theorem dX5_descend_24 : decode cX5_descend 24 = .ok (.iconst 1, 1) := by decide +kernel
theorem dX5_descend_25 : decode cX5_descend 25 = .ok (.invokevirtual 164, 3) := by decide +kernel
theorem dX5_descend_28 : decode cX5_descend 28 = .ok (.iinc 4 1, 3) := by decide +kernel
theorem dX5_descend_31 : decode cX5_descend 31 = .ok (.goto (-22), 3) := by decide +kernel
theorem dX5_descend_34 : decode cX5_descend 34 = .ok (.iload_n 3, 1) := by decide +kernel
theorem dX5_descend_35 : decode cX5_descend 35 = .ok (.ifCond .ne 14, 3) := by decide +kernel
theorem dX5_descend_38 : decode cX5_descend 38 = .ok (.aload_n 0, 1) := by decide +kernel
theorem dX5_descend_39 : decode cX5_descend 39 = .ok (.getfield 12, 3) := by decide +kernel
theorem dX5_descend_42 : decode cX5_descend 42 = .ok (.getfield 53, 3) := by decide +kernel
theorem dX5_descend_45 : decode cX5_descend 45 = .ok (.getfield 57, 3) := by decide +kernel
theorem dX5_descend_48 : decode cX5_descend 48 = .ok (.ireturn, 1) := by decide +kernel
theorem dX5_descend_49 : decode cX5_descend 49 = .ok (.iload_n 3, 1) := by decide +kernel
theorem dX5_descend_50 : decode cX5_descend 50 = .ok (.iconst 1, 1) := by decide +kernel
theorem dX5_descend_51 : decode cX5_descend 51 = .ok (.if_icmp .ne 10, 3) := by decide +kernel
theorem dX5_descend_54 : decode cX5_descend 54 = .ok (.aload_n 0, 1) := by decide +kernel
theorem dX5_descend_55 : decode cX5_descend 55 = .ok (.invokevirtual 137, 3) := by decide +kernel
theorem dX5_descend_58 : decode cX5_descend 58 = .ok (.goto 7, 3) := by decide +kernel
theorem dX5_descend_61 : decode cX5_descend 61 = .ok (.aload_n 0, 1) := by decide +kernel
theorem dX5_descend_62 : decode cX5_descend 62 = .ok (.invokevirtual 174, 3) := by decide +kernel
theorem dX5_descend_65 : decode cX5_descend 65 = .ok (.ireturn, 1) := by decide +kernel
theorem dX11_line_0 : decode cX11_line 0 = .ok (.aload_n 0, 1) := by decide +kernel
theorem dX11_line_1 : decode cX11_line 1 = .ok (.getfield 10, 3) := by decide +kernel
theorem dX11_line_4 : decode cX11_line 4 = .ok (.iload_n 1, 1) := by decide +kernel
theorem dX11_line_5 : decode cX11_line 5 = .ok (.invokevirtual 94, 3) := by decide +kernel
theorem dX11_line_8 : decode cX11_line 8 = .ok (.astore 4, 2) := by decide +kernel
theorem dX11_line_10 : decode cX11_line 10 = .ok (.aload 4, 2) := by decide +kernel
theorem dX11_line_12 : decode cX11_line 12 = .ok (.ifnull 22, 3) := by decide +kernel
theorem dX11_line_15 : decode cX11_line 15 = .ok (.iload_n 2, 1) := by decide +kernel
theorem dX11_line_16 : decode cX11_line 16 = .ok (.ifCond .lt 18, 3) := by decide +kernel
theorem dX11_line_19 : decode cX11_line 19 = .ok (.iload_n 2, 1) := by decide +kernel
theorem dX11_line_20 : decode cX11_line 20 = .ok (.bipush 9, 2) := by decide +kernel
theorem dX11_line_22 : decode cX11_line 22 = .ok (.if_icmp .gt 12, 3) := by decide +kernel
theorem dX11_line_25 : decode cX11_line 25 = .ok (.iload_n 3, 1) := by decide +kernel
theorem dX11_line_26 : decode cX11_line 26 = .ok (.ifCond .lt 8, 3) := by decide +kernel
theorem dX11_line_29 : decode cX11_line 29 = .ok (.iload_n 3, 1) := by decide +kernel
theorem dX11_line_30 : decode cX11_line 30 = .ok (.iconst 2, 1) := by decide +kernel
theorem dX11_line_31 : decode cX11_line 31 = .ok (.if_icmp .le 5, 3) := by decide +kernel
theorem dX11_line_34 : decode cX11_line 34 = .ok (.iconst (-1), 1) := by decide +kernel
theorem dX11_line_35 : decode cX11_line 35 = .ok (.ireturn, 1) := by decide +kernel
theorem dX11_line_36 : decode cX11_line 36 = .ok (.aload_n 0, 1) := by decide +kernel
theorem dX11_line_37 : decode cX11_line 37 = .ok (.getfield 37, 3) := by decide +kernel
theorem dX11_line_40 : decode cX11_line 40 = .ok (.aload 4, 2) := by decide +kernel
theorem dX11_line_42 : decode cX11_line 42 = .ok (.iload_n 2, 1) := by decide +kernel
theorem dX11_line_43 : decode cX11_line 43 = .ok (.iload_n 3, 1) := by decide +kernel
theorem dX11_line_44 : decode cX11_line 44 = .ok (.invokevirtual 315, 3) := by decide +kernel
theorem dX11_line_47 : decode cX11_line 47 = .ok (.ireturn, 1) := by decide +kernel
theorem dX12_child_0 : decode cX12_child 0 = .ok (.aload_n 0, 1) := by decide +kernel
theorem dX12_child_1 : decode cX12_child 1 = .ok (.getfield 97, 3) := by decide +kernel
theorem dX12_child_4 : decode cX12_child 4 = .ok (.iload_n 1, 1) := by decide +kernel
theorem dX12_child_5 : decode cX12_child 5 = .ok (.iload_n 2, 1) := by decide +kernel
theorem dX12_child_6 : decode cX12_child 6 = .ok (.iastore, 1) := by decide +kernel
theorem dX12_child_7 : decode cX12_child 7 = .ok (.aload_n 0, 1) := by decide +kernel
theorem dX12_child_8 : decode cX12_child 8 = .ok (.getfield 97, 3) := by decide +kernel
theorem dX12_child_11 : decode cX12_child 11 = .ok (.bipush 12, 2) := by decide +kernel
theorem dX12_child_13 : decode cX12_child 13 = .ok (.iload_n 1, 1) := by decide +kernel
theorem dX12_child_14 : decode cX12_child 14 = .ok (.iadd, 1) := by decide +kernel
theorem dX12_child_15 : decode cX12_child 15 = .ok (.aload_n 0, 1) := by decide +kernel
theorem dX12_child_16 : decode cX12_child 16 = .ok (.getfield 44, 3) := by decide +kernel
theorem dX12_child_19 : decode cX12_child 19 = .ok (.iload_n 3, 1) := by decide +kernel
theorem dX12_child_20 : decode cX12_child 20 = .ok (.iaload, 1) := by decide +kernel
theorem dX12_child_21 : decode cX12_child 21 = .ok (.iastore, 1) := by decide +kernel
theorem dX12_child_22 : decode cX12_child 22 = .ok (.aload_n 0, 1) := by decide +kernel
theorem dX12_child_23 : decode cX12_child 23 = .ok (.getfield 97, 3) := by decide +kernel
theorem dX12_child_26 : decode cX12_child 26 = .ok (.bipush 24, 2) := by decide +kernel
theorem dX12_child_28 : decode cX12_child 28 = .ok (.iload_n 1, 1) := by decide +kernel
theorem dX12_child_29 : decode cX12_child 29 = .ok (.iadd, 1) := by decide +kernel
theorem dX12_child_30 : decode cX12_child 30 = .ok (.aload_n 0, 1) := by decide +kernel
theorem dX12_child_31 : decode cX12_child 31 = .ok (.getfield 50, 3) := by decide +kernel
theorem dX12_child_34 : decode cX12_child 34 = .ok (.iload_n 3, 1) := by decide +kernel
theorem dX12_child_35 : decode cX12_child 35 = .ok (.iaload, 1) := by decide +kernel
theorem dX12_child_36 : decode cX12_child 36 = .ok (.iastore, 1) := by decide +kernel
theorem dX12_child_37 : decode cX12_child 37 = .ok (.return_, 1) := by decide +kernel
theorem dX12_goesOn_0 : decode cX12_goesOn 0 = .ok (.aload_n 0, 1) := by decide +kernel
theorem dX12_goesOn_1 : decode cX12_goesOn 1 = .ok (.iconst 0, 1) := by decide +kernel
theorem dX12_goesOn_2 : decode cX12_goesOn 2 = .ok (.invokevirtual 435, 3) := by decide +kernel
theorem dX12_goesOn_5 : decode cX12_goesOn 5 = .ok (.iconst 0, 1) := by decide +kernel
theorem dX12_goesOn_6 : decode cX12_goesOn 6 = .ok (.istore_n 1, 1) := by decide +kernel
theorem dX12_goesOn_7 : decode cX12_goesOn 7 = .ok (.iconst 0, 1) := by decide +kernel
theorem dX12_goesOn_8 : decode cX12_goesOn 8 = .ok (.istore_n 2, 1) := by decide +kernel
theorem dX12_goesOn_9 : decode cX12_goesOn 9 = .ok (.iload_n 2, 1) := by decide +kernel
theorem dX12_goesOn_10 : decode cX12_goesOn 10 = .ok (.aload_n 0, 1) := by decide +kernel
theorem dX12_goesOn_11 : decode cX12_goesOn 11 = .ok (.getfield 271, 3) := by decide +kernel
theorem dX12_goesOn_14 : decode cX12_goesOn 14 = .ok (.if_icmp .ge 72, 3) := by decide +kernel
theorem dX12_goesOn_17 : decode cX12_goesOn 17 = .ok (.aload_n 0, 1) := by decide +kernel
theorem dX12_goesOn_18 : decode cX12_goesOn 18 = .ok (.getfield 56, 3) := by decide +kernel
theorem dX12_goesOn_21 : decode cX12_goesOn 21 = .ok (.iload_n 2, 1) := by decide +kernel
theorem dX12_goesOn_22 : decode cX12_goesOn 22 = .ok (.iaload, 1) := by decide +kernel
theorem dX12_goesOn_23 : decode cX12_goesOn 23 = .ok (.bipush 6, 2) := by decide +kernel
theorem dX12_goesOn_25 : decode cX12_goesOn 25 = .ok (.if_icmp .ge 55, 3) := by decide +kernel
theorem dX12_goesOn_28 : decode cX12_goesOn 28 = .ok (.aload_n 0, 1) := by decide +kernel
theorem dX12_goesOn_29 : decode cX12_goesOn 29 = .ok (.getfield 41, 3) := by decide +kernel
theorem dX12_goesOn_32 : decode cX12_goesOn 32 = .ok (.iload_n 2, 1) := by decide +kernel
theorem dX12_goesOn_33 : decode cX12_goesOn 33 = .ok (.iaload, 1) := by decide +kernel
theorem dX12_goesOn_34 : decode cX12_goesOn 34 = .ok (.aload_n 0, 1) := by decide +kernel
theorem dX12_goesOn_35 : decode cX12_goesOn 35 = .ok (.getfield 41, 3) := by decide +kernel
theorem dX12_goesOn_38 : decode cX12_goesOn 38 = .ok (.bipush 6, 2) := by decide +kernel
theorem dX12_goesOn_40 : decode cX12_goesOn 40 = .ok (.aload_n 0, 1) := by decide +kernel
theorem dX12_goesOn_41 : decode cX12_goesOn 41 = .ok (.getfield 56, 3) := by decide +kernel
theorem dX12_goesOn_44 : decode cX12_goesOn 44 = .ok (.iload_n 2, 1) := by decide +kernel
theorem dX12_goesOn_45 : decode cX12_goesOn 45 = .ok (.iaload, 1) := by decide +kernel
theorem dX12_goesOn_46 : decode cX12_goesOn 46 = .ok (.iadd, 1) := by decide +kernel
theorem dX12_goesOn_47 : decode cX12_goesOn 47 = .ok (.iaload, 1) := by decide +kernel
theorem dX12_goesOn_48 : decode cX12_goesOn 48 = .ok (.iadd, 1) := by decide +kernel
theorem dX12_goesOn_49 : decode cX12_goesOn 49 = .ok (.iconst 2, 1) := by decide +kernel
theorem dX12_goesOn_50 : decode cX12_goesOn 50 = .ok (.idiv, 1) := by decide +kernel
theorem dX12_goesOn_51 : decode cX12_goesOn 51 = .ok (.istore_n 3, 1) := by decide +kernel
theorem dX12_goesOn_52 : decode cX12_goesOn 52 = .ok (.aload_n 0, 1) := by decide +kernel
theorem dX12_goesOn_53 : decode cX12_goesOn 53 = .ok (.iload_n 1, 1) := by decide +kernel
theorem dX12_goesOn_54 : decode cX12_goesOn 54 = .ok (.iload_n 3, 1) := by decide +kernel
theorem dX12_goesOn_55 : decode cX12_goesOn 55 = .ok (.iload_n 2, 1) := by decide +kernel
theorem dX12_goesOn_56 : decode cX12_goesOn 56 = .ok (.invokevirtual 561, 3) := by decide +kernel
theorem dX12_goesOn_59 : decode cX12_goesOn 59 = .ok (.aload_n 0, 1) := by decide +kernel
theorem dX12_goesOn_60 : decode cX12_goesOn 60 = .ok (.bipush 6, 2) := by decide +kernel
theorem dX12_goesOn_62 : decode cX12_goesOn 62 = .ok (.iload_n 1, 1) := by decide +kernel
theorem dX12_goesOn_63 : decode cX12_goesOn 63 = .ok (.iadd, 1) := by decide +kernel
theorem dX12_goesOn_64 : decode cX12_goesOn 64 = .ok (.iload_n 3, 1) := by decide +kernel
theorem dX12_goesOn_65 : decode cX12_goesOn 65 = .ok (.bipush 6, 2) := by decide +kernel
theorem dX12_goesOn_67 : decode cX12_goesOn 67 = .ok (.aload_n 0, 1) := by decide +kernel
theorem dX12_goesOn_68 : decode cX12_goesOn 68 = .ok (.getfield 56, 3) := by decide +kernel
theorem dX12_goesOn_71 : decode cX12_goesOn 71 = .ok (.iload_n 2, 1) := by decide +kernel
theorem dX12_goesOn_72 : decode cX12_goesOn 72 = .ok (.iaload, 1) := by decide +kernel
theorem dX12_goesOn_73 : decode cX12_goesOn 73 = .ok (.iadd, 1) := by decide +kernel
theorem dX12_goesOn_74 : decode cX12_goesOn 74 = .ok (.invokevirtual 561, 3) := by decide +kernel
theorem dX12_goesOn_77 : decode cX12_goesOn 77 = .ok (.iinc 1 1, 3) := by decide +kernel
theorem dX12_goesOn_80 : decode cX12_goesOn 80 = .ok (.iinc 2 1, 3) := by decide +kernel
theorem dX12_goesOn_83 : decode cX12_goesOn 83 = .ok (.goto (-74), 3) := by decide +kernel
theorem dX12_goesOn_86 : decode cX12_goesOn 86 = .ok (.aload_n 0, 1) := by decide +kernel
theorem dX12_goesOn_87 : decode cX12_goesOn 87 = .ok (.iload_n 1, 1) := by decide +kernel
theorem dX12_goesOn_88 : decode cX12_goesOn 88 = .ok (.putfield 271, 3) := by decide +kernel
theorem dX12_goesOn_91 : decode cX12_goesOn 91 = .ok (.aload_n 0, 1) := by decide +kernel
theorem dX12_goesOn_92 : decode cX12_goesOn 92 = .ok (.iload_n 1, 1) := by decide +kernel
theorem dX12_goesOn_93 : decode cX12_goesOn 93 = .ok (.putfield 274, 3) := by decide +kernel
theorem dX12_goesOn_96 : decode cX12_goesOn 96 = .ok (.iconst 0, 1) := by decide +kernel
theorem dX12_goesOn_97 : decode cX12_goesOn 97 = .ok (.istore_n 2, 1) := by decide +kernel
theorem dX12_goesOn_98 : decode cX12_goesOn 98 = .ok (.iload_n 2, 1) := by decide +kernel
theorem dX12_goesOn_99 : decode cX12_goesOn 99 = .ok (.bipush 12, 2) := by decide +kernel
theorem dX12_goesOn_101 : decode cX12_goesOn 101 = .ok (.if_icmp .ge 59, 3) := by decide +kernel
theorem dX12_goesOn_104 : decode cX12_goesOn 104 = .ok (.aload_n 0, 1) := by decide +kernel
theorem dX12_goesOn_105 : decode cX12_goesOn 105 = .ok (.getfield 41, 3) := by decide +kernel
theorem dX12_goesOn_108 : decode cX12_goesOn 108 = .ok (.iload_n 2, 1) := by decide +kernel
theorem dX12_goesOn_109 : decode cX12_goesOn 109 = .ok (.aload_n 0, 1) := by decide +kernel
theorem dX12_goesOn_110 : decode cX12_goesOn 110 = .ok (.getfield 97, 3) := by decide +kernel
theorem dX12_goesOn_113 : decode cX12_goesOn 113 = .ok (.iload_n 2, 1) := by decide +kernel
theorem dX12_goesOn_114 : decode cX12_goesOn 114 = .ok (.iaload, 1) := by decide +kernel
theorem dX12_goesOn_115 : decode cX12_goesOn 115 = .ok (.iastore, 1) := by decide +kernel
theorem dX12_goesOn_116 : decode cX12_goesOn 116 = .ok (.aload_n 0, 1) := by decide +kernel
theorem dX12_goesOn_117 : decode cX12_goesOn 117 = .ok (.getfield 44, 3) := by decide +kernel
theorem dX12_goesOn_120 : decode cX12_goesOn 120 = .ok (.iload_n 2, 1) := by decide +kernel
theorem dX12_goesOn_121 : decode cX12_goesOn 121 = .ok (.aload_n 0, 1) := by decide +kernel
theorem dX12_goesOn_122 : decode cX12_goesOn 122 = .ok (.getfield 97, 3) := by decide +kernel
theorem dX12_goesOn_125 : decode cX12_goesOn 125 = .ok (.bipush 12, 2) := by decide +kernel
theorem dX12_goesOn_127 : decode cX12_goesOn 127 = .ok (.iload_n 2, 1) := by decide +kernel
theorem dX12_goesOn_128 : decode cX12_goesOn 128 = .ok (.iadd, 1) := by decide +kernel
theorem dX12_goesOn_129 : decode cX12_goesOn 129 = .ok (.iaload, 1) := by decide +kernel
theorem dX12_goesOn_130 : decode cX12_goesOn 130 = .ok (.iastore, 1) := by decide +kernel
theorem dX12_goesOn_131 : decode cX12_goesOn 131 = .ok (.aload_n 0, 1) := by decide +kernel
theorem dX12_goesOn_132 : decode cX12_goesOn 132 = .ok (.getfield 50, 3) := by decide +kernel
theorem dX12_goesOn_135 : decode cX12_goesOn 135 = .ok (.iload_n 2, 1) := by decide +kernel
theorem dX12_goesOn_136 : decode cX12_goesOn 136 = .ok (.aload_n 0, 1) := by decide +kernel
theorem dX12_goesOn_137 : decode cX12_goesOn 137 = .ok (.getfield 97, 3) := by decide +kernel
theorem dX12_goesOn_140 : decode cX12_goesOn 140 = .ok (.bipush 24, 2) := by decide +kernel
theorem dX12_goesOn_142 : decode cX12_goesOn 142 = .ok (.iload_n 2, 1) := by decide +kernel
theorem dX12_goesOn_143 : decode cX12_goesOn 143 = .ok (.iadd, 1) := by decide +kernel
theorem dX12_goesOn_144 : decode cX12_goesOn 144 = .ok (.iaload, 1) := by decide +kernel
theorem dX12_goesOn_145 : decode cX12_goesOn 145 = .ok (.iastore, 1) := by decide +kernel
theorem dX12_goesOn_146 : decode cX12_goesOn 146 = .ok (.aload_n 0, 1) := by decide +kernel
theorem dX12_goesOn_147 : decode cX12_goesOn 147 = .ok (.getfield 47, 3) := by decide +kernel
theorem dX12_goesOn_150 : decode cX12_goesOn 150 = .ok (.iload_n 2, 1) := by decide +kernel
theorem dX12_goesOn_151 : decode cX12_goesOn 151 = .ok (.bipush 10, 2) := by decide +kernel
theorem dX12_goesOn_153 : decode cX12_goesOn 153 = .ok (.iastore, 1) := by decide +kernel
theorem dX12_goesOn_154 : decode cX12_goesOn 154 = .ok (.iinc 2 1, 3) := by decide +kernel
theorem dX12_goesOn_157 : decode cX12_goesOn 157 = .ok (.goto (-59), 3) := by decide +kernel
theorem dX12_goesOn_160 : decode cX12_goesOn 160 = .ok (.return_, 1) := by decide +kernel
set_option maxRecDepth 20000 in
theorem tm_5_171 : tMet TB0 5 171 = some (0, M_X5_bearChildren) := rfl
set_option maxRecDepth 20000 in
theorem tm_5_174 : tMet TB0 5 174 = some (0, M_X5_sumOfLengths) := rfl
set_option maxRecDepth 20000 in
theorem tm_11_315 : tMet TB0 11 315 = some (0, M_X5_descend) := rfl
set_option maxRecDepth 20000 in
theorem tm_12_561 : tMet TB0 12 561 = some (0, M_X12_child) := rfl
set_option maxHeartbeats 2000000 in
theorem zp_X5_descend {ad : mA} {dd : Nat} {h : mH} {Q : mQ} {y f : Nat} {g : Int → Int} (hk : mak h y) (hk1 : fgk h f) (HF : isF h f g)  (n : Int) (n_r : -2147483648 ≤ n ∧ n < 2147483648) (w : Int) (w_r : -2147483648 ≤ w ∧ w < 2147483648) (pd : y + 17 ≤ f ∨ f + 16 ≤ y + 1) (pd2 : f + 16 ≤ y + 33 ∨ y + 42 ≤ f) (p9 : 0 ≤ n ∧ n ≤ 9) (pw : 0 ≤ w ∧ w ≤ 2) (kq : ∀ v : Int, (lnQ g n w v) → ∀ h1, frm (fun a k => (y + 1 ≤ a ∧ a < y + 42)) h h1 → Q (some (.int (zI v))) h1) : mCal TB0 ad (dd + 6) M_X5_descend [.ref y, .ref f, .int (zI n), .int (zI w)] h 0 0 Q := by
  refine ⟨Nat.le_of_ble_eq_true rfl, ?_⟩
  show mEv TB0 ad M_X5_descend (dd + 6) (0, 0) (mCal TB0 ad (dd + 5)) (fun v h' z => z.1 = 0 ∧ Q v h') 0 [some (.ref y), some (.ref f), some (.int (zI n)), some (.int (zI w)), none] [] h (0, 0)
  have FR0 : frm (fun a k => (y + 1 ≤ a ∧ a < y + 42)) h h := frm_0 h
  have w1 := isF_n HF
  have W := isF_w HF
  refine e_aload_n dX5_descend_0 rfl ?_
  refine e_aload_n dX5_descend_1 rfl ?_
  refine z_iconst (1) dX5_descend_2 rfl ?_
  refine e_callV [.ref _, .int _] dX5_descend_3 tm_5_164 rfl (Nat.le_of_ble_eq_true rfl) (congrArg Prod.fst (ma_s0 hk)) (Nat.le_of_ble_eq_true rfl) (Nat.le_refl _) (Nat.le_refl _) rfl (zp_X5_pick_1 hk hk1 HF (by omega) (by omega) (fun  h1 f2 p3 p4 p5 => ?_))
  have k6 := lk_q (frm_s f2) hk
  have k7 := lk_q (frm_s f2) hk1
  have H8 := isF_c f2 (fun a k q1 q2 => by omega) HF
  have FR9 := frm_t FR0 (frm_m (S' := (fun a k => (y + 1 ≤ a ∧ a < y + 42))) f2 (fun a k q => by omega))
  obtain ⟨r0, M0, T0⟩ := p5
  refine z_iconst (0) dX5_descend_6 rfl ?_
  refine e_istore (L' := [_, _, _, _, _]) dX5_descend_7 (Nat.le_of_ble_eq_true rfl) rfl ?_
  have lp10 : ∀ (n10 : Nat) (i : Int) (h10 : mH), (n - i).toNat = n10 → (mak h10 y) → (fgk h10 f) → (frm (fun a k => (y + 1 ≤ a ∧ a < y + 42)) h h10) → (0 ≤ i ∧ i ≤ n) → (∃ g' r, lnP g i.toNat g' ∧ isF h10 (y + 1) g' ∧ bdC h10 y g' ∧ mrC h10 y g' r ∧ stn g' r) → mEv TB0 ad M_X5_descend (dd + 6) (0, 0) (mCal TB0 ad (dd + 5)) (fun v h' z => z.1 = 0 ∧ Q v h') 9 [some (.ref y), some (.ref f), some (.int (zI n)), some (.int (zI w)), some (.int (zI i))] [] h10 (0, 0) := by
    intro n10
    induction n10 using Nat.strongRecOn with
    | ind n10 ih10 =>
    intro i h10 hn10 k11 k12 FR13 I1 IX
    refine e_iload dX5_descend_9 rfl ?_
    refine e_iload_n dX5_descend_11 rfl ?_
    refine z_icmp_ge 34 dX5_descend_12 rfl ⟨by omega, by omega⟩ ⟨by omega, by omega⟩ (fun c14 => ?_) (fun c14 => ?_)
    · skip
      obtain ⟨g', r, LN, F', D', M1, T'⟩ := IX
      have M' := mrC_e (rn_in (r := r)) M1
      have nb := isF_n F'
      have LG : lnP g n.toNat g' := by rw [show n = i by omega]; exact LN
      refine e_iload_n dX5_descend_34 rfl ?_
      refine z_if_ne 49 dX5_descend_35 rfl ⟨by omega, by omega⟩ (fun c15 => ?_) (fun c15 => ?_)
      · skip
        refine e_iload_n dX5_descend_49 rfl ?_
        refine z_iconst (1) dX5_descend_50 rfl ?_
        refine z_icmp_ne 61 dX5_descend_51 rfl ⟨by omega, by omega⟩ ⟨by omega, by omega⟩ (fun c16 => ?_) (fun c16 => ?_)
        · skip
          refine e_aload_n dX5_descend_61 rfl ?_
          refine e_callV [] dX5_descend_62 tm_5_174 rfl (Nat.le_of_ble_eq_true rfl) (congrArg Prod.fst (ma_s0 k11)) (Nat.le_of_ble_eq_true rfl) (Nat.le_refl _) (Nat.le_refl _) rfl (zp_X5_sumOfLengths k11 F' ?_)
          refine z_iret dX5_descend_65 rfl ⟨rfl, ?_⟩
          first | exact kq _ (Or.inl ⟨by omega, by omega, g', LG, Or.inl ⟨by omega, rfl⟩⟩) _ FR13 | exact kq _ (Or.inl ⟨by omega, by omega, g', LG, Or.inr (Or.inl ⟨by omega, rnZ r, M'.1.1, stn_e nb.1.2 rn_in T', rfl⟩)⟩) _ FR13 | exact kq _ (Or.inl ⟨by omega, by omega, g', LG, Or.inr (Or.inr ⟨by omega, rfl⟩)⟩) _ FR13
        · skip
          refine e_aload_n dX5_descend_54 rfl ?_
          refine e_callV [] dX5_descend_55 tm_5_137 rfl (Nat.le_of_ble_eq_true rfl) (congrArg Prod.fst (ma_s0 k11)) (Nat.le_of_ble_eq_true rfl) (Nat.le_refl _) (Nat.le_refl _) rfl (zp_X5_sumOfFits k11 F' D' M' ?_)
          have y17 := sfR_b g' (rnZ r)
          refine e_goto 65 dX5_descend_58 rfl ?_
          refine z_iret dX5_descend_65 rfl ⟨rfl, ?_⟩
          first | exact kq _ (Or.inl ⟨by omega, by omega, g', LG, Or.inl ⟨by omega, rfl⟩⟩) _ FR13 | exact kq _ (Or.inl ⟨by omega, by omega, g', LG, Or.inr (Or.inl ⟨by omega, rnZ r, M'.1.1, stn_e nb.1.2 rn_in T', rfl⟩)⟩) _ FR13 | exact kq _ (Or.inl ⟨by omega, by omega, g', LG, Or.inr (Or.inr ⟨by omega, rfl⟩)⟩) _ FR13
      · skip
        refine e_aload_n dX5_descend_38 rfl ?_
        refine e_get (.ref (y + 1)) dX5_descend_39 tf_5_12 (congrArg Prod.fst (ma_s0 k11)) (congrArg va_rf (ma_r0_0 k11)) ?_
        refine e_get (.ref (y + 2)) dX5_descend_42 tf_5_53 (congrArg Prod.fst (ma_s1 k11)) (congrArg va_rf (ma_r1_0 k11)) ?_
        refine z_get (nd g') dX5_descend_45 tf_5_57 (congrArg Prod.fst (ma_s2 k11)) (Or.inl rfl) (isF_nd F') ?_
        have y18 := isF_n F'
        refine z_iret dX5_descend_48 rfl ⟨rfl, ?_⟩
        first | exact kq _ (Or.inl ⟨by omega, by omega, g', LG, Or.inl ⟨by omega, rfl⟩⟩) _ FR13 | exact kq _ (Or.inl ⟨by omega, by omega, g', LG, Or.inr (Or.inl ⟨by omega, rnZ r, M'.1.1, stn_e nb.1.2 rn_in T', rfl⟩)⟩) _ FR13 | exact kq _ (Or.inl ⟨by omega, by omega, g', LG, Or.inr (Or.inr ⟨by omega, rfl⟩)⟩) _ FR13
    · skip
      obtain ⟨g', r, LN, F', D', M1, T'⟩ := IX
      have M' := mrC_e (rn_in (r := r)) M1
      have nb := isF_n F'
      refine e_aload_n dX5_descend_15 rfl ?_
      refine e_callV [] dX5_descend_16 tm_5_171 rfl (Nat.le_of_ble_eq_true rfl) (congrArg Prod.fst (ma_s0 k11)) (Nat.le_of_ble_eq_true rfl) (Nat.le_refl _) (Nat.le_refl _) rfl (zp_X5_bearChildren k11 F' M' (fun  h19 f20 p21 => ?_))
      have k22 := lk_q (frm_s f20) k11
      have k23 := lk_q (frm_s f20) k12
      have H24 := isF_c f20 (fun a k q1 q2 => by omega) F'
      have H25 := bdC_c f20 (fun a k q => by omega) D'
      have H26 := mrC_c f20 (fun a k q => by omega) M'
      have FR27 := frm_t FR13 (frm_m (S' := (fun a k => (y + 1 ≤ a ∧ a < y + 42))) f20 (fun a k q => by omega))
      refine e_aload_n dX5_descend_19 rfl ?_
      refine e_aload_n dX5_descend_20 rfl ?_
      refine e_get (.ref (y + 17)) dX5_descend_21 tf_5_18 (congrArg Prod.fst (ma_s0 k22)) (congrArg va_rf (ma_r0_1 k22)) ?_
      refine z_iconst (1) dX5_descend_24 rfl ?_
      refine e_callV [.ref _, .int _] dX5_descend_25 tm_5_164 rfl (Nat.le_of_ble_eq_true rfl) (congrArg Prod.fst (ma_s0 k22)) (Nat.le_of_ble_eq_true rfl) (Nat.le_refl _) (Nat.le_refl _) rfl (zp_X5_pick_1 k22 (ma_fg17 k22) p21 (by omega) (by omega) (fun  h28 f29 p30 p31 p32 => ?_))
      have k33 := lk_q (frm_s f29) k22
      have k34 := lk_q (frm_s f29) k23
      have H35 := isF_c f29 (fun a k q1 q2 => by omega) p21
      have FR36 := frm_t FR27 (frm_m (S' := (fun a k => (y + 1 ≤ a ∧ a < y + 42))) f29 (fun a k q => by omega))
      obtain ⟨r2, M2, T2⟩ := p32
      refine z_iinc (L' := [_, _, _, _, _]) dX5_descend_28 rfl rfl ?_
      refine e_goto 9 dX5_descend_31 rfl ?_
      exact ih10 _ (by omega) (i + 1) h28 rfl k33 k34 FR36 (by omega) (⟨chF g' (rnZ r), r2, by rw [show (i + 1).toNat = i.toNat + 1 by omega]; exact ⟨g', r, LN, M1.1.1, T', rfl⟩, p30, p31, M2, T2⟩)
  exact lp10 _ 0 h1 rfl k6 k7 FR9 (by omega) (⟨g, r0, rfl, p3, p4, M0, T0⟩)
set_option maxHeartbeats 1000000 in
theorem zp_X11_line_in {ad : mA} {dd : Nat} {h : mH} {Q : mQ} {x : Nat} {σ : Sg} (hk : bk h x) (HX : clsT h (x + 1) σ)  (f : Int) (f_r : -2147483648 ≤ f ∧ f < 2147483648) (n : Int) (n_r : -2147483648 ≤ n ∧ n < 2147483648) (w : Int) (w_r : -2147483648 ≤ w ∧ w < 2147483648) (p1 : 0 ≤ f) (p2 : f < cn σ 0) (kq : ∀ v : Int, (lnQ (sG σ f) n w v) → ∀ h1, frm (fun a i => x + 56 ≤ a ∧ a < x + 157) h h1 → Q (some (.int (zI v))) h1) : mCal TB0 ad (dd + 7) M_X11_line [.ref x, .int (zI f), .int (zI n), .int (zI w)] h 0 0 Q := by
  refine ⟨Nat.le_of_ble_eq_true rfl, ?_⟩
  show mEv TB0 ad M_X11_line (dd + 7) (0, 0) (mCal TB0 ad (dd + 6)) (fun v h' z => z.1 = 0 ∧ Q v h') 0 [some (.ref x), some (.int (zI f)), some (.int (zI n)), some (.int (zI w)), none] [] h (0, 0)
  have FR0 : frm (fun a i => x + 56 ≤ a ∧ a < x + 157) h h := frm_0 h
  have w1 := wS_n (clsT_w HX)
  have W := (clsT_w HX).2.2.1 f p1 p2
  refine e_aload_n dX11_line_0 rfl ?_
  refine e_get (.ref (x + 1)) dX11_line_1 tf_11_10 (congrArg Prod.fst (bk_s0 hk)) (congrArg va_rf (bk_r0_0 hk)) ?_
  refine e_iload_n dX11_line_4 rfl ?_
  refine e_callV [.int _] dX11_line_5 tm_11_94 rfl (Nat.le_of_ble_eq_true rfl) (congrArg Prod.fst (bk_s1 hk)) (Nat.le_of_ble_eq_true rfl) (Nat.le_refl _) (Nat.le_refl _) rfl (zp_X8_forgeAt_in (bk_td1 hk) HX f ⟨by omega, by omega⟩ (by omega) (by omega) ?_)
  have k1 := fAt_k (bk_td1 hk) f
  have H2 := clsT_F HX (show 0 ≤ f by omega) (by omega)
  have y3 := fAt_b (x + 1) f
  refine e_astore (L' := [_, _, _, _, _]) dX11_line_8 (Nat.le_of_ble_eq_true rfl) rfl ?_
  refine e_aload dX11_line_10 rfl ?_
  refine e_ifnull 34 dX11_line_12 rfl ?_
  refine e_iload_n dX11_line_15 rfl ?_
  refine z_if_lt 34 dX11_line_16 rfl ⟨by omega, by omega⟩ (fun c4 => ?_) (fun c4 => ?_)
  · skip
    refine z_iconst (-1) dX11_line_34 rfl ?_
    refine z_iret dX11_line_35 rfl ⟨rfl, ?_⟩
    exact kq _ (Or.inr ⟨by omega, rfl⟩) _ FR0
  · skip
    refine e_iload_n dX11_line_19 rfl ?_
    refine z_bipush (9) dX11_line_20 rfl ?_
    refine z_icmp_gt 34 dX11_line_22 rfl ⟨by omega, by omega⟩ ⟨by omega, by omega⟩ (fun c5 => ?_) (fun c5 => ?_)
    · skip
      refine z_iconst (-1) dX11_line_34 rfl ?_
      refine z_iret dX11_line_35 rfl ⟨rfl, ?_⟩
      exact kq _ (Or.inr ⟨by omega, rfl⟩) _ FR0
    · skip
      refine e_iload_n dX11_line_25 rfl ?_
      refine z_if_lt 34 dX11_line_26 rfl ⟨by omega, by omega⟩ (fun c6 => ?_) (fun c6 => ?_)
      · skip
        refine z_iconst (-1) dX11_line_34 rfl ?_
        refine z_iret dX11_line_35 rfl ⟨rfl, ?_⟩
        exact kq _ (Or.inr ⟨by omega, rfl⟩) _ FR0
      · skip
        refine e_iload_n dX11_line_29 rfl ?_
        refine z_iconst (2) dX11_line_30 rfl ?_
        refine z_icmp_le 36 dX11_line_31 rfl ⟨by omega, by omega⟩ ⟨by omega, by omega⟩ (fun c7 => ?_) (fun c7 => ?_)
        · skip
          refine e_aload_n dX11_line_36 rfl ?_
          refine e_get (.ref (x + 100)) dX11_line_37 tf_11_37 (congrArg Prod.fst (bk_s0 hk)) (congrArg va_rf (bk_r0_4 hk)) ?_
          refine e_aload dX11_line_40 rfl ?_
          refine e_iload_n dX11_line_42 rfl ?_
          refine e_iload_n dX11_line_43 rfl ?_
          refine e_callV [.ref _, .int _, .int _] dX11_line_44 tm_11_315 rfl (Nat.le_of_ble_eq_true rfl) (congrArg Prod.fst (bk_s100 hk)) (Nat.le_of_ble_eq_true rfl) (Nat.le_refl _) (Nat.le_refl _) rfl (zp_X5_descend (bk_ma100 hk) k1 H2 n ⟨by omega, by omega⟩ w ⟨by omega, by omega⟩ (by omega) (by omega) (by omega) (by omega) (fun v8 p9 h10 f11  => ?_))
          have k12 := bk_q (frm_s f11) hk
          have k13 := lk_q (frm_s f11) k1
          have H14 := clsT_c f11 (fun a k q1 q2 => by omega) HX
          have H15 := isF_c f11 (fun a k q1 q2 => by omega) H2
          have FR16 := frm_t FR0 (frm_m (S' := (fun a i => x + 56 ≤ a ∧ a < x + 157)) f11 (fun a k q => by omega))
          refine z_iret dX11_line_47 rfl ⟨rfl, ?_⟩
          exact kq _ (by assumption) _ FR16
        · skip
          refine z_iconst (-1) dX11_line_34 rfl ?_
          refine z_iret dX11_line_35 rfl ⟨rfl, ?_⟩
          exact kq _ (Or.inr ⟨by omega, rfl⟩) _ FR0
set_option maxHeartbeats 400000 in
theorem zp_X11_line_out {ad : mA} {dd : Nat} {h : mH} {Q : mQ} {x : Nat} {σ : Sg} (hk : bk h x) (HX : clsT h (x + 1) σ)  (f : Int) (f_r : -2147483648 ≤ f ∧ f < 2147483648) (n : Int) (n_r : -2147483648 ≤ n ∧ n < 2147483648) (w : Int) (w_r : -2147483648 ≤ w ∧ w < 2147483648) (p1 : ¬ (0 ≤ f ∧ f < cn σ 0)) (kq : Q (some (.int (zI (-1)))) h) : mCal TB0 ad (dd + 7) M_X11_line [.ref x, .int (zI f), .int (zI n), .int (zI w)] h 0 0 Q := by
  refine ⟨Nat.le_of_ble_eq_true rfl, ?_⟩
  show mEv TB0 ad M_X11_line (dd + 7) (0, 0) (mCal TB0 ad (dd + 6)) (fun v h' z => z.1 = 0 ∧ Q v h') 0 [some (.ref x), some (.int (zI f)), some (.int (zI n)), some (.int (zI w)), none] [] h (0, 0)
  have w1 := wS_n (clsT_w HX)
  refine e_aload_n dX11_line_0 rfl ?_
  refine e_get (.ref (x + 1)) dX11_line_1 tf_11_10 (congrArg Prod.fst (bk_s0 hk)) (congrArg va_rf (bk_r0_0 hk)) ?_
  refine e_iload_n dX11_line_4 rfl ?_
  refine e_callV [.int _] dX11_line_5 tm_11_94 rfl (Nat.le_of_ble_eq_true rfl) (congrArg Prod.fst (bk_s1 hk)) (Nat.le_of_ble_eq_true rfl) (Nat.le_refl _) (Nat.le_refl _) rfl (zp_X8_forgeAt_out (bk_td1 hk) HX f ⟨by omega, by omega⟩ (by omega) ?_)
  refine e_astoreN (L' := [_, _, _, _, _]) dX11_line_8 (Nat.le_of_ble_eq_true rfl) rfl ?_
  refine e_aloadN dX11_line_10 rfl ?_
  refine e_ifnullN 34 dX11_line_12 rfl ?_
  refine z_iconst (-1) dX11_line_34 rfl ?_
  refine z_iret dX11_line_35 rfl ⟨rfl, ?_⟩
  refine z_q kq ?_
  rfl
def ch1 (h h1 : mH) (m : Nat) (p l q : Int) : Prop := rI h1 (m + 29) p = l ∧ rI h1 (m + 29) (12 + p) = rI h (m + 12) q ∧ rI h1 (m + 29) (24 + p) = rI h (m + 14) q
set_option maxHeartbeats 400000 in
theorem zp_X12_child {ad : mA} {dd : Nat} {h : mH} {Q : mQ} {m : Nat}  (hk : rk h m)  (p : Int) (p_r : -2147483648 ≤ p ∧ p < 2147483648) (l : Int) (l_r : -2147483648 ≤ l ∧ l < 2147483648) (q : Int) (q_r : -2147483648 ≤ q ∧ q < 2147483648) (p1 : 0 ≤ p ∧ p < 12) (p2 : 0 ≤ q ∧ q < 12) (kq : ∀ h1, frm (fun a k => a = m + 29 ∧ (k = p.toNat ∨ k = (12 + p).toNat ∨ k = (24 + p).toNat)) h h1 → (ch1 h h1 m p l q) → Q none h1) : mCal TB0 ad (dd + 1) M_X12_child [.ref m, .int (zI p), .int (zI l), .int (zI q)] h 0 0 Q := by
  refine ⟨Nat.le_of_ble_eq_true rfl, ?_⟩
  show mEv TB0 ad M_X12_child (dd + 1) (0, 0) (mCal TB0 ad (dd + 0)) (fun v h' z => z.1 = 0 ∧ Q v h') 0 [some (.ref m), some (.int (zI p)), some (.int (zI l)), some (.int (zI q))] [] h (0, 0)
  have FR0 : frm (fun a k => a = m + 29 ∧ (k = p.toNat ∨ k = (12 + p).toNat ∨ k = (24 + p).toNat)) h h := frm_0 h
  refine e_aload_n dX12_child_0 rfl ?_
  refine e_get (.ref (m + 29)) dX12_child_1 tf_12_97 (rk_s hk) (congrArg va_rf (rk_r29 hk)) ?_
  refine e_iload_n dX12_child_4 rfl ?_
  refine e_iload_n dX12_child_5 rfl ?_
  refine z_ist dX12_child_6 (rk_a29 hk) (by decide) (by omega) (by omega) (fun h1 e2 => ?_)
  have f3 := frm_1 e2
  have k4 := rk_q (frm_s f3) hk
  have FR5 := frm_t FR0 (frm_m (S' := (fun a k => a = m + 29 ∧ (k = p.toNat ∨ k = (12 + p).toNat ∨ k = (24 + p).toNat))) f3 (fun a k q => by omega))
  refine e_aload_n dX12_child_7 rfl ?_
  refine e_get (.ref (m + 29)) dX12_child_8 tf_12_97 (rk_s k4) (congrArg va_rf (rk_r29 k4)) ?_
  refine z_bipush (12) dX12_child_11 rfl ?_
  refine e_iload_n dX12_child_13 rfl ?_
  refine z_iadd dX12_child_14 ?_
  refine e_aload_n dX12_child_15 rfl ?_
  refine e_get (.ref (m + 12)) dX12_child_16 tf_12_44 (rk_s k4) (congrArg va_rf (rk_r12 k4)) ?_
  refine e_iload_n dX12_child_19 rfl ?_
  refine z_ild (rI h (m + 12) q) dX12_child_20 (rk_a12 k4) (by decide) (by omega) (by omega) (frm_r f3 (by omega)) ?_
  have y6 := rI_i h (m + 12) q
  refine z_ist dX12_child_21 (rk_a29 k4) (by decide) (by omega) (by omega) (fun h7 e8 => ?_)
  have f9 := frm_1 e8
  have k10 := rk_q (frm_s f9) k4
  have FR11 := frm_t FR5 (frm_m (S' := (fun a k => a = m + 29 ∧ (k = p.toNat ∨ k = (12 + p).toNat ∨ k = (24 + p).toNat))) f9 (fun a k q => by omega))
  refine e_aload_n dX12_child_22 rfl ?_
  refine e_get (.ref (m + 29)) dX12_child_23 tf_12_97 (rk_s k10) (congrArg va_rf (rk_r29 k10)) ?_
  refine z_bipush (24) dX12_child_26 rfl ?_
  refine e_iload_n dX12_child_28 rfl ?_
  refine z_iadd dX12_child_29 ?_
  refine e_aload_n dX12_child_30 rfl ?_
  refine e_get (.ref (m + 14)) dX12_child_31 tf_12_50 (rk_s k10) (congrArg va_rf (rk_r14 k10)) ?_
  refine e_iload_n dX12_child_34 rfl ?_
  refine z_ild (rI h (m + 14) q) dX12_child_35 (rk_a14 k10) (by decide) (by omega) (by omega) ((frm_r f9 (by omega)).trans (frm_r f3 (by omega))) ?_
  have y12 := rI_i h (m + 14) q
  refine z_ist dX12_child_36 (rk_a29 k10) (by decide) (by omega) (by omega) (fun h13 e14 => ?_)
  have f15 := frm_1 e14
  have k16 := rk_q (frm_s f15) k10
  have FR17 := frm_t FR11 (frm_m (S' := (fun a k => a = m + 29 ∧ (k = p.toNat ∨ k = (12 + p).toNat ∨ k = (24 + p).toNat))) f15 (fun a k q => by omega))
  refine e_vret dX12_child_37 rfl ⟨rfl, ?_⟩
  exact kq _ FR17 ⟨(((frm_r f15 (by omega)).trans (frm_r f9 (by omega))).trans (rI_eq e2 ⟨by omega, by omega⟩)), ((frm_r f15 (by omega)).trans (rI_eq e8 ⟨by omega, by omega⟩)), (rI_eq e14 ⟨by omega, by omega⟩)⟩
/-- the children of the first d fathers, as the reference lays them -/
def rcI (h : mH) (m : Nat) (g r : Int → Int) (d : Int) : Prop := ∀ x : Int, 0 ≤ x → x < d → r x < 6 → (rI h (m + 29) (cnZ r x) = hlZ g r x ∧ rI h (m + 29) (12 + cnZ r x) = ds g x ∧ rI h (m + 29) (24 + cnZ r x) = dh g x) ∧ (rI h (m + 29) (6 + cnZ r x) = hlZ g r x ∧ rI h (m + 29) (12 + (6 + cnZ r x)) = us g (r x) ∧ rI h (m + 29) (24 + (6 + cnZ r x)) = uh g (r x))
theorem rcI_n {h : mH} {m : Nat} {g r : Int → Int} {d : Int} (q : ¬ r d < 6) (H : rcI h m g r d) : rcI h m g r (d + 1) := fun x a c z => H x a (by
  by_cases w : x = d
  · rw [w] at z; exact absurd z q
  · omega) z
theorem rcI_y {h h1 h2 : mH} {m : Nat} {g r : Int → Int} {d : Int} (d0 : 0 ≤ d) (d6 : d < 6) (q : 0 ≤ r d ∧ r d < 6) (s0 : rI h (m + 12) d = ds g d) (s1 : rI h1 (m + 12) (6 + r d) = us g (r d)) (t0 : rI h (m + 14) d = dh g d) (t1 : rI h1 (m + 14) (6 + r d) = uh g (r d)) (H : rcI h m g r d) (f1 : frm (fun a k => a = m + 29 ∧ (k = (cnZ r d).toNat ∨ k = (12 + cnZ r d).toNat ∨ k = (24 + cnZ r d).toNat)) h h1) (a1 : ch1 h h1 m (cnZ r d) (hlZ g r d) d) (f2 : frm (fun a k => a = m + 29 ∧ (k = (6 + cnZ r d).toNat ∨ k = (12 + (6 + cnZ r d)).toNat ∨ k = (24 + (6 + cnZ r d)).toNat)) h1 h2) (a2 : ch1 h1 h2 m (6 + cnZ r d) (hlZ g r d) (6 + r d)) : rcI h2 m g r (d + 1) := by
  have cb := cn_b r d0
  obtain ⟨a11, a12, a13⟩ := a1
  obtain ⟨a21, a22, a23⟩ := a2
  have k1 : ∀ (a : Nat) (z : Int), ¬ (a = m + 29 ∧ (z.toNat = (cnZ r d).toNat ∨ z.toNat = (12 + cnZ r d).toNat ∨ z.toNat = (24 + cnZ r d).toNat)) → rI h1 a z = rI h a z := fun a z n => frm_r f1 n
  have k2 : ∀ (a : Nat) (z : Int), ¬ (a = m + 29 ∧ (z.toNat = (6 + cnZ r d).toNat ∨ z.toNat = (12 + (6 + cnZ r d)).toNat ∨ z.toNat = (24 + (6 + cnZ r d)).toNat)) → rI h2 a z = rI h1 a z := fun a z n => frm_r f2 n
  intro x a c z
  by_cases w : x = d
  · rw [w]
    refine ⟨⟨?_, ?_, ?_⟩, a21, a22.trans s1, a23.trans t1⟩
    · rw [k2 _ _ (by omega)]; exact a11
    · rw [k2 _ _ (by omega)]; exact a12.trans s0
    · rw [k2 _ _ (by omega)]; exact a13.trans t0
  · have l := cn_lt (r := r) a (show x < d by omega) z
    have xb := cn_b r a
    obtain ⟨⟨p1, p2, p3⟩, p4, p5, p6⟩ := H x a (by omega) z
    refine ⟨⟨?_, ?_, ?_⟩, ?_, ?_, ?_⟩
    · rw [k2 _ _ (by omega), k1 _ _ (by omega)]; exact p1
    · rw [k2 _ _ (by omega), k1 _ _ (by omega)]; exact p2
    · rw [k2 _ _ (by omega), k1 _ _ (by omega)]; exact p3
    · rw [k2 _ _ (by omega), k1 _ _ (by omega)]; exact p4
    · rw [k2 _ _ (by omega), k1 _ _ (by omega)]; exact p5
    · rw [k2 _ _ (by omega), k1 _ _ (by omega)]; exact p6
theorem rcI_q {h h1 : mH} {m : Nat} {g r : Int → Int} {d : Int} (e : ∀ z : Int, rI h1 (m + 29) z = rI h (m + 29) z) (H : rcI h m g r d) : rcI h1 m g r d := fun x a c z => by
  rw [e, e, e, e, e, e]; exact H x a c z
def rcJ (h : mH) (m : Nat) (k : Int) : Prop := ∀ j : Int, 0 ≤ j → j < k → rI h (m + 11) j = rI h (m + 29) j ∧ rI h (m + 12) j = rI h (m + 29) (12 + j) ∧ rI h (m + 14) j = rI h (m + 29) (24 + j) ∧ rI h (m + 13) j = 10
theorem rcB {h : mH} {m : Nat} {g r : Int → Int} (w : wfB g) (rw_ : isRw g r) (e1 : rI h m 24 = inR r) (e2 : rI h m 25 = inR r) (H : rcI h m g r (nd g)) (J : rcJ h m 12) : rB h m (chF g r) := by
  have ib := inR_b r
  have key : ∀ i : Int, 0 ≤ i → i < inR r → ∃ x, fth r i = x ∧ cnZ r x = i ∧ (rI h (m + 29) (cnZ r x) = hlZ g r x ∧ rI h (m + 29) (12 + cnZ r x) = ds g x ∧ rI h (m + 29) (24 + cnZ r x) = dh g x) ∧ (rI h (m + 29) (6 + cnZ r x) = hlZ g r x ∧ rI h (m + 29) (12 + (6 + cnZ r x)) = us g (r x) ∧ rI h (m + 29) (24 + (6 + cnZ r x)) = uh g (r x)) := fun i a c => by
    obtain ⟨x, x1, x2, x3, x4⟩ := ch_x (g := g) a c
    have := isRw_f rw_ x1.1 x1.2
    exact ⟨x, x4, x3, H x x1.1 (by omega) x2⟩
  refine ⟨(ch_w w rw_).1, ⟨e1, e2⟩, ⟨fun i a c => ?_, fun i a c => ?_⟩, ⟨fun i a c => ?_, fun i a c => ?_⟩, ⟨fun i a c => ?_, fun i a c => ?_⟩, fun i a c => ?_, fun i a c => ?_⟩
  all_goals
    have c : i < inR r := c
    obtain ⟨x, x1, x2, p, q⟩ := key i a c
    rw [x2] at p q
  · rw [ch_dl a (by omega), x1, (J i a (by omega)).1]; exact p.1
  · rw [ch_ul a (by omega), x1, (J (6 + i) (by omega) (by omega)).1]; exact q.1
  · rw [ch_ds a (by omega), x1, (J i a (by omega)).2.1]; exact p.2.1
  · rw [ch_us a (by omega), x1, (J (6 + i) (by omega) (by omega)).2.1]; exact q.2.1
  · rw [ch_de a (by omega), (J i a (by omega)).2.2.2]
  · rw [ch_ue a (by omega), (J (6 + i) (by omega) (by omega)).2.2.2]
  · rw [ch_dh a (by omega), x1, (J i a (by omega)).2.2.1]; exact p.2.2
  · rw [ch_uh a (by omega), x1, (J (6 + i) (by omega) (by omega)).2.2.1]; exact q.2.2
set_option maxHeartbeats 4000000 in
theorem zp_X12_goesOn {ad : mA} {dd : Nat} {h : mH} {Q : mQ} {m : Nat} {g : Int → Int} (hk : rk h m) (HB : rB h m g)    (kq : ∀ h1, frm (fun a k => (a = m ∧ (k = 24 ∨ k = 25)) ∨ (m + 11 ≤ a ∧ a < m + 15) ∨ (m + 16 ≤ a ∧ a ≤ m + 21) ∨ a = m + 29) h h1 → (∃ r, (isRw g r ∧ stn g r) ∧ rB h1 m (chF g (rnZ r))) → Q none h1) : mCal TB0 ad (dd + 6) M_X12_goesOn [.ref m] h 0 0 Q := by
  refine ⟨Nat.le_of_ble_eq_true rfl, ?_⟩
  show mEv TB0 ad M_X12_goesOn (dd + 6) (0, 0) (mCal TB0 ad (dd + 5)) (fun v h' z => z.1 = 0 ∧ Q v h') 0 [some (.ref m), none, none, none] [] h (0, 0)
  have FR0 : frm (fun a k => (a = m ∧ (k = 24 ∨ k = 25)) ∨ (m + 11 ≤ a ∧ a < m + 15) ∨ (m + 16 ≤ a ∧ a ≤ m + 21) ∨ a = m + 29) h h := frm_0 h
  have w1 := rB_n HB
  have w2 := rB_nd HB
  have w3 := rB_nu HB
  refine e_aload_n dX12_goesOn_0 rfl ?_
  refine z_iconst (0) dX12_goesOn_1 rfl ?_
  refine e_callV [.int _] dX12_goesOn_2 tm_12_435 rfl (Nat.le_of_ble_eq_true rfl) (rk_s hk) (Nat.le_of_ble_eq_true rfl) (Nat.le_refl _) (Nat.le_refl _) rfl (zp_X12_layAsked_0 hk HB (fun  h1 f2 p3 => ?_))
  have k4 := rk_q (frm_s f2) hk
  have H5 := rB_c f2 (fun a k q => by omega) HB
  have FR6 := frm_t FR0 (frm_m (S' := (fun a k => (a = m ∧ (k = 24 ∨ k = 25)) ∨ (m + 11 ≤ a ∧ a < m + 15) ∨ (m + 16 ≤ a ∧ a ≤ m + 21) ∨ a = m + 29)) f2 (fun a k q => by omega))
  obtain ⟨r, RW0, SR⟩ := p3
  have RW1 : rRw h1 m g (rnZ r) := ⟨⟨isRw_e RW0.1.1 rn_in, isRw_b (by omega) (isRw_e RW0.1.1 rn_in)⟩, fun d a c => (RW0.2 d a c).trans (rn_in d a c).symm⟩
  obtain ⟨rr, eR⟩ : ∃ rr, rr = rnZ r := ⟨_, rfl⟩
  have RW : rRw h1 m g rr := by rw [eR]; exact RW1
  have RX : isRw g rr := RW.1.1
  refine z_iconst (0) dX12_goesOn_5 rfl ?_
  refine e_istore_n (L' := [_, _, _, _]) dX12_goesOn_6 (Nat.le_of_ble_eq_true rfl) rfl ?_
  refine z_iconst (0) dX12_goesOn_7 rfl ?_
  refine e_istore_n (L' := [_, _, _, _]) dX12_goesOn_8 (Nat.le_of_ble_eq_true rfl) rfl ?_
  have lp7 : ∀ (n7 : Nat) (n d : Int) (h7 : mH), (nd g - d).toNat = n7 → (rk h7 m) → (rB h7 m g) → (rRw h7 m g rr) → (frm (fun a k => (a = m ∧ (k = 24 ∨ k = 25)) ∨ (m + 11 ≤ a ∧ a < m + 15) ∨ (m + 16 ≤ a ∧ a ≤ m + 21) ∨ a = m + 29) h h7) → (0 ≤ d ∧ d ≤ nd g) → (n = cnZ rr d) → (rcI h7 m g rr d) → mEv TB0 ad M_X12_goesOn (dd + 6) (0, 0) (mCal TB0 ad (dd + 5)) (fun v h' z => z.1 = 0 ∧ Q v h') 9 [some (.ref m), some (.int (zI n)), some (.int (zI d)), none] [] h7 (0, 0) := by
    intro n7
    induction n7 using Nat.strongRecOn with
    | ind n7 ih7 =>
    intro n d h7 hn7 k8 H9 H10 FR11 I1 I2 I3
    refine e_iload_n dX12_goesOn_9 rfl ?_
    have cb := cn_b rr (show 0 ≤ d by omega)
    refine e_aload_n dX12_goesOn_10 rfl ?_
    refine z_get (nd g) dX12_goesOn_11 tf_12_271 (rk_s k8) (Or.inl rfl) (rB_nd H9) ?_
    have y12 := rB_n H9
    refine z_icmp_ge 86 dX12_goesOn_14 rfl ⟨by omega, by omega⟩ ⟨by omega, by omega⟩ (fun c13 => ?_) (fun c13 => ?_)
    · skip
      have EN : n = inR rr := by rw [I2, show d = nd g by omega]; exact cn_nd (by omega) RX
      have ib := inR_b rr
      refine e_aload_n dX12_goesOn_86 rfl ?_
      refine e_iload_n dX12_goesOn_87 rfl ?_
      refine z_put dX12_goesOn_88 tf_12_271 (rk_s k8) rfl (Or.inl rfl) (fun h14 e15 => ?_)
      have f16 := frm_1 e15
      have k17 := rk_q (frm_s f16) k8
      have H18 := rRw_c f16 (fun a k q => by omega) H10
      have FR19 := frm_t FR11 (frm_m (S' := (fun a k => (a = m ∧ (k = 24 ∨ k = 25)) ∨ (m + 11 ≤ a ∧ a < m + 15) ∨ (m + 16 ≤ a ∧ a ≤ m + 21) ∨ a = m + 29)) f16 (fun a k q => by omega))
      refine e_aload_n dX12_goesOn_91 rfl ?_
      refine e_iload_n dX12_goesOn_92 rfl ?_
      refine z_put dX12_goesOn_93 tf_12_274 (rk_s k17) rfl (Or.inl rfl) (fun h20 e21 => ?_)
      have f22 := frm_1 e21
      have k23 := rk_q (frm_s f22) k17
      have H24 := rRw_c f22 (fun a k q => by omega) H18
      have FR25 := frm_t FR19 (frm_m (S' := (fun a k => (a = m ∧ (k = 24 ∨ k = 25)) ∨ (m + 11 ≤ a ∧ a < m + 15) ∨ (m + 16 ≤ a ∧ a ≤ m + 21) ∨ a = m + 29)) f22 (fun a k q => by omega))
      refine z_iconst (0) dX12_goesOn_96 rfl ?_
      refine e_istore_n (L' := [_, _, _, _]) dX12_goesOn_97 (Nat.le_of_ble_eq_true rfl) rfl ?_
      have lp26 : ∀ (n26 : Nat) (k : Int) (h26 : mH), (12 - k).toNat = n26 → (rk h26 m) → (rRw h26 m g rr) → (frm (fun a k => (a = m ∧ (k = 24 ∨ k = 25)) ∨ (m + 11 ≤ a ∧ a < m + 15) ∨ (m + 16 ≤ a ∧ a ≤ m + 21) ∨ a = m + 29) h h26) → (0 ≤ k ∧ k ≤ 12) → (rI h26 m 24 = inR rr ∧ rI h26 m 25 = inR rr) → (rcI h26 m g rr (nd g)) → (rcJ h26 m k) → mEv TB0 ad M_X12_goesOn (dd + 6) (0, 0) (mCal TB0 ad (dd + 5)) (fun v h' z => z.1 = 0 ∧ Q v h') 98 [some (.ref m), some (.int (zI n)), some (.int (zI k)), none] [] h26 (0, 0) := by
        intro n26
        induction n26 using Nat.strongRecOn with
        | ind n26 ih26 =>
        intro k h26 hn26 k27 H28 FR29 K1 K2 K3 K4
        refine e_iload_n dX12_goesOn_98 rfl ?_
        refine z_bipush (12) dX12_goesOn_99 rfl ?_
        refine z_icmp_ge 160 dX12_goesOn_101 rfl ⟨by omega, by omega⟩ ⟨by omega, by omega⟩ (fun c30 => ?_) (fun c30 => ?_)
        · skip
          refine e_vret dX12_goesOn_160 rfl ⟨rfl, ?_⟩
          exact kq _ FR29 ⟨r, ⟨RW0.1.1, SR⟩, by rw [← eR]; exact rcB (rB_w HB) RX K2.1 K2.2 K3 (by rw [show (12 : Int) = k by omega]; exact K4)⟩
        · skip
          refine e_aload_n dX12_goesOn_104 rfl ?_
          refine e_get (.ref (m + 11)) dX12_goesOn_105 tf_12_41 (rk_s k27) (congrArg va_rf (rk_r11 k27)) ?_
          refine e_iload_n dX12_goesOn_108 rfl ?_
          refine e_aload_n dX12_goesOn_109 rfl ?_
          refine e_get (.ref (m + 29)) dX12_goesOn_110 tf_12_97 (rk_s k27) (congrArg va_rf (rk_r29 k27)) ?_
          refine e_iload_n dX12_goesOn_113 rfl ?_
          refine z_ild (rI h26 (m + 29) k) dX12_goesOn_114 (rk_a29 k27) (by decide) (by omega) (by omega) rfl ?_
          have y31 := rI_i h26 (m + 29) k
          refine z_ist dX12_goesOn_115 (rk_a11 k27) (by decide) (by omega) (by omega) (fun h32 e33 => ?_)
          have f34 := frm_1 e33
          have k35 := rk_q (frm_s f34) k27
          have H36 := rRw_c f34 (fun a k q => by omega) H28
          have FR37 := frm_t FR29 (frm_m (S' := (fun a k => (a = m ∧ (k = 24 ∨ k = 25)) ∨ (m + 11 ≤ a ∧ a < m + 15) ∨ (m + 16 ≤ a ∧ a ≤ m + 21) ∨ a = m + 29)) f34 (fun a k q => by omega))
          refine e_aload_n dX12_goesOn_116 rfl ?_
          refine e_get (.ref (m + 12)) dX12_goesOn_117 tf_12_44 (rk_s k35) (congrArg va_rf (rk_r12 k35)) ?_
          refine e_iload_n dX12_goesOn_120 rfl ?_
          refine e_aload_n dX12_goesOn_121 rfl ?_
          refine e_get (.ref (m + 29)) dX12_goesOn_122 tf_12_97 (rk_s k35) (congrArg va_rf (rk_r29 k35)) ?_
          refine z_bipush (12) dX12_goesOn_125 rfl ?_
          refine e_iload_n dX12_goesOn_127 rfl ?_
          refine z_iadd dX12_goesOn_128 ?_
          refine z_ild (rI h26 (m + 29) (12 + k)) dX12_goesOn_129 (rk_a29 k35) (by decide) (by omega) (by omega) (frm_r f34 (by omega)) ?_
          have y38 := rI_i h26 (m + 29) (12 + k)
          refine z_ist dX12_goesOn_130 (rk_a12 k35) (by decide) (by omega) (by omega) (fun h39 e40 => ?_)
          have f41 := frm_1 e40
          have k42 := rk_q (frm_s f41) k35
          have H43 := rRw_c f41 (fun a k q => by omega) H36
          have FR44 := frm_t FR37 (frm_m (S' := (fun a k => (a = m ∧ (k = 24 ∨ k = 25)) ∨ (m + 11 ≤ a ∧ a < m + 15) ∨ (m + 16 ≤ a ∧ a ≤ m + 21) ∨ a = m + 29)) f41 (fun a k q => by omega))
          refine e_aload_n dX12_goesOn_131 rfl ?_
          refine e_get (.ref (m + 14)) dX12_goesOn_132 tf_12_50 (rk_s k42) (congrArg va_rf (rk_r14 k42)) ?_
          refine e_iload_n dX12_goesOn_135 rfl ?_
          refine e_aload_n dX12_goesOn_136 rfl ?_
          refine e_get (.ref (m + 29)) dX12_goesOn_137 tf_12_97 (rk_s k42) (congrArg va_rf (rk_r29 k42)) ?_
          refine z_bipush (24) dX12_goesOn_140 rfl ?_
          refine e_iload_n dX12_goesOn_142 rfl ?_
          refine z_iadd dX12_goesOn_143 ?_
          refine z_ild (rI h26 (m + 29) (24 + k)) dX12_goesOn_144 (rk_a29 k42) (by decide) (by omega) (by omega) ((frm_r f41 (by omega)).trans (frm_r f34 (by omega))) ?_
          have y45 := rI_i h26 (m + 29) (24 + k)
          refine z_ist dX12_goesOn_145 (rk_a14 k42) (by decide) (by omega) (by omega) (fun h46 e47 => ?_)
          have f48 := frm_1 e47
          have k49 := rk_q (frm_s f48) k42
          have H50 := rRw_c f48 (fun a k q => by omega) H43
          have FR51 := frm_t FR44 (frm_m (S' := (fun a k => (a = m ∧ (k = 24 ∨ k = 25)) ∨ (m + 11 ≤ a ∧ a < m + 15) ∨ (m + 16 ≤ a ∧ a ≤ m + 21) ∨ a = m + 29)) f48 (fun a k q => by omega))
          refine e_aload_n dX12_goesOn_146 rfl ?_
          refine e_get (.ref (m + 13)) dX12_goesOn_147 tf_12_47 (rk_s k49) (congrArg va_rf (rk_r13 k49)) ?_
          refine e_iload_n dX12_goesOn_150 rfl ?_
          refine z_bipush (10) dX12_goesOn_151 rfl ?_
          refine z_ist dX12_goesOn_153 (rk_a13 k49) (by decide) (by omega) (by omega) (fun h52 e53 => ?_)
          have f54 := frm_1 e53
          have k55 := rk_q (frm_s f54) k49
          have H56 := rRw_c f54 (fun a k q => by omega) H50
          have FR57 := frm_t FR51 (frm_m (S' := (fun a k => (a = m ∧ (k = 24 ∨ k = 25)) ∨ (m + 11 ≤ a ∧ a < m + 15) ∨ (m + 16 ≤ a ∧ a ≤ m + 21) ∨ a = m + 29)) f54 (fun a k q => by omega))
          refine z_iinc (L' := [_, _, _, _]) dX12_goesOn_154 rfl rfl ?_
          refine e_goto 98 dX12_goesOn_157 rfl ?_
          exact ih26 _ (by omega) (k + 1) h52 rfl k55 H56 FR57 (by omega) (⟨(((frm_r f54 (by omega)).trans ((frm_r f48 (by omega)).trans ((frm_r f41 (by omega)).trans (frm_r f34 (by omega)))))).trans K2.1, (((frm_r f54 (by omega)).trans ((frm_r f48 (by omega)).trans ((frm_r f41 (by omega)).trans (frm_r f34 (by omega)))))).trans K2.2⟩) (rcI_q (fun z => ((frm_r f54 (by omega)).trans ((frm_r f48 (by omega)).trans ((frm_r f41 (by omega)).trans (frm_r f34 (by omega)))))) K3) (fun j a c => by
                    have c0 : ∀ z : Int, rI h52 (m + 29) z = rI h26 (m + 29) z := fun z => ((frm_r f54 (by omega)).trans ((frm_r f48 (by omega)).trans ((frm_r f41 (by omega)).trans (frm_r f34 (by omega)))))
                    rw [c0, c0, c0]
                    by_cases q : j = k
                    · rw [q]; exact ⟨(((frm_r f54 (by omega)).trans ((frm_r f48 (by omega)).trans (frm_r f41 (by omega)))).trans (rI_eq e33 ⟨by omega, by omega⟩)), (((frm_r f54 (by omega)).trans (frm_r f48 (by omega))).trans (rI_eq e40 ⟨by omega, by omega⟩)), ((frm_r f54 (by omega)).trans (rI_eq e47 ⟨by omega, by omega⟩)), (rI_eq e53 ⟨by omega, by omega⟩)⟩
                    · obtain ⟨j1, j2, j3, j4⟩ := K4 j a (by omega)
                      exact ⟨(((frm_r f54 (by omega)).trans ((frm_r f48 (by omega)).trans ((frm_r f41 (by omega)).trans (frm_r f34 (by omega)))))).trans j1, (((frm_r f54 (by omega)).trans ((frm_r f48 (by omega)).trans ((frm_r f41 (by omega)).trans (frm_r f34 (by omega)))))).trans j2, (((frm_r f54 (by omega)).trans ((frm_r f48 (by omega)).trans ((frm_r f41 (by omega)).trans (frm_r f34 (by omega)))))).trans j3, (((frm_r f54 (by omega)).trans ((frm_r f48 (by omega)).trans ((frm_r f41 (by omega)).trans (frm_r f34 (by omega)))))).trans j4⟩)
      exact lp26 _ 0 h20 rfl k23 H24 FR25 (by omega) (⟨((frm_r f22 (by omega)).trans (rI_eq e15 ⟨by omega, by omega⟩)).trans EN, (rI_eq e21 ⟨by omega, by omega⟩).trans EN⟩) (rcI_q (fun z => ((frm_r f22 (by omega)).trans (frm_r f16 (by omega)))) (by rw [show nd g = d by omega]; exact I3)) (fun j a c => by omega)
    · skip
      refine e_aload_n dX12_goesOn_17 rfl ?_
      refine e_get (.ref (m + 16)) dX12_goesOn_18 tf_12_56 (rk_s k8) (congrArg va_rf (rk_r16 k8)) ?_
      refine e_iload_n dX12_goesOn_21 rfl ?_
      refine z_ild (rr d) dX12_goesOn_22 (rk_a16 k8) (by decide) (by omega) (by omega) (H10.2 d (by omega) (by omega)) ?_
      have y58 := isRw_f H10.1.1 (show 0 ≤ d by omega) (by omega)
      have y59 := H10.1.2 d (by omega) (by omega)
      refine z_bipush (6) dX12_goesOn_23 rfl ?_
      refine z_icmp_ge 80 dX12_goesOn_25 rfl ⟨by omega, by omega⟩ ⟨by omega, by omega⟩ (fun c60 => ?_) (fun c60 => ?_)
      · skip
        refine z_iinc (L' := [_, _, _, _]) dX12_goesOn_80 rfl rfl ?_
        refine e_goto 9 dX12_goesOn_83 rfl ?_
        exact ih7 _ (by omega) n (d + 1) h7 rfl k8 H9 H10 FR11 (by omega) (by first | (rw [(cn_s (by omega)).1 (by omega)]; omega) | (rw [(cn_s (by omega)).2 (by omega)]; omega)) (rcI_n (by omega) I3)
      · skip
        have rb := isRw_f RX (show 0 ≤ d by omega) (by omega)
        have pd1 := wB_d (rB_w HB) (show 0 ≤ d by omega) (show d < nd g by omega)
        have pu1 := wB_u (rB_w HB) (show 0 ≤ rr d by omega) (show rr d < nu g by omega)
        refine e_aload_n dX12_goesOn_28 rfl ?_
        refine e_get (.ref (m + 11)) dX12_goesOn_29 tf_12_41 (rk_s k8) (congrArg va_rf (rk_r11 k8)) ?_
        refine e_iload_n dX12_goesOn_32 rfl ?_
        refine z_ild (dl g d) dX12_goesOn_33 (rk_a11 k8) (by decide) (by omega) (by omega) (rB_dl H9 (by omega) (by omega)) ?_
        have y61 := wB_d (rB_w H9) (show 0 ≤ d by omega) (by omega)
        refine e_aload_n dX12_goesOn_34 rfl ?_
        refine e_get (.ref (m + 11)) dX12_goesOn_35 tf_12_41 (rk_s k8) (congrArg va_rf (rk_r11 k8)) ?_
        refine z_bipush (6) dX12_goesOn_38 rfl ?_
        refine e_aload_n dX12_goesOn_40 rfl ?_
        refine e_get (.ref (m + 16)) dX12_goesOn_41 tf_12_56 (rk_s k8) (congrArg va_rf (rk_r16 k8)) ?_
        refine e_iload_n dX12_goesOn_44 rfl ?_
        refine z_ild (rr d) dX12_goesOn_45 (rk_a16 k8) (by decide) (by omega) (by omega) (H10.2 d (by omega) (by omega)) ?_
        have y62 := isRw_f H10.1.1 (show 0 ≤ d by omega) (by omega)
        have y63 := H10.1.2 d (by omega) (by omega)
        refine z_iadd dX12_goesOn_46 ?_
        refine z_ild (ul g (rr d)) dX12_goesOn_47 (rk_a11 k8) (by decide) (by omega) (by omega) (rB_ul H9 (by omega) (by omega)) ?_
        have y64 := wB_u (rB_w H9) (show 0 ≤ (rr d) by omega) (by omega)
        refine z_iadd dX12_goesOn_48 ?_
        refine z_iconst (2) dX12_goesOn_49 rfl ?_
        refine z_idiv dX12_goesOn_50 (by omega) (by omega) (by omega) (by omega) ?_
        refine e_istore_n (L' := [_, _, _, _]) dX12_goesOn_51 (Nat.le_of_ble_eq_true rfl) rfl ?_
        refine e_aload_n dX12_goesOn_52 rfl ?_
        refine e_iload_n dX12_goesOn_53 rfl ?_
        refine e_iload_n dX12_goesOn_54 rfl ?_
        refine e_iload_n dX12_goesOn_55 rfl ?_
        have s0 : rI h7 (m + 12) d = ds g d := rB_ds H9 (by omega) (by omega)
        have t0 : rI h7 (m + 14) d = dh g d := rB_dh H9 (by omega) (by omega)
        refine e_callV [.int _, .int _, .int _] dX12_goesOn_56 tm_12_561 rfl (Nat.le_of_ble_eq_true rfl) (rk_s k8) (Nat.le_of_ble_eq_true rfl) (Nat.le_refl _) (Nat.le_refl _) rfl (zp_X12_child k8 n ⟨by omega, by omega⟩ (((dl g d) + (ul g (rr d))) / 2) ⟨by omega, by omega⟩ d ⟨by omega, by omega⟩ (by omega) (by omega) (fun  h65 f66 p67 => ?_))
        have k68 := rk_q (frm_s f66) k8
        have H69 := rB_c f66 (fun a k q => by omega) H9
        have H70 := rRw_c f66 (fun a k q => by omega) H10
        have FR71 := frm_t FR11 (frm_m (S' := (fun a k => (a = m ∧ (k = 24 ∨ k = 25)) ∨ (m + 11 ≤ a ∧ a < m + 15) ∨ (m + 16 ≤ a ∧ a ≤ m + 21) ∨ a = m + 29)) f66 (fun a k q => by omega))
        skip
        refine e_aload_n dX12_goesOn_59 rfl ?_
        refine z_bipush (6) dX12_goesOn_60 rfl ?_
        refine e_iload_n dX12_goesOn_62 rfl ?_
        refine z_iadd dX12_goesOn_63 ?_
        refine e_iload_n dX12_goesOn_64 rfl ?_
        refine z_bipush (6) dX12_goesOn_65 rfl ?_
        refine e_aload_n dX12_goesOn_67 rfl ?_
        refine e_get (.ref (m + 16)) dX12_goesOn_68 tf_12_56 (rk_s k68) (congrArg va_rf (rk_r16 k68)) ?_
        refine e_iload_n dX12_goesOn_71 rfl ?_
        refine z_ild (rr d) dX12_goesOn_72 (rk_a16 k68) (by decide) (by omega) (by omega) (H70.2 d (by omega) (by omega)) ?_
        have y72 := isRw_f H70.1.1 (show 0 ≤ d by omega) (by omega)
        have y73 := H70.1.2 d (by omega) (by omega)
        refine z_iadd dX12_goesOn_73 ?_
        have s1 : rI h65 (m + 12) (6 + rr d) = us g (rr d) := rB_us H69 (by omega) (by omega)
        have t1 : rI h65 (m + 14) (6 + rr d) = uh g (rr d) := rB_uh H69 (by omega) (by omega)
        refine e_callV [.int _, .int _, .int _] dX12_goesOn_74 tm_12_561 rfl (Nat.le_of_ble_eq_true rfl) (rk_s k68) (Nat.le_of_ble_eq_true rfl) (Nat.le_refl _) (Nat.le_refl _) rfl (zp_X12_child k68 (6 + n) ⟨by omega, by omega⟩ (((dl g d) + (ul g (rr d))) / 2) ⟨by omega, by omega⟩ (6 + (rr d)) ⟨by omega, by omega⟩ (by omega) (by omega) (fun  h74 f75 p76 => ?_))
        have k77 := rk_q (frm_s f75) k68
        have H78 := rB_c f75 (fun a k q => by omega) H69
        have H79 := rRw_c f75 (fun a k q => by omega) H70
        have FR80 := frm_t FR71 (frm_m (S' := (fun a k => (a = m ∧ (k = 24 ∨ k = 25)) ∨ (m + 11 ≤ a ∧ a < m + 15) ∨ (m + 16 ≤ a ∧ a ≤ m + 21) ∨ a = m + 29)) f75 (fun a k q => by omega))
        skip
        refine z_iinc (L' := [_, _, _, _]) dX12_goesOn_77 rfl rfl ?_
        refine z_iinc (L' := [_, _, _, _]) dX12_goesOn_80 rfl rfl ?_
        refine e_goto 9 dX12_goesOn_83 rfl ?_
        exact mEv_wk (by exact ⟨Or.inr rfl, Or.inr rfl, Or.inr rfl, Or.inl rfl, trivial⟩) (ih7 _ (by omega) (n + 1) (d + 1) h74 rfl k77 H78 H79 FR80 (by omega) (by first | (rw [(cn_s (by omega)).1 (by omega)]; omega) | (rw [(cn_s (by omega)).2 (by omega)]; omega)) (rcI_y (by omega) (by omega) (by omega) s0 s1 t0 t1 I3 (by rw [← I2]; exact f66) (by rw [← I2]; exact p67) (by rw [← I2]; exact f75) (by rw [← I2]; exact p76)))
  exact lp7 _ 0 0 h1 rfl k4 H5 RW FR6 (by omega) rfl (fun x a c => by omega)

/-! TEXT: the class's tokens -/
theorem dX6_advance_0 : decode cX6_advance 0 = .ok (.aload_n 0, 1) := by decide +kernel
theorem dX6_advance_1 : decode cX6_advance 1 = .ok (.getfield 50, 3) := by decide +kernel
theorem dX6_advance_4 : decode cX6_advance 4 = .ok (.aload_n 0, 1) := by decide +kernel
theorem dX6_advance_5 : decode cX6_advance 5 = .ok (.getfield 47, 3) := by decide +kernel
theorem dX6_advance_8 : decode cX6_advance 8 = .ok (.if_icmp .ge 44, 3) := by decide +kernel
theorem dX6_advance_11 : decode cX6_advance 11 = .ok (.aload_n 0, 1) := by decide +kernel
theorem dX6_advance_12 : decode cX6_advance 12 = .ok (.getfield 39, 3) := by decide +kernel
theorem dX6_advance_15 : decode cX6_advance 15 = .ok (.aload_n 0, 1) := by decide +kernel
theorem dX6_advance_16 : decode cX6_advance 16 = .ok (.getfield 50, 3) := by decide +kernel
theorem dX6_advance_19 : decode cX6_advance 19 = .ok (.baload, 1) := by decide +kernel
theorem dX6_advance_20 : decode cX6_advance 20 = .ok (.bipush 10, 2) := by decide +kernel
theorem dX6_advance_22 : decode cX6_advance 22 = .ok (.if_icmp .eq 17, 3) := by decide +kernel
theorem dX6_advance_25 : decode cX6_advance 25 = .ok (.aload_n 0, 1) := by decide +kernel
theorem dX6_advance_26 : decode cX6_advance 26 = .ok (.getfield 39, 3) := by decide +kernel
theorem dX6_advance_29 : decode cX6_advance 29 = .ok (.aload_n 0, 1) := by decide +kernel
theorem dX6_advance_30 : decode cX6_advance 30 = .ok (.getfield 50, 3) := by decide +kernel
theorem dX6_advance_33 : decode cX6_advance 33 = .ok (.baload, 1) := by decide +kernel
theorem dX6_advance_34 : decode cX6_advance 34 = .ok (.bipush 32, 2) := by decide +kernel
theorem dX6_advance_36 : decode cX6_advance 36 = .ok (.if_icmp .ne 16, 3) := by decide +kernel
theorem dX6_advance_39 : decode cX6_advance 39 = .ok (.aload_n 0, 1) := by decide +kernel
theorem dX6_advance_40 : decode cX6_advance 40 = .ok (.dup, 1) := by decide +kernel
theorem dX6_advance_41 : decode cX6_advance 41 = .ok (.getfield 50, 3) := by decide +kernel
theorem dX6_advance_44 : decode cX6_advance 44 = .ok (.iconst 1, 1) := by decide +kernel
theorem dX6_advance_45 : decode cX6_advance 45 = .ok (.iadd, 1) := by decide +kernel
theorem dX6_advance_46 : decode cX6_advance 46 = .ok (.putfield 50, 3) := by decide +kernel
theorem dX6_advance_49 : decode cX6_advance 49 = .ok (.goto (-49), 3) := by decide +kernel
theorem dX6_advance_52 : decode cX6_advance 52 = .ok (.aload_n 0, 1) := by decide +kernel
theorem dX6_advance_53 : decode cX6_advance 53 = .ok (.aload_n 0, 1) := by decide +kernel
theorem dX6_advance_54 : decode cX6_advance 54 = .ok (.getfield 50, 3) := by decide +kernel
theorem dX6_advance_57 : decode cX6_advance 57 = .ok (.putfield 56, 3) := by decide +kernel
theorem dX6_advance_60 : decode cX6_advance 60 = .ok (.aload_n 0, 1) := by decide +kernel
theorem dX6_advance_61 : decode cX6_advance 61 = .ok (.getfield 50, 3) := by decide +kernel
theorem dX6_advance_64 : decode cX6_advance 64 = .ok (.aload_n 0, 1) := by decide +kernel
theorem dX6_advance_65 : decode cX6_advance 65 = .ok (.getfield 47, 3) := by decide +kernel
theorem dX6_advance_68 : decode cX6_advance 68 = .ok (.if_icmp .lt 11, 3) := by decide +kernel
theorem dX6_advance_71 : decode cX6_advance 71 = .ok (.aload_n 0, 1) := by decide +kernel
theorem dX6_advance_72 : decode cX6_advance 72 = .ok (.iconst 3, 1) := by decide +kernel
theorem dX6_advance_73 : decode cX6_advance 73 = .ok (.putfield 53, 3) := by decide +kernel
theorem dX6_advance_76 : decode cX6_advance 76 = .ok (.goto 80, 3) := by decide +kernel
theorem dX6_advance_79 : decode cX6_advance 79 = .ok (.aload_n 0, 1) := by decide +kernel
theorem dX6_advance_80 : decode cX6_advance 80 = .ok (.getfield 39, 3) := by decide +kernel
theorem dX6_advance_83 : decode cX6_advance 83 = .ok (.aload_n 0, 1) := by decide +kernel
theorem dX6_advance_84 : decode cX6_advance 84 = .ok (.getfield 50, 3) := by decide +kernel
theorem dX6_advance_87 : decode cX6_advance 87 = .ok (.baload, 1) := by decide +kernel
theorem dX6_advance_88 : decode cX6_advance 88 = .ok (.invokestatic 233, 3) := by decide +kernel
theorem dX6_advance_91 : decode cX6_advance 91 = .ok (.ifCond .eq 10, 3) := by decide +kernel
theorem dX6_advance_94 : decode cX6_advance 94 = .ok (.aload_n 0, 1) := by decide +kernel
theorem dX6_advance_95 : decode cX6_advance 95 = .ok (.invokevirtual 236, 3) := by decide +kernel
theorem dX6_advance_98 : decode cX6_advance 98 = .ok (.goto 58, 3) := by decide +kernel
theorem dX6_advance_101 : decode cX6_advance 101 = .ok (.aload_n 0, 1) := by decide +kernel
theorem dX6_advance_102 : decode cX6_advance 102 = .ok (.getfield 39, 3) := by decide +kernel
theorem dX6_advance_105 : decode cX6_advance 105 = .ok (.aload_n 0, 1) := by decide +kernel
theorem dX6_advance_106 : decode cX6_advance 106 = .ok (.getfield 50, 3) := by decide +kernel
theorem dX6_advance_109 : decode cX6_advance 109 = .ok (.baload, 1) := by decide +kernel
theorem dX6_advance_110 : decode cX6_advance 110 = .ok (.invokestatic 239, 3) := by decide +kernel
theorem dX6_advance_113 : decode cX6_advance 113 = .ok (.ifCond .eq 10, 3) := by decide +kernel
theorem dX6_advance_116 : decode cX6_advance 116 = .ok (.aload_n 0, 1) := by decide +kernel
theorem dX6_advance_117 : decode cX6_advance 117 = .ok (.invokevirtual 242, 3) := by decide +kernel
theorem dX6_advance_120 : decode cX6_advance 120 = .ok (.goto 36, 3) := by decide +kernel
theorem dX6_advance_123 : decode cX6_advance 123 = .ok (.aload_n 0, 1) := by decide +kernel
theorem dX6_advance_124 : decode cX6_advance 124 = .ok (.aload_n 0, 1) := by decide +kernel
theorem dX6_advance_125 : decode cX6_advance 125 = .ok (.getfield 39, 3) := by decide +kernel
theorem dX6_advance_128 : decode cX6_advance 128 = .ok (.aload_n 0, 1) := by decide +kernel
theorem dX6_advance_129 : decode cX6_advance 129 = .ok (.getfield 50, 3) := by decide +kernel
theorem dX6_advance_132 : decode cX6_advance 132 = .ok (.baload, 1) := by decide +kernel
theorem dX6_advance_133 : decode cX6_advance 133 = .ok (.bipush 59, 2) := by decide +kernel
theorem dX6_advance_135 : decode cX6_advance 135 = .ok (.if_icmp .ne 7, 3) := by decide +kernel
theorem dX6_advance_138 : decode cX6_advance 138 = .ok (.iconst 2, 1) := by decide +kernel
theorem dX6_advance_139 : decode cX6_advance 139 = .ok (.goto 4, 3) := by decide +kernel
theorem dX6_advance_142 : decode cX6_advance 142 = .ok (.iconst 4, 1) := by decide +kernel
theorem dX6_advance_143 : decode cX6_advance 143 = .ok (.putfield 53, 3) := by decide +kernel
theorem dX6_advance_146 : decode cX6_advance 146 = .ok (.aload_n 0, 1) := by decide +kernel
theorem dX6_advance_147 : decode cX6_advance 147 = .ok (.dup, 1) := by decide +kernel
theorem dX6_advance_148 : decode cX6_advance 148 = .ok (.getfield 50, 3) := by decide +kernel
theorem dX6_advance_151 : decode cX6_advance 151 = .ok (.iconst 1, 1) := by decide +kernel
theorem dX6_advance_152 : decode cX6_advance 152 = .ok (.iadd, 1) := by decide +kernel
theorem dX6_advance_153 : decode cX6_advance 153 = .ok (.putfield 50, 3) := by decide +kernel
theorem dX6_advance_156 : decode cX6_advance 156 = .ok (.return_, 1) := by decide +kernel
theorem dX6_takeLetters_0 : decode cX6_takeLetters 0 = .ok (.aload_n 0, 1) := by decide +kernel
theorem dX6_takeLetters_1 : decode cX6_takeLetters 1 = .ok (.iconst 0, 1) := by decide +kernel
theorem dX6_takeLetters_2 : decode cX6_takeLetters 2 = .ok (.putfield 53, 3) := by decide +kernel
theorem dX6_takeLetters_5 : decode cX6_takeLetters 5 = .ok (.aload_n 0, 1) := by decide +kernel
theorem dX6_takeLetters_6 : decode cX6_takeLetters 6 = .ok (.getfield 50, 3) := by decide +kernel
theorem dX6_takeLetters_9 : decode cX6_takeLetters 9 = .ok (.aload_n 0, 1) := by decide +kernel
theorem dX6_takeLetters_10 : decode cX6_takeLetters 10 = .ok (.getfield 47, 3) := by decide +kernel
theorem dX6_takeLetters_13 : decode cX6_takeLetters 13 = .ok (.if_icmp .ge 31, 3) := by decide +kernel
theorem dX6_takeLetters_16 : decode cX6_takeLetters 16 = .ok (.aload_n 0, 1) := by decide +kernel
theorem dX6_takeLetters_17 : decode cX6_takeLetters 17 = .ok (.getfield 39, 3) := by decide +kernel
theorem dX6_takeLetters_20 : decode cX6_takeLetters 20 = .ok (.aload_n 0, 1) := by decide +kernel
theorem dX6_takeLetters_21 : decode cX6_takeLetters 21 = .ok (.getfield 50, 3) := by decide +kernel
theorem dX6_takeLetters_24 : decode cX6_takeLetters 24 = .ok (.baload, 1) := by decide +kernel
theorem dX6_takeLetters_25 : decode cX6_takeLetters 25 = .ok (.invokestatic 233, 3) := by decide +kernel
theorem dX6_takeLetters_28 : decode cX6_takeLetters 28 = .ok (.ifCond .eq 16, 3) := by decide +kernel
theorem dX6_takeLetters_31 : decode cX6_takeLetters 31 = .ok (.aload_n 0, 1) := by decide +kernel
theorem dX6_takeLetters_32 : decode cX6_takeLetters 32 = .ok (.dup, 1) := by decide +kernel
theorem dX6_takeLetters_33 : decode cX6_takeLetters 33 = .ok (.getfield 50, 3) := by decide +kernel
theorem dX6_takeLetters_36 : decode cX6_takeLetters 36 = .ok (.iconst 1, 1) := by decide +kernel
theorem dX6_takeLetters_37 : decode cX6_takeLetters 37 = .ok (.iadd, 1) := by decide +kernel
theorem dX6_takeLetters_38 : decode cX6_takeLetters 38 = .ok (.putfield 50, 3) := by decide +kernel
theorem dX6_takeLetters_41 : decode cX6_takeLetters 41 = .ok (.goto (-36), 3) := by decide +kernel
theorem dX6_takeLetters_44 : decode cX6_takeLetters 44 = .ok (.return_, 1) := by decide +kernel
theorem dX6_takeDigits_0 : decode cX6_takeDigits 0 = .ok (.aload_n 0, 1) := by decide +kernel
theorem dX6_takeDigits_1 : decode cX6_takeDigits 1 = .ok (.iconst 0, 1) := by decide +kernel
theorem dX6_takeDigits_2 : decode cX6_takeDigits 2 = .ok (.putfield 59, 3) := by decide +kernel
theorem dX6_takeDigits_5 : decode cX6_takeDigits 5 = .ok (.aload_n 0, 1) := by decide +kernel
theorem dX6_takeDigits_6 : decode cX6_takeDigits 6 = .ok (.getfield 50, 3) := by decide +kernel
theorem dX6_takeDigits_9 : decode cX6_takeDigits 9 = .ok (.aload_n 0, 1) := by decide +kernel
theorem dX6_takeDigits_10 : decode cX6_takeDigits 10 = .ok (.getfield 47, 3) := by decide +kernel
theorem dX6_takeDigits_13 : decode cX6_takeDigits 13 = .ok (.if_icmp .ge 60, 3) := by decide +kernel
theorem dX6_takeDigits_16 : decode cX6_takeDigits 16 = .ok (.aload_n 0, 1) := by decide +kernel
theorem dX6_takeDigits_17 : decode cX6_takeDigits 17 = .ok (.getfield 39, 3) := by decide +kernel
theorem dX6_takeDigits_20 : decode cX6_takeDigits 20 = .ok (.aload_n 0, 1) := by decide +kernel
theorem dX6_takeDigits_21 : decode cX6_takeDigits 21 = .ok (.getfield 50, 3) := by decide +kernel
theorem dX6_takeDigits_24 : decode cX6_takeDigits 24 = .ok (.baload, 1) := by decide +kernel
theorem dX6_takeDigits_25 : decode cX6_takeDigits 25 = .ok (.invokestatic 239, 3) := by decide +kernel
theorem dX6_takeDigits_28 : decode cX6_takeDigits 28 = .ok (.ifCond .eq 45, 3) := by decide +kernel
theorem dX6_takeDigits_31 : decode cX6_takeDigits 31 = .ok (.aload_n 0, 1) := by decide +kernel
theorem dX6_takeDigits_32 : decode cX6_takeDigits 32 = .ok (.bipush 100, 2) := by decide +kernel
theorem dX6_takeDigits_34 : decode cX6_takeDigits 34 = .ok (.bipush 10, 2) := by decide +kernel
theorem dX6_takeDigits_36 : decode cX6_takeDigits 36 = .ok (.aload_n 0, 1) := by decide +kernel
theorem dX6_takeDigits_37 : decode cX6_takeDigits 37 = .ok (.getfield 59, 3) := by decide +kernel
theorem dX6_takeDigits_40 : decode cX6_takeDigits 40 = .ok (.imul, 1) := by decide +kernel
theorem dX6_takeDigits_41 : decode cX6_takeDigits 41 = .ok (.aload_n 0, 1) := by decide +kernel
theorem dX6_takeDigits_42 : decode cX6_takeDigits 42 = .ok (.getfield 39, 3) := by decide +kernel
theorem dX6_takeDigits_45 : decode cX6_takeDigits 45 = .ok (.aload_n 0, 1) := by decide +kernel
theorem dX6_takeDigits_46 : decode cX6_takeDigits 46 = .ok (.getfield 50, 3) := by decide +kernel
theorem dX6_takeDigits_49 : decode cX6_takeDigits 49 = .ok (.baload, 1) := by decide +kernel
theorem dX6_takeDigits_50 : decode cX6_takeDigits 50 = .ok (.iadd, 1) := by decide +kernel
theorem dX6_takeDigits_51 : decode cX6_takeDigits 51 = .ok (.bipush 48, 2) := by decide +kernel
theorem dX6_takeDigits_53 : decode cX6_takeDigits 53 = .ok (.isub, 1) := by decide +kernel
theorem dX6_takeDigits_54 : decode cX6_takeDigits 54 = .ok (.invokestatic 98, 3) := by decide +kernel
theorem dX6_takeDigits_57 : decode cX6_takeDigits 57 = .ok (.putfield 59, 3) := by decide +kernel
theorem dX6_takeDigits_60 : decode cX6_takeDigits 60 = .ok (.aload_n 0, 1) := by decide +kernel
theorem dX6_takeDigits_61 : decode cX6_takeDigits 61 = .ok (.dup, 1) := by decide +kernel
theorem dX6_takeDigits_62 : decode cX6_takeDigits 62 = .ok (.getfield 50, 3) := by decide +kernel
theorem dX6_takeDigits_65 : decode cX6_takeDigits 65 = .ok (.iconst 1, 1) := by decide +kernel
theorem dX6_takeDigits_66 : decode cX6_takeDigits 66 = .ok (.iadd, 1) := by decide +kernel
theorem dX6_takeDigits_67 : decode cX6_takeDigits 67 = .ok (.putfield 50, 3) := by decide +kernel
theorem dX6_takeDigits_70 : decode cX6_takeDigits 70 = .ok (.goto (-65), 3) := by decide +kernel
theorem dX6_takeDigits_73 : decode cX6_takeDigits 73 = .ok (.aload_n 0, 1) := by decide +kernel
theorem dX6_takeDigits_74 : decode cX6_takeDigits 74 = .ok (.aload_n 0, 1) := by decide +kernel
theorem dX6_takeDigits_75 : decode cX6_takeDigits 75 = .ok (.getfield 50, 3) := by decide +kernel
theorem dX6_takeDigits_78 : decode cX6_takeDigits 78 = .ok (.aload_n 0, 1) := by decide +kernel
theorem dX6_takeDigits_79 : decode cX6_takeDigits 79 = .ok (.getfield 56, 3) := by decide +kernel
theorem dX6_takeDigits_82 : decode cX6_takeDigits 82 = .ok (.isub, 1) := by decide +kernel
theorem dX6_takeDigits_83 : decode cX6_takeDigits 83 = .ok (.iconst 2, 1) := by decide +kernel
theorem dX6_takeDigits_84 : decode cX6_takeDigits 84 = .ok (.if_icmp .gt 7, 3) := by decide +kernel
theorem dX6_takeDigits_87 : decode cX6_takeDigits 87 = .ok (.iconst 1, 1) := by decide +kernel
theorem dX6_takeDigits_88 : decode cX6_takeDigits 88 = .ok (.goto 4, 3) := by decide +kernel
theorem dX6_takeDigits_91 : decode cX6_takeDigits 91 = .ok (.iconst 4, 1) := by decide +kernel
theorem dX6_takeDigits_92 : decode cX6_takeDigits 92 = .ok (.putfield 53, 3) := by decide +kernel
theorem dX6_takeDigits_95 : decode cX6_takeDigits 95 = .ok (.return_, 1) := by decide +kernel
theorem dX6_isWord_0 : decode cX6_isWord 0 = .ok (.aload_n 0, 1) := by decide +kernel
theorem dX6_isWord_1 : decode cX6_isWord 1 = .ok (.getfield 53, 3) := by decide +kernel
theorem dX6_isWord_4 : decode cX6_isWord 4 = .ok (.ifCond .ne 19, 3) := by decide +kernel
theorem dX6_isWord_7 : decode cX6_isWord 7 = .ok (.aload_n 0, 1) := by decide +kernel
theorem dX6_isWord_8 : decode cX6_isWord 8 = .ok (.getfield 50, 3) := by decide +kernel
theorem dX6_isWord_11 : decode cX6_isWord 11 = .ok (.aload_n 0, 1) := by decide +kernel
theorem dX6_isWord_12 : decode cX6_isWord 12 = .ok (.getfield 56, 3) := by decide +kernel
theorem dX6_isWord_15 : decode cX6_isWord 15 = .ok (.isub, 1) := by decide +kernel
theorem dX6_isWord_16 : decode cX6_isWord 16 = .ok (.aload_n 1, 1) := by decide +kernel
theorem dX6_isWord_17 : decode cX6_isWord 17 = .ok (.invokevirtual 245, 3) := by decide +kernel
theorem dX6_isWord_20 : decode cX6_isWord 20 = .ok (.if_icmp .eq 5, 3) := by decide +kernel
theorem dX6_isWord_23 : decode cX6_isWord 23 = .ok (.iconst 0, 1) := by decide +kernel
theorem dX6_isWord_24 : decode cX6_isWord 24 = .ok (.ireturn, 1) := by decide +kernel
theorem dX6_isWord_25 : decode cX6_isWord 25 = .ok (.iconst 0, 1) := by decide +kernel
theorem dX6_isWord_26 : decode cX6_isWord 26 = .ok (.istore_n 2, 1) := by decide +kernel
theorem dX6_isWord_27 : decode cX6_isWord 27 = .ok (.iload_n 2, 1) := by decide +kernel
theorem dX6_isWord_28 : decode cX6_isWord 28 = .ok (.aload_n 1, 1) := by decide +kernel
theorem dX6_isWord_29 : decode cX6_isWord 29 = .ok (.invokevirtual 245, 3) := by decide +kernel
theorem dX6_isWord_32 : decode cX6_isWord 32 = .ok (.if_icmp .ge 30, 3) := by decide +kernel
theorem dX6_isWord_35 : decode cX6_isWord 35 = .ok (.aload_n 0, 1) := by decide +kernel
theorem dX6_isWord_36 : decode cX6_isWord 36 = .ok (.getfield 39, 3) := by decide +kernel
theorem dX6_isWord_39 : decode cX6_isWord 39 = .ok (.aload_n 0, 1) := by decide +kernel
theorem dX6_isWord_40 : decode cX6_isWord 40 = .ok (.getfield 56, 3) := by decide +kernel
theorem dX6_isWord_43 : decode cX6_isWord 43 = .ok (.iload_n 2, 1) := by decide +kernel
theorem dX6_isWord_44 : decode cX6_isWord 44 = .ok (.iadd, 1) := by decide +kernel
theorem dX6_isWord_45 : decode cX6_isWord 45 = .ok (.baload, 1) := by decide +kernel
theorem dX6_isWord_46 : decode cX6_isWord 46 = .ok (.aload_n 1, 1) := by decide +kernel
theorem dX6_isWord_47 : decode cX6_isWord 47 = .ok (.iload_n 2, 1) := by decide +kernel
theorem dX6_isWord_48 : decode cX6_isWord 48 = .ok (.invokevirtual 249, 3) := by decide +kernel
theorem dX6_isWord_51 : decode cX6_isWord 51 = .ok (.if_icmp .eq 5, 3) := by decide +kernel
theorem dX6_isWord_54 : decode cX6_isWord 54 = .ok (.iconst 0, 1) := by decide +kernel
theorem dX6_isWord_55 : decode cX6_isWord 55 = .ok (.ireturn, 1) := by decide +kernel
theorem dX6_isWord_56 : decode cX6_isWord 56 = .ok (.iinc 2 1, 3) := by decide +kernel
theorem dX6_isWord_59 : decode cX6_isWord 59 = .ok (.goto (-32), 3) := by decide +kernel
theorem dX6_isWord_62 : decode cX6_isWord 62 = .ok (.iconst 1, 1) := by decide +kernel
theorem dX6_isWord_63 : decode cX6_isWord 63 = .ok (.ireturn, 1) := by decide +kernel
theorem dX6_isLetter_0 : decode cX6_isLetter 0 = .ok (.iload_n 0, 1) := by decide +kernel
theorem dX6_isLetter_1 : decode cX6_isLetter 1 = .ok (.bipush 97, 2) := by decide +kernel
theorem dX6_isLetter_3 : decode cX6_isLetter 3 = .ok (.if_icmp .lt 13, 3) := by decide +kernel
theorem dX6_isLetter_6 : decode cX6_isLetter 6 = .ok (.iload_n 0, 1) := by decide +kernel
theorem dX6_isLetter_7 : decode cX6_isLetter 7 = .ok (.bipush 122, 2) := by decide +kernel
theorem dX6_isLetter_9 : decode cX6_isLetter 9 = .ok (.if_icmp .gt 7, 3) := by decide +kernel
theorem dX6_isLetter_12 : decode cX6_isLetter 12 = .ok (.iconst 1, 1) := by decide +kernel
theorem dX6_isLetter_13 : decode cX6_isLetter 13 = .ok (.goto 4, 3) := by decide +kernel
theorem dX6_isLetter_16 : decode cX6_isLetter 16 = .ok (.iconst 0, 1) := by decide +kernel
theorem dX6_isLetter_17 : decode cX6_isLetter 17 = .ok (.ireturn, 1) := by decide +kernel
theorem dX6_isDigit_0 : decode cX6_isDigit 0 = .ok (.iload_n 0, 1) := by decide +kernel
theorem dX6_isDigit_1 : decode cX6_isDigit 1 = .ok (.bipush 48, 2) := by decide +kernel
theorem dX6_isDigit_3 : decode cX6_isDigit 3 = .ok (.if_icmp .lt 13, 3) := by decide +kernel
theorem dX6_isDigit_6 : decode cX6_isDigit 6 = .ok (.iload_n 0, 1) := by decide +kernel
theorem dX6_isDigit_7 : decode cX6_isDigit 7 = .ok (.bipush 57, 2) := by decide +kernel
theorem dX6_isDigit_9 : decode cX6_isDigit 9 = .ok (.if_icmp .gt 7, 3) := by decide +kernel
theorem dX6_isDigit_12 : decode cX6_isDigit 12 = .ok (.iconst 1, 1) := by decide +kernel
theorem dX6_isDigit_13 : decode cX6_isDigit 13 = .ok (.goto 4, 3) := by decide +kernel
theorem dX6_isDigit_16 : decode cX6_isDigit 16 = .ok (.iconst 0, 1) := by decide +kernel
theorem dX6_isDigit_17 : decode cX6_isDigit 17 = .ok (.ireturn, 1) := by decide +kernel
set_option maxRecDepth 20000 in
theorem tm_6_98 : tMet TB0 6 98 = some (11, M_none) := rfl
set_option maxRecDepth 20000 in
theorem tm_6_233 : tMet TB0 6 233 = some (1, M_X6_isLetter) := rfl
set_option maxRecDepth 20000 in
theorem tm_6_236 : tMet TB0 6 236 = some (0, M_X6_takeLetters) := rfl
set_option maxRecDepth 20000 in
theorem tm_6_239 : tMet TB0 6 239 = some (1, M_X6_isDigit) := rfl
set_option maxRecDepth 20000 in
theorem tm_6_242 : tMet TB0 6 242 = some (0, M_X6_takeDigits) := rfl
set_option maxRecDepth 20000 in
theorem tm_6_245 : tMet TB0 6 245 = some (6, M_none) := rfl
set_option maxRecDepth 20000 in
theorem tm_6_249 : tMet TB0 6 249 = some (7, M_none) := rfl
/-! TEXT: the class's tokens -/
section
variable {T : mTb} {ad : mA} {M : mM} {dp : Nat} {lim : Nat × Nat} {cal : mC} {Q : mZ} {pc : Nat} {L L' : mL} {h : mH} {zz : Nat × Nat} {r st : List Value}
theorem z_slen {N : mM} {i j n : Nat} (v : Int) (hd : decode (mMc M) pc = .ok (.invokevirtual i, 3)) (ht : tMet T (mMo M) i = some (6, N)) (h8 : (r.map fun v => v.category).sum ≤ 8) (hj : 5 ≤ j ∧ j < 20) (hn : ad.2.1 j = n) (h6 : 6 ≤ dp) (hv : Int32.ofNat n = zI v) (k : mEv T ad M dp lim cal Q (pc + 3) L (.int (zI v) :: r) h zz) : mEv T ad M dp lim cal Q pc L (.ref (ad.1 j) :: r) h zz := e_slen hd ht h8 hj hn h6 (by rw [hv]; exact k)
theorem z_sat {N : mM} {i j n : Nat} {c : Int} (v : Int) (hd : decode (mMc M) pc = .ok (.invokevirtual i, 3)) (ht : tMet T (mMo M) i = some (7, N)) (h8 : (r.map fun v => v.category).sum ≤ 8) (hj : 5 ≤ j ∧ j < 20) (hn : ad.2.1 j = n) (h0 : 0 ≤ c) (h1 : c < (n : Int)) (hb : n < 2147483648) (hy : ad.2.2 j (zI c).toNatClampNeg &&& 255 = zI v) (h6 : 6 ≤ dp) (k : mEv T ad M dp lim cal Q (pc + 3) L (.int (zI v) :: r) h zz) : mEv T ad M dp lim cal Q pc L (.int (zI c) :: .ref (ad.1 j) :: r) h zz := e_sat hd ht h8 hj hn (zI_in h0 h1 hb) hy h6 k
theorem z_oldK {j n : Nat} {c : Int} (v : Int) (hd : decode (mMc M) pc = .ok (.iaload, 1)) (hj : mOj j) (hn : ad.2.1 j = n) (h0 : 0 ≤ c) (h1 : c < (n : Int)) (hb : n < 2147483648) (hx : ad.2.2 j (zI c).toNatClampNeg = zI v) (k : mEv T ad M dp lim cal Q (pc + 1) L (.int (zI v) :: r) h zz) : mEv T ad M dp lim cal Q pc L (.int (zI c) :: .ref (ad.1 j) :: r) h zz := e_ildO hd hj hn (zI_in h0 h1 hb) hx k
end
def adK (ad : mA) : Prop := ∀ j, j < 20 → ad.2.1 j = (mKc j).length ∧ ∀ k, ad.2.2 j k = (mKc j).getD k 0
theorem lt_y {T : Int → Int} {L s : Int} (a : s < L) (c : 97 ≤ T s ∧ T s ≤ 122) : ltE T L s = ltE T L (s + 1) := sn_y (P := fun j => 97 ≤ T j ∧ T j ≤ 122) a c
theorem lt_n {T : Int → Int} {L s : Int} (a : ¬ (s < L ∧ (97 ≤ T s ∧ T s ≤ 122))) : ltE T L s = s := sn_n (P := fun j => 97 ≤ T j ∧ T j ≤ 122) a
theorem dge_y {T : Int → Int} {L s : Int} (a : s < L) (c : 48 ≤ T s ∧ T s ≤ 57) : dgE T L s = dgE T L (s + 1) := sn_y (P := fun j => 48 ≤ T j ∧ T j ≤ 57) a c
theorem dge_n {T : Int → Int} {L s : Int} (a : ¬ (s < L ∧ (48 ≤ T s ∧ T s ≤ 57))) : dgE T L s = s := sn_n (P := fun j => 48 ≤ T j ∧ T j ≤ 57) a
theorem ts_y {T : Int → Int} {L s : Int} (a : s < L) (c : T s = 10 ∨ T s = 32) : tkS T L s = tkS T L (s + 1) := sn_y (P := fun j => T j = 10 ∨ T j = 32) a c
theorem ts_n {T : Int → Int} {L s : Int} (a : ¬ (s < L ∧ (T s = 10 ∨ T s = 32))) : tkS T L s = s := sn_n (P := fun j => T j = 10 ∨ T j = 32) a
def rdT (h : mH) (y : Nat) (T : Int → Int) (L : Int) : Prop := (0 ≤ L ∧ L ≤ 600) ∧ rI h y 7 = L ∧ (∀ k : Int, 0 ≤ k → k < L → rI h (y + 25) k = T k) ∧ ∀ k : Int, 0 ≤ k → k < L → -128 ≤ T k ∧ T k < 128
theorem rdT_c {S : Nat → Nat → Prop} {h h1 : mH} {y : Nat} {T : Int → Int} {L : Int} (f : frm S h h1) (z : ∀ a k, (a = y ∧ k = 7) ∨ a = y + 25 → ¬ S a k) (H : rdT h y T L) : rdT h1 y T L := ⟨H.1, (frm_r f (z _ _ (by omega))).trans H.2.1, fun k a e => (frm_r f (z _ _ (by omega))).trans (H.2.2.1 k a e), H.2.2.2⟩
def rdP (h : mH) (y : Nat) (T : Int → Int) (L p : Int) : Prop := (0 ≤ p ∧ p ≤ L) ∧ rI h y 8 = tkE T L p ∧ rI h y 9 = tkK T L p ∧ rI h y 10 = tkS T L p ∧ (tkK T L p = 1 → rI h y 11 = tkV T L p)
theorem rdP_c {S : Nat → Nat → Prop} {h h1 : mH} {y : Nat} {T : Int → Int} {L p : Int} (f : frm S h h1) (z : ∀ a k, a = y ∧ 8 ≤ k ∧ k ≤ 11 → ¬ S a k) (H : rdP h y T L p) : rdP h1 y T L p := ⟨H.1, (frm_r f (z _ _ (by omega))).trans H.2.1, (frm_r f (z _ _ (by omega))).trans H.2.2.1, (frm_r f (z _ _ (by omega))).trans H.2.2.2.1, fun k => (frm_r f (z _ _ (by omega))).trans (H.2.2.2.2 k)⟩
def rdF (h : mH) (y : Nat) (f q : Int) : Prop := rI h y 3 = f ∧ rI h y 4 = q ∧ ((0 ≤ f ∧ f ≤ 4) ∧ (-1 ≤ q ∧ q ≤ 600))
theorem rdF_c {S : Nat → Nat → Prop} {h h1 : mH} {y : Nat} {f q : Int} (s : frm S h h1) (z : ∀ a k, a = y ∧ (k = 3 ∨ k = 4) → ¬ S a k) (H : rdF h y f q) : rdF h1 y f q := ⟨(frm_r s (z _ _ (by omega))).trans H.1, (frm_r s (z _ _ (by omega))).trans H.2.1, H.2.2⟩
theorem rdP_3 {h : mH} {y : Nat} {T : Int → Int} {L p a : Int} (pp : 0 ≤ p ∧ p ≤ L) (es : tkS T L p = a) (l : L ≤ a) (e8 : rI h y 8 = a) (e9 : rI h y 9 = 3) (e10 : rI h y 10 = a) : rdP h y T L p := by
  have c := tk_c T L p
  rw [es] at c
  exact ⟨pp, by omega, by omega, by omega, fun k => by omega⟩
theorem rdP_0 {h : mH} {y : Nat} {T : Int → Int} {L p a : Int} (pp : 0 ≤ p ∧ p ≤ L) (es : tkS T L p = a) (l : a < L) (q : 97 ≤ T a ∧ T a ≤ 122) (e8 : rI h y 8 = ltE T L a) (e9 : rI h y 9 = 0) (e10 : rI h y 10 = a) : rdP h y T L p := by
  have c := tk_c T L p
  rw [es] at c
  exact ⟨pp, by omega, by omega, by omega, fun k => by omega⟩
theorem rdP_1 {h : mH} {y : Nat} {T : Int → Int} {L p a : Int} (pp : 0 ≤ p ∧ p ≤ L) (es : tkS T L p = a) (l : a < L) (q : 48 ≤ T a ∧ T a ≤ 57) (e8 : rI h y 8 = dgE T L a) (e9 : (rI h y 9 = 1 ∧ dgE T L a - a ≤ 2) ∨ (rI h y 9 = 4 ∧ 2 < dgE T L a - a)) (e10 : rI h y 10 = a) (e11 : dgE T L a - a ≤ 2 → rI h y 11 = tvZ T a (dgE T L a)) : rdP h y T L p := by
  have c := tk_c T L p
  rw [es] at c
  have ee : tkE T L p = dgE T L a := by omega
  refine ⟨pp, by omega, by omega, by omega, fun k => ?_⟩
  unfold tkV
  rw [es, ee]
  exact e11 (by omega)
theorem rdP_2 {h : mH} {y : Nat} {T : Int → Int} {L p a : Int} (pp : 0 ≤ p ∧ p ≤ L) (es : tkS T L p = a) (l : a < L) (q1 : ¬ (97 ≤ T a ∧ T a ≤ 122)) (q2 : ¬ (48 ≤ T a ∧ T a ≤ 57)) (e8 : rI h y 8 = a + 1) (e9 : (rI h y 9 = 2 ∧ T a = 59) ∨ (rI h y 9 = 4 ∧ T a ≠ 59)) (e10 : rI h y 10 = a) : rdP h y T L p := by
  have c := tk_c T L p
  rw [es] at c
  exact ⟨pp, by omega, by omega, by omega, fun k => by omega⟩
def ntF (c : Prop) [Decidable c] (k f : Int) : Int := if c ∧ f = 0 then k else f
def ntQ (c : Prop) [Decidable c] (s f q : Int) : Int := if c ∧ f = 0 then s else q
theorem nt_y {c : Prop} [Decidable c] {k s f q : Int} (h : c) (z : f = 0) : ntF c k f = k ∧ ntQ c s f q = s := ⟨if_pos ⟨h, z⟩, if_pos ⟨h, z⟩⟩
theorem nt_n {c : Prop} [Decidable c] {k s f q : Int} (h : ¬ (c ∧ f = 0)) : ntF c k f = f ∧ ntQ c s f q = q := ⟨if_neg h, if_neg h⟩
set_option maxHeartbeats 400000 in
theorem zp_X6_isLetter {ad : mA} {dd : Nat} {h : mH} {Q : mQ}    (v : Int) (v_r : -2147483648 ≤ v ∧ v < 2147483648)  (kq : Q (some (.int (zI (bZ (97 ≤ v ∧ v ≤ 122))))) h) : mCal TB0 ad (dd + 1) M_X6_isLetter [.int (zI v)] h 0 0 Q := by
  refine ⟨Nat.le_of_ble_eq_true rfl, ?_⟩
  show mEv TB0 ad M_X6_isLetter (dd + 1) (0, 0) (mCal TB0 ad (dd + 0)) (fun v h' z => z.1 = 0 ∧ Q v h') 0 [some (.int (zI v))] [] h (0, 0)
  refine e_iload_n dX6_isLetter_0 rfl ?_
  refine z_bipush (97) dX6_isLetter_1 rfl ?_
  refine z_icmp_lt 16 dX6_isLetter_3 rfl ⟨by omega, by omega⟩ ⟨by omega, by omega⟩ (fun c1 => ?_) (fun c1 => ?_)
  · skip
    refine z_iconst (0) dX6_isLetter_16 rfl ?_
    refine z_bret dX6_isLetter_17 rfl (Or.inl rfl) ⟨rfl, ?_⟩
    refine z_q0 kq ?_
    omega
  · skip
    refine e_iload_n dX6_isLetter_6 rfl ?_
    refine z_bipush (122) dX6_isLetter_7 rfl ?_
    refine z_icmp_gt 16 dX6_isLetter_9 rfl ⟨by omega, by omega⟩ ⟨by omega, by omega⟩ (fun c2 => ?_) (fun c2 => ?_)
    · skip
      refine z_iconst (0) dX6_isLetter_16 rfl ?_
      refine z_bret dX6_isLetter_17 rfl (Or.inl rfl) ⟨rfl, ?_⟩
      refine z_q0 kq ?_
      omega
    · skip
      refine z_iconst (1) dX6_isLetter_12 rfl ?_
      refine e_goto 17 dX6_isLetter_13 rfl ?_
      refine z_bret dX6_isLetter_17 rfl (Or.inr rfl) ⟨rfl, ?_⟩
      refine z_q1 kq ?_
      omega
set_option maxHeartbeats 400000 in
theorem zp_X6_isDigit {ad : mA} {dd : Nat} {h : mH} {Q : mQ}    (v : Int) (v_r : -2147483648 ≤ v ∧ v < 2147483648)  (kq : Q (some (.int (zI (bZ (48 ≤ v ∧ v ≤ 57))))) h) : mCal TB0 ad (dd + 1) M_X6_isDigit [.int (zI v)] h 0 0 Q := by
  refine ⟨Nat.le_of_ble_eq_true rfl, ?_⟩
  show mEv TB0 ad M_X6_isDigit (dd + 1) (0, 0) (mCal TB0 ad (dd + 0)) (fun v h' z => z.1 = 0 ∧ Q v h') 0 [some (.int (zI v))] [] h (0, 0)
  refine e_iload_n dX6_isDigit_0 rfl ?_
  refine z_bipush (48) dX6_isDigit_1 rfl ?_
  refine z_icmp_lt 16 dX6_isDigit_3 rfl ⟨by omega, by omega⟩ ⟨by omega, by omega⟩ (fun c1 => ?_) (fun c1 => ?_)
  · skip
    refine z_iconst (0) dX6_isDigit_16 rfl ?_
    refine z_bret dX6_isDigit_17 rfl (Or.inl rfl) ⟨rfl, ?_⟩
    refine z_q0 kq ?_
    omega
  · skip
    refine e_iload_n dX6_isDigit_6 rfl ?_
    refine z_bipush (57) dX6_isDigit_7 rfl ?_
    refine z_icmp_gt 16 dX6_isDigit_9 rfl ⟨by omega, by omega⟩ ⟨by omega, by omega⟩ (fun c2 => ?_) (fun c2 => ?_)
    · skip
      refine z_iconst (0) dX6_isDigit_16 rfl ?_
      refine z_bret dX6_isDigit_17 rfl (Or.inl rfl) ⟨rfl, ?_⟩
      refine z_q0 kq ?_
      omega
    · skip
      refine z_iconst (1) dX6_isDigit_12 rfl ?_
      refine e_goto 17 dX6_isDigit_13 rfl ?_
      refine z_bret dX6_isDigit_17 rfl (Or.inr rfl) ⟨rfl, ?_⟩
      refine z_q1 kq ?_
      omega
set_option maxHeartbeats 400000 in
theorem zp_X6_takeLetters {ad : mA} {dd : Nat} {h : mH} {Q : mQ} {y : Nat} {T : Int → Int} {L : Int} (hk : rdk h y) (HT : rdT h y T L) (s : Int)  (pa : rI h y 8 = s) (ps : 0 ≤ s ∧ s ≤ L) (kq : ∀ h1, frm (fun a k => a = y ∧ (k = 8 ∨ k = 9)) h h1 → (rI h1 y 8 = ltE T L s) → (rI h1 y 9 = 0) → Q none h1) : mCal TB0 ad (dd + 2) M_X6_takeLetters [.ref y] h 0 0 Q := by
  refine ⟨Nat.le_of_ble_eq_true rfl, ?_⟩
  show mEv TB0 ad M_X6_takeLetters (dd + 2) (0, 0) (mCal TB0 ad (dd + 1)) (fun v h' z => z.1 = 0 ∧ Q v h') 0 [some (.ref y)] [] h (0, 0)
  have FR0 : frm (fun a k => a = y ∧ (k = 8 ∨ k = 9)) h h := frm_0 h
  have w1 := HT.1
  refine e_aload_n dX6_takeLetters_0 rfl ?_
  refine z_iconst (0) dX6_takeLetters_1 rfl ?_
  refine z_put dX6_takeLetters_2 tf_6_53 (congrArg Prod.fst (rd_s0 hk)) rfl (Or.inl rfl) (fun h1 e2 => ?_)
  have f3 := frm_1 e2
  have k4 := lk_q (frm_s f3) hk
  have H5 := rdT_c f3 (fun a k q => by omega) HT
  have FR6 := frm_t FR0 (frm_m (S' := (fun a k => a = y ∧ (k = 8 ∨ k = 9))) f3 (fun a k q => by omega))
  have lp7 : ∀ (n7 : Nat) (a : Int) (h7 : mH), (L - a).toNat = n7 → (rdk h7 y) → (rdT h7 y T L) → (frm (fun a k => a = y ∧ (k = 8 ∨ k = 9)) h h7) → (s ≤ a ∧ a ≤ L) → (rI h7 y 8 = a) → (ltE T L s = ltE T L a) → (rI h7 y 9 = 0) → mEv TB0 ad M_X6_takeLetters (dd + 2) (0, 0) (mCal TB0 ad (dd + 1)) (fun v h' z => z.1 = 0 ∧ Q v h') 5 [some (.ref y)] [] h7 (0, 0) := by
    intro n7
    induction n7 using Nat.strongRecOn with
    | ind n7 ih7 =>
    intro a h7 hn7 k8 H9 FR10 I1 I2 I3 I4
    refine e_aload_n dX6_takeLetters_5 rfl ?_
    refine z_get a dX6_takeLetters_6 tf_6_50 (congrArg Prod.fst (rd_s0 k8)) (Or.inl rfl) I2 ?_
    refine e_aload_n dX6_takeLetters_9 rfl ?_
    refine z_get L dX6_takeLetters_10 tf_6_47 (congrArg Prod.fst (rd_s0 k8)) (Or.inl rfl) H9.2.1 ?_
    have y11 := H9.1
    refine z_icmp_ge 44 dX6_takeLetters_13 rfl ⟨by omega, by omega⟩ ⟨by omega, by omega⟩ (fun c12 => ?_) (fun c12 => ?_)
    · skip
      refine e_vret dX6_takeLetters_44 rfl ⟨rfl, ?_⟩
      exact kq _ FR10 (by rw [I3, lt_n (by omega)]; exact I2) I4
    · skip
      refine e_aload_n dX6_takeLetters_16 rfl ?_
      refine e_get (.ref (y + 25)) dX6_takeLetters_17 tf_6_39 (congrArg Prod.fst (rd_s0 k8)) (congrArg va_rf (rd_r0_5 k8)) ?_
      refine e_aload_n dX6_takeLetters_20 rfl ?_
      refine z_get a dX6_takeLetters_21 tf_6_50 (congrArg Prod.fst (rd_s0 k8)) (Or.inl rfl) I2 ?_
      refine z_bld (T a) dX6_takeLetters_24 (rd_s25 k8) (by decide) (by omega) (by omega) (H9.2.2.1 a (by omega) (by omega)) ?_
      have y13 := H9.2.2.2 a (by omega) (by omega)
      refine e_callS [.int _] dX6_takeLetters_25 tm_6_233 rfl (Nat.le_of_ble_eq_true rfl) (Nat.le_refl _) (Nat.le_refl _) rfl (zp_X6_isLetter (T a) ⟨by omega, by omega⟩ ?_)
      refine z_ifb_eq 44 dX6_takeLetters_28 rfl (fun c14 => ?_) (fun c14 => ?_)
      · skip
        refine e_vret dX6_takeLetters_44 rfl ⟨rfl, ?_⟩
        exact kq _ FR10 (by rw [I3, lt_n (by omega)]; exact I2) I4
      · skip
        refine e_aload_n dX6_takeLetters_31 rfl ?_
        refine e_dup dX6_takeLetters_32 rfl ?_
        refine z_get a dX6_takeLetters_33 tf_6_50 (congrArg Prod.fst (rd_s0 k8)) (Or.inl rfl) I2 ?_
        refine z_iconst (1) dX6_takeLetters_36 rfl ?_
        refine z_iadd dX6_takeLetters_37 ?_
        refine z_put dX6_takeLetters_38 tf_6_50 (congrArg Prod.fst (rd_s0 k8)) rfl (Or.inl rfl) (fun h15 e16 => ?_)
        have f17 := frm_1 e16
        have k18 := lk_q (frm_s f17) k8
        have H19 := rdT_c f17 (fun a k q => by omega) H9
        have FR20 := frm_t FR10 (frm_m (S' := (fun a k => a = y ∧ (k = 8 ∨ k = 9))) f17 (fun a k q => by omega))
        refine e_goto 5 dX6_takeLetters_41 rfl ?_
        exact ih7 _ (by omega) (a + 1) h15 rfl k18 H19 FR20 (by omega) (rI_eq e16 ⟨by omega, by omega⟩) (I3.trans (lt_y (by omega) (by omega))) (((frm_r f17 (by omega))).trans I4)
  exact lp7 _ s h1 rfl k4 H5 FR6 (by omega) (((frm_r f3 (by omega))).trans pa) rfl (rI_eq e2 ⟨by omega, by omega⟩)
set_option maxHeartbeats 1000000 in
theorem zp_X6_takeDigits {ad : mA} {dd : Nat} {h : mH} {Q : mQ} {y : Nat} {T : Int → Int} {L : Int} (hk : rdk h y) (HT : rdT h y T L) (s : Int)  (pa : rI h y 8 = s) (pb : rI h y 10 = s) (ps : 0 ≤ s ∧ s < L) (pq : 48 ≤ T s ∧ T s ≤ 57) (kq : ∀ h1, frm (fun a k => a = y ∧ (k = 8 ∨ k = 9 ∨ k = 11)) h h1 → (rI h1 y 8 = dgE T L s) → ((rI h1 y 9 = 1 ∧ dgE T L s - s ≤ 2) ∨ (rI h1 y 9 = 4 ∧ 2 < dgE T L s - s)) → (dgE T L s - s ≤ 2 → rI h1 y 11 = tvZ T s (dgE T L s)) → Q none h1) : mCal TB0 ad (dd + 2) M_X6_takeDigits [.ref y] h 0 0 Q := by
  refine ⟨Nat.le_of_ble_eq_true rfl, ?_⟩
  show mEv TB0 ad M_X6_takeDigits (dd + 2) (0, 0) (mCal TB0 ad (dd + 1)) (fun v h' z => z.1 = 0 ∧ Q v h') 0 [some (.ref y)] [] h (0, 0)
  have FR0 : frm (fun a k => a = y ∧ (k = 8 ∨ k = 9 ∨ k = 11)) h h := frm_0 h
  have w1 := HT.1
  have d1 := dg_1 ps.2 pq
  refine e_aload_n dX6_takeDigits_0 rfl ?_
  refine z_iconst (0) dX6_takeDigits_1 rfl ?_
  refine z_put dX6_takeDigits_2 tf_6_59 (congrArg Prod.fst (rd_s0 hk)) rfl (Or.inl rfl) (fun h1 e2 => ?_)
  have f3 := frm_1 e2
  have k4 := lk_q (frm_s f3) hk
  have H5 := rdT_c f3 (fun a k q => by omega) HT
  have FR6 := frm_t FR0 (frm_m (S' := (fun a k => a = y ∧ (k = 8 ∨ k = 9 ∨ k = 11))) f3 (fun a k q => by omega))
  have lp7 : ∀ (n7 : Nat) (a w : Int) (h7 : mH), (L - a).toNat = n7 → (rdk h7 y) → (rdT h7 y T L) → (frm (fun a k => a = y ∧ (k = 8 ∨ k = 9 ∨ k = 11)) h h7) → (s ≤ a ∧ a ≤ L) → (rI h7 y 8 = a ∧ rI h7 y 10 = s) → (dgE T L s = dgE T L a) → (rI h7 y 11 = w) → ((a = s ∧ w = 0) ∨ (a = s + 1 ∧ w = T s - 48 ∧ 0 ≤ w ∧ w ≤ 9) ∨ (a = s + 2 ∧ w = 10 * (T s - 48) + (T (s + 1) - 48) ∧ 0 ≤ w ∧ w ≤ 99) ∨ (s + 2 < a ∧ 0 ≤ w ∧ w ≤ 100)) → mEv TB0 ad M_X6_takeDigits (dd + 2) (0, 0) (mCal TB0 ad (dd + 1)) (fun v h' z => z.1 = 0 ∧ Q v h') 5 [some (.ref y)] [] h7 (0, 0) := by
    intro n7
    induction n7 using Nat.strongRecOn with
    | ind n7 ih7 =>
    intro a w h7 hn7 k8 H9 FR10 I1 I2 I3 I4 I5
    refine e_aload_n dX6_takeDigits_5 rfl ?_
    refine z_get a dX6_takeDigits_6 tf_6_50 (congrArg Prod.fst (rd_s0 k8)) (Or.inl rfl) I2.1 ?_
    refine e_aload_n dX6_takeDigits_9 rfl ?_
    refine z_get L dX6_takeDigits_10 tf_6_47 (congrArg Prod.fst (rd_s0 k8)) (Or.inl rfl) H9.2.1 ?_
    have y11 := H9.1
    refine z_icmp_ge 73 dX6_takeDigits_13 rfl ⟨by omega, by omega⟩ ⟨by omega, by omega⟩ (fun c12 => ?_) (fun c12 => ?_)
    · skip
      have ED : dgE T L s = a := I3.trans (dge_n (by omega))
      refine e_aload_n dX6_takeDigits_73 rfl ?_
      refine e_aload_n dX6_takeDigits_74 rfl ?_
      refine z_get a dX6_takeDigits_75 tf_6_50 (congrArg Prod.fst (rd_s0 k8)) (Or.inl rfl) I2.1 ?_
      refine e_aload_n dX6_takeDigits_78 rfl ?_
      refine z_get s dX6_takeDigits_79 tf_6_56 (congrArg Prod.fst (rd_s0 k8)) (Or.inl rfl) I2.2 ?_
      refine z_isub dX6_takeDigits_82 ?_
      refine z_iconst (2) dX6_takeDigits_83 rfl ?_
      refine z_icmp_gt 91 dX6_takeDigits_84 rfl ⟨by omega, by omega⟩ ⟨by omega, by omega⟩ (fun c13 => ?_) (fun c13 => ?_)
      · skip
        refine z_iconst (4) dX6_takeDigits_91 rfl ?_
        refine z_put dX6_takeDigits_92 tf_6_53 (congrArg Prod.fst (rd_s0 k8)) rfl (Or.inl rfl) (fun h14 e15 => ?_)
        have f16 := frm_1 e15
        have k17 := lk_q (frm_s f16) k8
        have H18 := rdT_c f16 (fun a k q => by omega) H9
        have FR19 := frm_t FR10 (frm_m (S' := (fun a k => a = y ∧ (k = 8 ∨ k = 9 ∨ k = 11))) f16 (fun a k q => by omega))
        refine e_vret dX6_takeDigits_95 rfl ⟨rfl, ?_⟩
        exact kq _ FR19 (by rw [ED]; exact ((frm_r f16 (by omega))).trans I2.1) (by rw [ED]; first | exact Or.inl ⟨(rI_eq e15 ⟨by omega, by omega⟩), by omega⟩ | exact Or.inr ⟨(rI_eq e15 ⟨by omega, by omega⟩), by omega⟩) (fun z => by
          rw [ED] at z
          refine (((frm_r f16 (by omega))).trans I4).trans ?_
          unfold tvZ
          rw [ED]
          by_cases u : a - s = 1
          · rw [if_pos u]; omega
          · rw [if_neg u]; omega)
      · skip
        refine z_iconst (1) dX6_takeDigits_87 rfl ?_
        refine e_goto 92 dX6_takeDigits_88 rfl ?_
        refine z_put dX6_takeDigits_92 tf_6_53 (congrArg Prod.fst (rd_s0 k8)) rfl (Or.inl rfl) (fun h20 e21 => ?_)
        have f22 := frm_1 e21
        have k23 := lk_q (frm_s f22) k8
        have H24 := rdT_c f22 (fun a k q => by omega) H9
        have FR25 := frm_t FR10 (frm_m (S' := (fun a k => a = y ∧ (k = 8 ∨ k = 9 ∨ k = 11))) f22 (fun a k q => by omega))
        refine e_vret dX6_takeDigits_95 rfl ⟨rfl, ?_⟩
        exact kq _ FR25 (by rw [ED]; exact ((frm_r f22 (by omega))).trans I2.1) (by rw [ED]; first | exact Or.inl ⟨(rI_eq e21 ⟨by omega, by omega⟩), by omega⟩ | exact Or.inr ⟨(rI_eq e21 ⟨by omega, by omega⟩), by omega⟩) (fun z => by
          rw [ED] at z
          refine (((frm_r f22 (by omega))).trans I4).trans ?_
          unfold tvZ
          rw [ED]
          by_cases u : a - s = 1
          · rw [if_pos u]; omega
          · rw [if_neg u]; omega)
    · skip
      refine e_aload_n dX6_takeDigits_16 rfl ?_
      refine e_get (.ref (y + 25)) dX6_takeDigits_17 tf_6_39 (congrArg Prod.fst (rd_s0 k8)) (congrArg va_rf (rd_r0_5 k8)) ?_
      refine e_aload_n dX6_takeDigits_20 rfl ?_
      refine z_get a dX6_takeDigits_21 tf_6_50 (congrArg Prod.fst (rd_s0 k8)) (Or.inl rfl) I2.1 ?_
      refine z_bld (T a) dX6_takeDigits_24 (rd_s25 k8) (by decide) (by omega) (by omega) (H9.2.2.1 a (by omega) (by omega)) ?_
      have y26 := H9.2.2.2 a (by omega) (by omega)
      refine e_callS [.int _] dX6_takeDigits_25 tm_6_239 rfl (Nat.le_of_ble_eq_true rfl) (Nat.le_refl _) (Nat.le_refl _) rfl (zp_X6_isDigit (T a) ⟨by omega, by omega⟩ ?_)
      refine z_ifb_eq 73 dX6_takeDigits_28 rfl (fun c27 => ?_) (fun c27 => ?_)
      · skip
        have ED : dgE T L s = a := I3.trans (dge_n (by omega))
        refine e_aload_n dX6_takeDigits_73 rfl ?_
        refine e_aload_n dX6_takeDigits_74 rfl ?_
        refine z_get a dX6_takeDigits_75 tf_6_50 (congrArg Prod.fst (rd_s0 k8)) (Or.inl rfl) I2.1 ?_
        refine e_aload_n dX6_takeDigits_78 rfl ?_
        refine z_get s dX6_takeDigits_79 tf_6_56 (congrArg Prod.fst (rd_s0 k8)) (Or.inl rfl) I2.2 ?_
        refine z_isub dX6_takeDigits_82 ?_
        refine z_iconst (2) dX6_takeDigits_83 rfl ?_
        refine z_icmp_gt 91 dX6_takeDigits_84 rfl ⟨by omega, by omega⟩ ⟨by omega, by omega⟩ (fun c28 => ?_) (fun c28 => ?_)
        · skip
          refine z_iconst (4) dX6_takeDigits_91 rfl ?_
          refine z_put dX6_takeDigits_92 tf_6_53 (congrArg Prod.fst (rd_s0 k8)) rfl (Or.inl rfl) (fun h29 e30 => ?_)
          have f31 := frm_1 e30
          have k32 := lk_q (frm_s f31) k8
          have H33 := rdT_c f31 (fun a k q => by omega) H9
          have FR34 := frm_t FR10 (frm_m (S' := (fun a k => a = y ∧ (k = 8 ∨ k = 9 ∨ k = 11))) f31 (fun a k q => by omega))
          refine e_vret dX6_takeDigits_95 rfl ⟨rfl, ?_⟩
          exact kq _ FR34 (by rw [ED]; exact ((frm_r f31 (by omega))).trans I2.1) (by rw [ED]; first | exact Or.inl ⟨(rI_eq e30 ⟨by omega, by omega⟩), by omega⟩ | exact Or.inr ⟨(rI_eq e30 ⟨by omega, by omega⟩), by omega⟩) (fun z => by
            rw [ED] at z
            refine (((frm_r f31 (by omega))).trans I4).trans ?_
            unfold tvZ
            rw [ED]
            by_cases u : a - s = 1
            · rw [if_pos u]; omega
            · rw [if_neg u]; omega)
        · skip
          refine z_iconst (1) dX6_takeDigits_87 rfl ?_
          refine e_goto 92 dX6_takeDigits_88 rfl ?_
          refine z_put dX6_takeDigits_92 tf_6_53 (congrArg Prod.fst (rd_s0 k8)) rfl (Or.inl rfl) (fun h35 e36 => ?_)
          have f37 := frm_1 e36
          have k38 := lk_q (frm_s f37) k8
          have H39 := rdT_c f37 (fun a k q => by omega) H9
          have FR40 := frm_t FR10 (frm_m (S' := (fun a k => a = y ∧ (k = 8 ∨ k = 9 ∨ k = 11))) f37 (fun a k q => by omega))
          refine e_vret dX6_takeDigits_95 rfl ⟨rfl, ?_⟩
          exact kq _ FR40 (by rw [ED]; exact ((frm_r f37 (by omega))).trans I2.1) (by rw [ED]; first | exact Or.inl ⟨(rI_eq e36 ⟨by omega, by omega⟩), by omega⟩ | exact Or.inr ⟨(rI_eq e36 ⟨by omega, by omega⟩), by omega⟩) (fun z => by
            rw [ED] at z
            refine (((frm_r f37 (by omega))).trans I4).trans ?_
            unfold tvZ
            rw [ED]
            by_cases u : a - s = 1
            · rw [if_pos u]; omega
            · rw [if_neg u]; omega)
      · skip
        have ea : a = s → T a = T s := fun z => by rw [z]
        have eb : a = s + 1 → T a = T (s + 1) := fun z => by rw [z]
        refine e_aload_n dX6_takeDigits_31 rfl ?_
        refine z_bipush (100) dX6_takeDigits_32 rfl ?_
        refine z_bipush (10) dX6_takeDigits_34 rfl ?_
        refine e_aload_n dX6_takeDigits_36 rfl ?_
        refine z_get w dX6_takeDigits_37 tf_6_59 (congrArg Prod.fst (rd_s0 k8)) (Or.inl rfl) I4 ?_
        refine z_imul dX6_takeDigits_40 ?_
        refine e_aload_n dX6_takeDigits_41 rfl ?_
        refine e_get (.ref (y + 25)) dX6_takeDigits_42 tf_6_39 (congrArg Prod.fst (rd_s0 k8)) (congrArg va_rf (rd_r0_5 k8)) ?_
        refine e_aload_n dX6_takeDigits_45 rfl ?_
        refine z_get a dX6_takeDigits_46 tf_6_50 (congrArg Prod.fst (rd_s0 k8)) (Or.inl rfl) I2.1 ?_
        refine z_bld (T a) dX6_takeDigits_49 (rd_s25 k8) (by decide) (by omega) (by omega) (H9.2.2.1 a (by omega) (by omega)) ?_
        have y41 := H9.2.2.2 a (by omega) (by omega)
        refine z_iadd dX6_takeDigits_50 ?_
        refine z_bipush (48) dX6_takeDigits_51 rfl ?_
        refine z_isub dX6_takeDigits_53 ?_
        refine z_mmin dX6_takeDigits_54 tm_6_98 (Nat.le_of_ble_eq_true rfl) ⟨by omega, by omega⟩ ⟨by omega, by omega⟩ ?_
        refine z_put dX6_takeDigits_57 tf_6_59 (congrArg Prod.fst (rd_s0 k8)) rfl (Or.inl rfl) (fun h42 e43 => ?_)
        have f44 := frm_1 e43
        have k45 := lk_q (frm_s f44) k8
        have H46 := rdT_c f44 (fun a k q => by omega) H9
        have FR47 := frm_t FR10 (frm_m (S' := (fun a k => a = y ∧ (k = 8 ∨ k = 9 ∨ k = 11))) f44 (fun a k q => by omega))
        refine e_aload_n dX6_takeDigits_60 rfl ?_
        refine e_dup dX6_takeDigits_61 rfl ?_
        refine z_get a dX6_takeDigits_62 tf_6_50 (congrArg Prod.fst (rd_s0 k45)) (Or.inl rfl) (((frm_r f44 (by omega))).trans I2.1) ?_
        refine z_iconst (1) dX6_takeDigits_65 rfl ?_
        refine z_iadd dX6_takeDigits_66 ?_
        refine z_put dX6_takeDigits_67 tf_6_50 (congrArg Prod.fst (rd_s0 k45)) rfl (Or.inl rfl) (fun h48 e49 => ?_)
        have f50 := frm_1 e49
        have k51 := lk_q (frm_s f50) k45
        have H52 := rdT_c f50 (fun a k q => by omega) H46
        have FR53 := frm_t FR47 (frm_m (S' := (fun a k => a = y ∧ (k = 8 ∨ k = 9 ∨ k = 11))) f50 (fun a k q => by omega))
        refine e_goto 5 dX6_takeDigits_70 rfl ?_
        exact ih7 _ (by omega) (a + 1) (min 100 (((10 * w) + (T a)) - 48)) h48 rfl k51 H52 FR53 (by omega) (⟨(rI_eq e49 ⟨by omega, by omega⟩), (((frm_r f50 (by omega)).trans (frm_r f44 (by omega)))).trans I2.2⟩) (I3.trans (dge_y (by omega) (by omega))) ((frm_r f50 (by omega)).trans (rI_eq e43 ⟨by omega, by omega⟩)) (by omega)
  exact lp7 _ s 0 h1 rfl k4 H5 FR6 (by omega) (⟨((frm_r f3 (by omega))).trans pa, ((frm_r f3 (by omega))).trans pb⟩) rfl (rI_eq e2 ⟨by omega, by omega⟩) (by omega)
set_option maxHeartbeats 1000000 in
theorem zp_X6_advance {ad : mA} {dd : Nat} {h : mH} {Q : mQ} {y : Nat} {T : Int → Int} {L : Int} (hk : rdk h y) (HT : rdT h y T L) (p : Int)  (pa : rI h y 8 = p) (pp : 0 ≤ p ∧ p ≤ L) (kq : ∀ h1, frm (fun a k => a = y ∧ 8 ≤ k ∧ k ≤ 11) h h1 → (rdP h1 y T L p) → Q none h1) : mCal TB0 ad (dd + 3) M_X6_advance [.ref y] h 0 0 Q := by
  refine ⟨Nat.le_of_ble_eq_true rfl, ?_⟩
  show mEv TB0 ad M_X6_advance (dd + 3) (0, 0) (mCal TB0 ad (dd + 2)) (fun v h' z => z.1 = 0 ∧ Q v h') 0 [some (.ref y)] [] h (0, 0)
  have FR0 : frm (fun a k => a = y ∧ 8 ≤ k ∧ k ≤ 11) h h := frm_0 h
  have w1 := HT.1
  have lp1 : ∀ (n1 : Nat) (a : Int) (h1 : mH), (L - a).toNat = n1 → (rdk h1 y) → (rdT h1 y T L) → (frm (fun a k => a = y ∧ 8 ≤ k ∧ k ≤ 11) h h1) → (p ≤ a ∧ a ≤ L) → (rI h1 y 8 = a) → (tkS T L p = tkS T L a) → mEv TB0 ad M_X6_advance (dd + 3) (0, 0) (mCal TB0 ad (dd + 2)) (fun v h' z => z.1 = 0 ∧ Q v h') 0 [some (.ref y)] [] h1 (0, 0) := by
    intro n1
    induction n1 using Nat.strongRecOn with
    | ind n1 ih1 =>
    intro a h1 hn1 k2 H3 FR4 I1 I2 I3
    refine e_aload_n dX6_advance_0 rfl ?_
    refine z_get a dX6_advance_1 tf_6_50 (congrArg Prod.fst (rd_s0 k2)) (Or.inl rfl) I2 ?_
    refine e_aload_n dX6_advance_4 rfl ?_
    refine z_get L dX6_advance_5 tf_6_47 (congrArg Prod.fst (rd_s0 k2)) (Or.inl rfl) H3.2.1 ?_
    have y5 := H3.1
    refine z_icmp_ge 52 dX6_advance_8 rfl ⟨by omega, by omega⟩ ⟨by omega, by omega⟩ (fun c6 => ?_) (fun c6 => ?_)
    · skip
      have ES : tkS T L p = a := I3.trans (ts_n (by omega))
      refine e_aload_n dX6_advance_52 rfl ?_
      refine e_aload_n dX6_advance_53 rfl ?_
      refine z_get a dX6_advance_54 tf_6_50 (congrArg Prod.fst (rd_s0 k2)) (Or.inl rfl) I2 ?_
      refine z_put dX6_advance_57 tf_6_56 (congrArg Prod.fst (rd_s0 k2)) rfl (Or.inl rfl) (fun h7 e8 => ?_)
      have f9 := frm_1 e8
      have k10 := lk_q (frm_s f9) k2
      have H11 := rdT_c f9 (fun a k q => by omega) H3
      have FR12 := frm_t FR4 (frm_m (S' := (fun a k => a = y ∧ 8 ≤ k ∧ k ≤ 11)) f9 (fun a k q => by omega))
      have z13 : rI h7 y 10 = a := (rI_eq e8 ⟨by omega, by omega⟩)
      have z13b : rI h7 y 8 = a := ((frm_r f9 (by omega))).trans I2
      refine e_aload_n dX6_advance_60 rfl ?_
      refine z_get a dX6_advance_61 tf_6_50 (congrArg Prod.fst (rd_s0 k10)) (Or.inl rfl) z13b ?_
      refine e_aload_n dX6_advance_64 rfl ?_
      refine z_get L dX6_advance_65 tf_6_47 (congrArg Prod.fst (rd_s0 k10)) (Or.inl rfl) H11.2.1 ?_
      have y14 := H11.1
      refine z_icmp_lt 79 dX6_advance_68 rfl ⟨by omega, by omega⟩ ⟨by omega, by omega⟩ (fun c15 => ?_) (fun c15 => ?_)
      · skip
        refine e_aload_n dX6_advance_79 rfl ?_
        refine e_get (.ref (y + 25)) dX6_advance_80 tf_6_39 (congrArg Prod.fst (rd_s0 k10)) (congrArg va_rf (rd_r0_5 k10)) ?_
        refine e_aload_n dX6_advance_83 rfl ?_
        refine z_get a dX6_advance_84 tf_6_50 (congrArg Prod.fst (rd_s0 k10)) (Or.inl rfl) z13b ?_
        refine z_bld (T a) dX6_advance_87 (rd_s25 k10) (by decide) (by omega) (by omega) (H11.2.2.1 a (by omega) (by omega)) ?_
        have y16 := H11.2.2.2 a (by omega) (by omega)
        refine e_callS [.int _] dX6_advance_88 tm_6_233 rfl (Nat.le_of_ble_eq_true rfl) (Nat.le_refl _) (Nat.le_refl _) rfl (zp_X6_isLetter (T a) ⟨by omega, by omega⟩ ?_)
        refine z_ifb_eq 101 dX6_advance_91 rfl (fun c17 => ?_) (fun c17 => ?_)
        · skip
          refine e_aload_n dX6_advance_101 rfl ?_
          refine e_get (.ref (y + 25)) dX6_advance_102 tf_6_39 (congrArg Prod.fst (rd_s0 k10)) (congrArg va_rf (rd_r0_5 k10)) ?_
          refine e_aload_n dX6_advance_105 rfl ?_
          refine z_get a dX6_advance_106 tf_6_50 (congrArg Prod.fst (rd_s0 k10)) (Or.inl rfl) z13b ?_
          refine z_bld (T a) dX6_advance_109 (rd_s25 k10) (by decide) (by omega) (by omega) (H11.2.2.1 a (by omega) (by omega)) ?_
          have y18 := H11.2.2.2 a (by omega) (by omega)
          refine e_callS [.int _] dX6_advance_110 tm_6_239 rfl (Nat.le_of_ble_eq_true rfl) (Nat.le_refl _) (Nat.le_refl _) rfl (zp_X6_isDigit (T a) ⟨by omega, by omega⟩ ?_)
          refine z_ifb_eq 123 dX6_advance_113 rfl (fun c19 => ?_) (fun c19 => ?_)
          · skip
            refine e_aload_n dX6_advance_123 rfl ?_
            refine e_aload_n dX6_advance_124 rfl ?_
            refine e_get (.ref (y + 25)) dX6_advance_125 tf_6_39 (congrArg Prod.fst (rd_s0 k10)) (congrArg va_rf (rd_r0_5 k10)) ?_
            refine e_aload_n dX6_advance_128 rfl ?_
            refine z_get a dX6_advance_129 tf_6_50 (congrArg Prod.fst (rd_s0 k10)) (Or.inl rfl) z13b ?_
            refine z_bld (T a) dX6_advance_132 (rd_s25 k10) (by decide) (by omega) (by omega) (H11.2.2.1 a (by omega) (by omega)) ?_
            have y20 := H11.2.2.2 a (by omega) (by omega)
            refine z_bipush (59) dX6_advance_133 rfl ?_
            refine z_icmp_ne 142 dX6_advance_135 rfl ⟨by omega, by omega⟩ ⟨by omega, by omega⟩ (fun c21 => ?_) (fun c21 => ?_)
            · skip
              refine z_iconst (4) dX6_advance_142 rfl ?_
              refine z_put dX6_advance_143 tf_6_53 (congrArg Prod.fst (rd_s0 k10)) rfl (Or.inl rfl) (fun h22 e23 => ?_)
              have f24 := frm_1 e23
              have k25 := lk_q (frm_s f24) k10
              have H26 := rdT_c f24 (fun a k q => by omega) H11
              have FR27 := frm_t FR12 (frm_m (S' := (fun a k => a = y ∧ 8 ≤ k ∧ k ≤ 11)) f24 (fun a k q => by omega))
              refine e_aload_n dX6_advance_146 rfl ?_
              refine e_dup dX6_advance_147 rfl ?_
              refine z_get a dX6_advance_148 tf_6_50 (congrArg Prod.fst (rd_s0 k25)) (Or.inl rfl) (((frm_r f24 (by omega))).trans z13b) ?_
              refine z_iconst (1) dX6_advance_151 rfl ?_
              refine z_iadd dX6_advance_152 ?_
              refine z_put dX6_advance_153 tf_6_50 (congrArg Prod.fst (rd_s0 k25)) rfl (Or.inl rfl) (fun h28 e29 => ?_)
              have f30 := frm_1 e29
              have k31 := lk_q (frm_s f30) k25
              have H32 := rdT_c f30 (fun a k q => by omega) H26
              have FR33 := frm_t FR27 (frm_m (S' := (fun a k => a = y ∧ 8 ≤ k ∧ k ≤ 11)) f30 (fun a k q => by omega))
              refine e_vret dX6_advance_156 rfl ⟨rfl, ?_⟩
              exact kq _ FR33 (rdP_2 pp ES (by omega) (by omega) (by omega) (rI_eq e29 ⟨by omega, by omega⟩) (by first | exact Or.inl ⟨((frm_r f30 (by omega)).trans (rI_eq e23 ⟨by omega, by omega⟩)), by omega⟩ | exact Or.inr ⟨((frm_r f30 (by omega)).trans (rI_eq e23 ⟨by omega, by omega⟩)), by omega⟩) ((((frm_r f30 (by omega)).trans (frm_r f24 (by omega)))).trans z13))
            · skip
              refine z_iconst (2) dX6_advance_138 rfl ?_
              refine e_goto 143 dX6_advance_139 rfl ?_
              refine z_put dX6_advance_143 tf_6_53 (congrArg Prod.fst (rd_s0 k10)) rfl (Or.inl rfl) (fun h34 e35 => ?_)
              have f36 := frm_1 e35
              have k37 := lk_q (frm_s f36) k10
              have H38 := rdT_c f36 (fun a k q => by omega) H11
              have FR39 := frm_t FR12 (frm_m (S' := (fun a k => a = y ∧ 8 ≤ k ∧ k ≤ 11)) f36 (fun a k q => by omega))
              refine e_aload_n dX6_advance_146 rfl ?_
              refine e_dup dX6_advance_147 rfl ?_
              refine z_get a dX6_advance_148 tf_6_50 (congrArg Prod.fst (rd_s0 k37)) (Or.inl rfl) (((frm_r f36 (by omega))).trans z13b) ?_
              refine z_iconst (1) dX6_advance_151 rfl ?_
              refine z_iadd dX6_advance_152 ?_
              refine z_put dX6_advance_153 tf_6_50 (congrArg Prod.fst (rd_s0 k37)) rfl (Or.inl rfl) (fun h40 e41 => ?_)
              have f42 := frm_1 e41
              have k43 := lk_q (frm_s f42) k37
              have H44 := rdT_c f42 (fun a k q => by omega) H38
              have FR45 := frm_t FR39 (frm_m (S' := (fun a k => a = y ∧ 8 ≤ k ∧ k ≤ 11)) f42 (fun a k q => by omega))
              refine e_vret dX6_advance_156 rfl ⟨rfl, ?_⟩
              exact kq _ FR45 (rdP_2 pp ES (by omega) (by omega) (by omega) (rI_eq e41 ⟨by omega, by omega⟩) (by first | exact Or.inl ⟨((frm_r f42 (by omega)).trans (rI_eq e35 ⟨by omega, by omega⟩)), by omega⟩ | exact Or.inr ⟨((frm_r f42 (by omega)).trans (rI_eq e35 ⟨by omega, by omega⟩)), by omega⟩) ((((frm_r f42 (by omega)).trans (frm_r f36 (by omega)))).trans z13))
          · skip
            refine e_aload_n dX6_advance_116 rfl ?_
            have PA := z13b
            have PB := z13
            refine e_callV [] dX6_advance_117 tm_6_242 rfl (Nat.le_of_ble_eq_true rfl) (congrArg Prod.fst (rd_s0 k10)) (Nat.le_of_ble_eq_true rfl) (Nat.le_refl _) (Nat.le_refl _) rfl (zp_X6_takeDigits k10 H11 a PA PB (by omega) (by omega) (fun  h46 f47 p48 p49 p50 => ?_))
            have k51 := lk_q (frm_s f47) k10
            have H52 := rdT_c f47 (fun a k q => by omega) H11
            have FR53 := frm_t FR12 (frm_m (S' := (fun a k => a = y ∧ 8 ≤ k ∧ k ≤ 11)) f47 (fun a k q => by omega))
            skip
            refine e_goto 156 dX6_advance_120 rfl ?_
            refine e_vret dX6_advance_156 rfl ⟨rfl, ?_⟩
            exact kq _ FR53 (rdP_1 pp ES (by omega) (by omega) p48 p49 (((frm_r f47 (by omega))).trans z13) p50)
        · skip
          refine e_aload_n dX6_advance_94 rfl ?_
          have PA := z13b
          refine e_callV [] dX6_advance_95 tm_6_236 rfl (Nat.le_of_ble_eq_true rfl) (congrArg Prod.fst (rd_s0 k10)) (Nat.le_of_ble_eq_true rfl) (Nat.le_refl _) (Nat.le_refl _) rfl (zp_X6_takeLetters k10 H11 a PA (by omega) (fun  h54 f55 p56 p57 => ?_))
          have k58 := lk_q (frm_s f55) k10
          have H59 := rdT_c f55 (fun a k q => by omega) H11
          have FR60 := frm_t FR12 (frm_m (S' := (fun a k => a = y ∧ 8 ≤ k ∧ k ≤ 11)) f55 (fun a k q => by omega))
          skip
          refine e_goto 156 dX6_advance_98 rfl ?_
          refine e_vret dX6_advance_156 rfl ⟨rfl, ?_⟩
          exact kq _ FR60 (rdP_0 pp ES (by omega) (by omega) p56 p57 (((frm_r f55 (by omega))).trans z13))
      · skip
        refine e_aload_n dX6_advance_71 rfl ?_
        refine z_iconst (3) dX6_advance_72 rfl ?_
        refine z_put dX6_advance_73 tf_6_53 (congrArg Prod.fst (rd_s0 k10)) rfl (Or.inl rfl) (fun h61 e62 => ?_)
        have f63 := frm_1 e62
        have k64 := lk_q (frm_s f63) k10
        have H65 := rdT_c f63 (fun a k q => by omega) H11
        have FR66 := frm_t FR12 (frm_m (S' := (fun a k => a = y ∧ 8 ≤ k ∧ k ≤ 11)) f63 (fun a k q => by omega))
        refine e_goto 156 dX6_advance_76 rfl ?_
        refine e_vret dX6_advance_156 rfl ⟨rfl, ?_⟩
        exact kq _ FR66 (rdP_3 pp ES (by omega) (((frm_r f63 (by omega))).trans z13b) (rI_eq e62 ⟨by omega, by omega⟩) (((frm_r f63 (by omega))).trans z13))
    · skip
      refine e_aload_n dX6_advance_11 rfl ?_
      refine e_get (.ref (y + 25)) dX6_advance_12 tf_6_39 (congrArg Prod.fst (rd_s0 k2)) (congrArg va_rf (rd_r0_5 k2)) ?_
      refine e_aload_n dX6_advance_15 rfl ?_
      refine z_get a dX6_advance_16 tf_6_50 (congrArg Prod.fst (rd_s0 k2)) (Or.inl rfl) I2 ?_
      refine z_bld (T a) dX6_advance_19 (rd_s25 k2) (by decide) (by omega) (by omega) (H3.2.2.1 a (by omega) (by omega)) ?_
      have y67 := H3.2.2.2 a (by omega) (by omega)
      refine z_bipush (10) dX6_advance_20 rfl ?_
      refine z_icmp_eq 39 dX6_advance_22 rfl ⟨by omega, by omega⟩ ⟨by omega, by omega⟩ (fun c68 => ?_) (fun c68 => ?_)
      · skip
        refine e_aload_n dX6_advance_39 rfl ?_
        refine e_dup dX6_advance_40 rfl ?_
        refine z_get a dX6_advance_41 tf_6_50 (congrArg Prod.fst (rd_s0 k2)) (Or.inl rfl) I2 ?_
        refine z_iconst (1) dX6_advance_44 rfl ?_
        refine z_iadd dX6_advance_45 ?_
        refine z_put dX6_advance_46 tf_6_50 (congrArg Prod.fst (rd_s0 k2)) rfl (Or.inl rfl) (fun h69 e70 => ?_)
        have f71 := frm_1 e70
        have k72 := lk_q (frm_s f71) k2
        have H73 := rdT_c f71 (fun a k q => by omega) H3
        have FR74 := frm_t FR4 (frm_m (S' := (fun a k => a = y ∧ 8 ≤ k ∧ k ≤ 11)) f71 (fun a k q => by omega))
        refine e_goto 0 dX6_advance_49 rfl ?_
        exact ih1 _ (by omega) (a + 1) h69 rfl k72 H73 FR74 (by omega) (rI_eq e70 ⟨by omega, by omega⟩) (I3.trans (ts_y (by omega) (by omega)))
      · skip
        refine e_aload_n dX6_advance_25 rfl ?_
        refine e_get (.ref (y + 25)) dX6_advance_26 tf_6_39 (congrArg Prod.fst (rd_s0 k2)) (congrArg va_rf (rd_r0_5 k2)) ?_
        refine e_aload_n dX6_advance_29 rfl ?_
        refine z_get a dX6_advance_30 tf_6_50 (congrArg Prod.fst (rd_s0 k2)) (Or.inl rfl) I2 ?_
        refine z_bld (T a) dX6_advance_33 (rd_s25 k2) (by decide) (by omega) (by omega) (H3.2.2.1 a (by omega) (by omega)) ?_
        have y75 := H3.2.2.2 a (by omega) (by omega)
        refine z_bipush (32) dX6_advance_34 rfl ?_
        refine z_icmp_ne 52 dX6_advance_36 rfl ⟨by omega, by omega⟩ ⟨by omega, by omega⟩ (fun c76 => ?_) (fun c76 => ?_)
        · skip
          have ES : tkS T L p = a := I3.trans (ts_n (by omega))
          refine e_aload_n dX6_advance_52 rfl ?_
          refine e_aload_n dX6_advance_53 rfl ?_
          refine z_get a dX6_advance_54 tf_6_50 (congrArg Prod.fst (rd_s0 k2)) (Or.inl rfl) I2 ?_
          refine z_put dX6_advance_57 tf_6_56 (congrArg Prod.fst (rd_s0 k2)) rfl (Or.inl rfl) (fun h77 e78 => ?_)
          have f79 := frm_1 e78
          have k80 := lk_q (frm_s f79) k2
          have H81 := rdT_c f79 (fun a k q => by omega) H3
          have FR82 := frm_t FR4 (frm_m (S' := (fun a k => a = y ∧ 8 ≤ k ∧ k ≤ 11)) f79 (fun a k q => by omega))
          have z83 : rI h77 y 10 = a := (rI_eq e78 ⟨by omega, by omega⟩)
          have z83b : rI h77 y 8 = a := ((frm_r f79 (by omega))).trans I2
          refine e_aload_n dX6_advance_60 rfl ?_
          refine z_get a dX6_advance_61 tf_6_50 (congrArg Prod.fst (rd_s0 k80)) (Or.inl rfl) z83b ?_
          refine e_aload_n dX6_advance_64 rfl ?_
          refine z_get L dX6_advance_65 tf_6_47 (congrArg Prod.fst (rd_s0 k80)) (Or.inl rfl) H81.2.1 ?_
          have y84 := H81.1
          refine z_icmp_lt 79 dX6_advance_68 rfl ⟨by omega, by omega⟩ ⟨by omega, by omega⟩ (fun c85 => ?_) (fun c85 => ?_)
          · skip
            refine e_aload_n dX6_advance_79 rfl ?_
            refine e_get (.ref (y + 25)) dX6_advance_80 tf_6_39 (congrArg Prod.fst (rd_s0 k80)) (congrArg va_rf (rd_r0_5 k80)) ?_
            refine e_aload_n dX6_advance_83 rfl ?_
            refine z_get a dX6_advance_84 tf_6_50 (congrArg Prod.fst (rd_s0 k80)) (Or.inl rfl) z83b ?_
            refine z_bld (T a) dX6_advance_87 (rd_s25 k80) (by decide) (by omega) (by omega) (H81.2.2.1 a (by omega) (by omega)) ?_
            have y86 := H81.2.2.2 a (by omega) (by omega)
            refine e_callS [.int _] dX6_advance_88 tm_6_233 rfl (Nat.le_of_ble_eq_true rfl) (Nat.le_refl _) (Nat.le_refl _) rfl (zp_X6_isLetter (T a) ⟨by omega, by omega⟩ ?_)
            refine z_ifb_eq 101 dX6_advance_91 rfl (fun c87 => ?_) (fun c87 => ?_)
            · skip
              refine e_aload_n dX6_advance_101 rfl ?_
              refine e_get (.ref (y + 25)) dX6_advance_102 tf_6_39 (congrArg Prod.fst (rd_s0 k80)) (congrArg va_rf (rd_r0_5 k80)) ?_
              refine e_aload_n dX6_advance_105 rfl ?_
              refine z_get a dX6_advance_106 tf_6_50 (congrArg Prod.fst (rd_s0 k80)) (Or.inl rfl) z83b ?_
              refine z_bld (T a) dX6_advance_109 (rd_s25 k80) (by decide) (by omega) (by omega) (H81.2.2.1 a (by omega) (by omega)) ?_
              have y88 := H81.2.2.2 a (by omega) (by omega)
              refine e_callS [.int _] dX6_advance_110 tm_6_239 rfl (Nat.le_of_ble_eq_true rfl) (Nat.le_refl _) (Nat.le_refl _) rfl (zp_X6_isDigit (T a) ⟨by omega, by omega⟩ ?_)
              refine z_ifb_eq 123 dX6_advance_113 rfl (fun c89 => ?_) (fun c89 => ?_)
              · skip
                refine e_aload_n dX6_advance_123 rfl ?_
                refine e_aload_n dX6_advance_124 rfl ?_
                refine e_get (.ref (y + 25)) dX6_advance_125 tf_6_39 (congrArg Prod.fst (rd_s0 k80)) (congrArg va_rf (rd_r0_5 k80)) ?_
                refine e_aload_n dX6_advance_128 rfl ?_
                refine z_get a dX6_advance_129 tf_6_50 (congrArg Prod.fst (rd_s0 k80)) (Or.inl rfl) z83b ?_
                refine z_bld (T a) dX6_advance_132 (rd_s25 k80) (by decide) (by omega) (by omega) (H81.2.2.1 a (by omega) (by omega)) ?_
                have y90 := H81.2.2.2 a (by omega) (by omega)
                refine z_bipush (59) dX6_advance_133 rfl ?_
                refine z_icmp_ne 142 dX6_advance_135 rfl ⟨by omega, by omega⟩ ⟨by omega, by omega⟩ (fun c91 => ?_) (fun c91 => ?_)
                · skip
                  refine z_iconst (4) dX6_advance_142 rfl ?_
                  refine z_put dX6_advance_143 tf_6_53 (congrArg Prod.fst (rd_s0 k80)) rfl (Or.inl rfl) (fun h92 e93 => ?_)
                  have f94 := frm_1 e93
                  have k95 := lk_q (frm_s f94) k80
                  have H96 := rdT_c f94 (fun a k q => by omega) H81
                  have FR97 := frm_t FR82 (frm_m (S' := (fun a k => a = y ∧ 8 ≤ k ∧ k ≤ 11)) f94 (fun a k q => by omega))
                  refine e_aload_n dX6_advance_146 rfl ?_
                  refine e_dup dX6_advance_147 rfl ?_
                  refine z_get a dX6_advance_148 tf_6_50 (congrArg Prod.fst (rd_s0 k95)) (Or.inl rfl) (((frm_r f94 (by omega))).trans z83b) ?_
                  refine z_iconst (1) dX6_advance_151 rfl ?_
                  refine z_iadd dX6_advance_152 ?_
                  refine z_put dX6_advance_153 tf_6_50 (congrArg Prod.fst (rd_s0 k95)) rfl (Or.inl rfl) (fun h98 e99 => ?_)
                  have f100 := frm_1 e99
                  have k101 := lk_q (frm_s f100) k95
                  have H102 := rdT_c f100 (fun a k q => by omega) H96
                  have FR103 := frm_t FR97 (frm_m (S' := (fun a k => a = y ∧ 8 ≤ k ∧ k ≤ 11)) f100 (fun a k q => by omega))
                  refine e_vret dX6_advance_156 rfl ⟨rfl, ?_⟩
                  exact kq _ FR103 (rdP_2 pp ES (by omega) (by omega) (by omega) (rI_eq e99 ⟨by omega, by omega⟩) (by first | exact Or.inl ⟨((frm_r f100 (by omega)).trans (rI_eq e93 ⟨by omega, by omega⟩)), by omega⟩ | exact Or.inr ⟨((frm_r f100 (by omega)).trans (rI_eq e93 ⟨by omega, by omega⟩)), by omega⟩) ((((frm_r f100 (by omega)).trans (frm_r f94 (by omega)))).trans z83))
                · skip
                  refine z_iconst (2) dX6_advance_138 rfl ?_
                  refine e_goto 143 dX6_advance_139 rfl ?_
                  refine z_put dX6_advance_143 tf_6_53 (congrArg Prod.fst (rd_s0 k80)) rfl (Or.inl rfl) (fun h104 e105 => ?_)
                  have f106 := frm_1 e105
                  have k107 := lk_q (frm_s f106) k80
                  have H108 := rdT_c f106 (fun a k q => by omega) H81
                  have FR109 := frm_t FR82 (frm_m (S' := (fun a k => a = y ∧ 8 ≤ k ∧ k ≤ 11)) f106 (fun a k q => by omega))
                  refine e_aload_n dX6_advance_146 rfl ?_
                  refine e_dup dX6_advance_147 rfl ?_
                  refine z_get a dX6_advance_148 tf_6_50 (congrArg Prod.fst (rd_s0 k107)) (Or.inl rfl) (((frm_r f106 (by omega))).trans z83b) ?_
                  refine z_iconst (1) dX6_advance_151 rfl ?_
                  refine z_iadd dX6_advance_152 ?_
                  refine z_put dX6_advance_153 tf_6_50 (congrArg Prod.fst (rd_s0 k107)) rfl (Or.inl rfl) (fun h110 e111 => ?_)
                  have f112 := frm_1 e111
                  have k113 := lk_q (frm_s f112) k107
                  have H114 := rdT_c f112 (fun a k q => by omega) H108
                  have FR115 := frm_t FR109 (frm_m (S' := (fun a k => a = y ∧ 8 ≤ k ∧ k ≤ 11)) f112 (fun a k q => by omega))
                  refine e_vret dX6_advance_156 rfl ⟨rfl, ?_⟩
                  exact kq _ FR115 (rdP_2 pp ES (by omega) (by omega) (by omega) (rI_eq e111 ⟨by omega, by omega⟩) (by first | exact Or.inl ⟨((frm_r f112 (by omega)).trans (rI_eq e105 ⟨by omega, by omega⟩)), by omega⟩ | exact Or.inr ⟨((frm_r f112 (by omega)).trans (rI_eq e105 ⟨by omega, by omega⟩)), by omega⟩) ((((frm_r f112 (by omega)).trans (frm_r f106 (by omega)))).trans z83))
              · skip
                refine e_aload_n dX6_advance_116 rfl ?_
                have PA := z83b
                have PB := z83
                refine e_callV [] dX6_advance_117 tm_6_242 rfl (Nat.le_of_ble_eq_true rfl) (congrArg Prod.fst (rd_s0 k80)) (Nat.le_of_ble_eq_true rfl) (Nat.le_refl _) (Nat.le_refl _) rfl (zp_X6_takeDigits k80 H81 a PA PB (by omega) (by omega) (fun  h116 f117 p118 p119 p120 => ?_))
                have k121 := lk_q (frm_s f117) k80
                have H122 := rdT_c f117 (fun a k q => by omega) H81
                have FR123 := frm_t FR82 (frm_m (S' := (fun a k => a = y ∧ 8 ≤ k ∧ k ≤ 11)) f117 (fun a k q => by omega))
                skip
                refine e_goto 156 dX6_advance_120 rfl ?_
                refine e_vret dX6_advance_156 rfl ⟨rfl, ?_⟩
                exact kq _ FR123 (rdP_1 pp ES (by omega) (by omega) p118 p119 (((frm_r f117 (by omega))).trans z83) p120)
            · skip
              refine e_aload_n dX6_advance_94 rfl ?_
              have PA := z83b
              refine e_callV [] dX6_advance_95 tm_6_236 rfl (Nat.le_of_ble_eq_true rfl) (congrArg Prod.fst (rd_s0 k80)) (Nat.le_of_ble_eq_true rfl) (Nat.le_refl _) (Nat.le_refl _) rfl (zp_X6_takeLetters k80 H81 a PA (by omega) (fun  h124 f125 p126 p127 => ?_))
              have k128 := lk_q (frm_s f125) k80
              have H129 := rdT_c f125 (fun a k q => by omega) H81
              have FR130 := frm_t FR82 (frm_m (S' := (fun a k => a = y ∧ 8 ≤ k ∧ k ≤ 11)) f125 (fun a k q => by omega))
              skip
              refine e_goto 156 dX6_advance_98 rfl ?_
              refine e_vret dX6_advance_156 rfl ⟨rfl, ?_⟩
              exact kq _ FR130 (rdP_0 pp ES (by omega) (by omega) p126 p127 (((frm_r f125 (by omega))).trans z83))
          · skip
            refine e_aload_n dX6_advance_71 rfl ?_
            refine z_iconst (3) dX6_advance_72 rfl ?_
            refine z_put dX6_advance_73 tf_6_53 (congrArg Prod.fst (rd_s0 k80)) rfl (Or.inl rfl) (fun h131 e132 => ?_)
            have f133 := frm_1 e132
            have k134 := lk_q (frm_s f133) k80
            have H135 := rdT_c f133 (fun a k q => by omega) H81
            have FR136 := frm_t FR82 (frm_m (S' := (fun a k => a = y ∧ 8 ≤ k ∧ k ≤ 11)) f133 (fun a k q => by omega))
            refine e_goto 156 dX6_advance_76 rfl ?_
            refine e_vret dX6_advance_156 rfl ⟨rfl, ?_⟩
            exact kq _ FR136 (rdP_3 pp ES (by omega) (((frm_r f133 (by omega))).trans z83b) (rI_eq e132 ⟨by omega, by omega⟩) (((frm_r f133 (by omega))).trans z83))
        · skip
          refine e_aload_n dX6_advance_39 rfl ?_
          refine e_dup dX6_advance_40 rfl ?_
          refine z_get a dX6_advance_41 tf_6_50 (congrArg Prod.fst (rd_s0 k2)) (Or.inl rfl) I2 ?_
          refine z_iconst (1) dX6_advance_44 rfl ?_
          refine z_iadd dX6_advance_45 ?_
          refine z_put dX6_advance_46 tf_6_50 (congrArg Prod.fst (rd_s0 k2)) rfl (Or.inl rfl) (fun h137 e138 => ?_)
          have f139 := frm_1 e138
          have k140 := lk_q (frm_s f139) k2
          have H141 := rdT_c f139 (fun a k q => by omega) H3
          have FR142 := frm_t FR4 (frm_m (S' := (fun a k => a = y ∧ 8 ≤ k ∧ k ≤ 11)) f139 (fun a k q => by omega))
          refine e_goto 0 dX6_advance_49 rfl ?_
          exact ih1 _ (by omega) (a + 1) h137 rfl k140 H141 FR142 (by omega) (rI_eq e138 ⟨by omega, by omega⟩) (I3.trans (ts_y (by omega) (by omega)))
  exact lp1 _ p h rfl hk HT FR0 (by omega) pa rfl
set_option maxHeartbeats 1000000 in
theorem zp_X6_isWord_down {ad : mA} {dd : Nat} {h : mH} {Q : mQ} {y : Nat} {T : Int → Int} {L p : Int} (hk : rdk h y) (HT : rdT h y T L) (HP : rdP h y T L p) (HA : adK ad)   (kq : Q (some (.int (zI (bZ (tkW T L p = 1685026670))))) h) : mCal TB0 ad (dd + 6) M_X6_isWord [.ref y, .ref (ad.1 5)] h 0 0 Q := by
  refine ⟨Nat.le_of_ble_eq_true rfl, ?_⟩
  show mEv TB0 ad M_X6_isWord (dd + 6) (0, 0) (mCal TB0 ad (dd + 5)) (fun v h' z => z.1 = 0 ∧ Q v h') 0 [some (.ref y), some (.ref (ad.1 5)), none] [] h (0, 0)
  have w1 := HT.1
  have w2 := tk_b (T := T) HP.1.1 HP.1.2
  have z0 : T (tkS T L p + 0) = T (tkS T L p) := by rw [Int.add_zero]
  refine e_aload_n dX6_isWord_0 rfl ?_
  refine z_get (tkK T L p) dX6_isWord_1 tf_6_53 (congrArg Prod.fst (rd_s0 hk)) (Or.inl rfl) HP.2.2.1 ?_
  have y1 := tk_b (T := T) HP.1.1 HP.1.2
  have y2 := HP.1
  refine z_if_ne 23 dX6_isWord_4 rfl ⟨by omega, by omega⟩ (fun c3 => ?_) (fun c3 => ?_)
  · skip
    refine z_iconst (0) dX6_isWord_23 rfl ?_
    refine z_bret dX6_isWord_24 rfl (Or.inl rfl) ⟨rfl, ?_⟩
    refine z_q0 kq ?_
    first | (have q := tw_0 (T := T) (L := L) (p := p) (by omega); omega) | (have q := tw_down (T := T) (L := L) (p := p) (by omega); omega)
  · skip
    refine e_aload_n dX6_isWord_7 rfl ?_
    refine z_get (tkE T L p) dX6_isWord_8 tf_6_50 (congrArg Prod.fst (rd_s0 hk)) (Or.inl rfl) HP.2.1 ?_
    have y4 := tk_b (T := T) HP.1.1 HP.1.2
    have y5 := HP.1
    refine e_aload_n dX6_isWord_11 rfl ?_
    refine z_get (tkS T L p) dX6_isWord_12 tf_6_56 (congrArg Prod.fst (rd_s0 hk)) (Or.inl rfl) HP.2.2.2.1 ?_
    have y6 := tk_b (T := T) HP.1.1 HP.1.2
    have y7 := HP.1
    refine z_isub dX6_isWord_15 ?_
    refine e_aload_n dX6_isWord_16 rfl ?_
    refine z_slen 4 dX6_isWord_17 tm_6_245 (Nat.le_of_ble_eq_true rfl) (by decide) (HA 5 (by decide)).1 (by omega) (by decide) ?_
    refine z_icmp_eq 25 dX6_isWord_20 rfl ⟨by omega, by omega⟩ ⟨by omega, by omega⟩ (fun c8 => ?_) (fun c8 => ?_)
    · skip
      refine z_iconst (0) dX6_isWord_25 rfl ?_
      refine e_istore_n (L' := [_, _, _]) dX6_isWord_26 (Nat.le_of_ble_eq_true rfl) rfl ?_
      refine e_iload_n dX6_isWord_27 rfl ?_
      refine e_aload_n dX6_isWord_28 rfl ?_
      refine z_slen 4 dX6_isWord_29 tm_6_245 (Nat.le_of_ble_eq_true rfl) (by decide) (HA 5 (by decide)).1 (by omega) (by decide) ?_
      refine z_icmp_ge 62 dX6_isWord_32 rfl ⟨by omega, by omega⟩ ⟨by omega, by omega⟩ (fun c9 => ?_) (fun c9 => ?_)
      · exfalso; omega
      · skip
        refine e_aload_n dX6_isWord_35 rfl ?_
        refine e_get (.ref (y + 25)) dX6_isWord_36 tf_6_39 (congrArg Prod.fst (rd_s0 hk)) (congrArg va_rf (rd_r0_5 hk)) ?_
        refine e_aload_n dX6_isWord_39 rfl ?_
        refine z_get (tkS T L p) dX6_isWord_40 tf_6_56 (congrArg Prod.fst (rd_s0 hk)) (Or.inl rfl) HP.2.2.2.1 ?_
        have y10 := tk_b (T := T) HP.1.1 HP.1.2
        have y11 := HP.1
        refine e_iload_n dX6_isWord_43 rfl ?_
        refine z_iadd dX6_isWord_44 ?_
        refine z_bld (T ((tkS T L p) + 0)) dX6_isWord_45 (rd_s25 hk) (by decide) (by omega) (by omega) (HT.2.2.1 ((tkS T L p) + 0) (by omega) (by omega)) ?_
        have y12 := HT.2.2.2 ((tkS T L p) + 0) (by omega) (by omega)
        refine e_aload_n dX6_isWord_46 rfl ?_
        refine e_iload_n dX6_isWord_47 rfl ?_
        refine z_sat 100 dX6_isWord_48 tm_6_249 (Nat.le_of_ble_eq_true rfl) (by decide) (HA 5 (by decide)).1 (by decide) (by decide) (by decide) (by rw [(HA 5 (by decide)).2]; decide) (by omega) ?_
        refine z_icmp_eq 56 dX6_isWord_51 rfl ⟨by omega, by omega⟩ ⟨by omega, by omega⟩ (fun c13 => ?_) (fun c13 => ?_)
        · skip
          refine z_iinc (L' := [_, _, _]) dX6_isWord_56 rfl rfl ?_
          refine e_goto 27 dX6_isWord_59 rfl ?_
          refine e_iload_n dX6_isWord_27 rfl ?_
          refine e_aload_n dX6_isWord_28 rfl ?_
          refine z_slen 4 dX6_isWord_29 tm_6_245 (Nat.le_of_ble_eq_true rfl) (by decide) (HA 5 (by decide)).1 (by omega) (by decide) ?_
          refine z_icmp_ge 62 dX6_isWord_32 rfl ⟨by omega, by omega⟩ ⟨by omega, by omega⟩ (fun c14 => ?_) (fun c14 => ?_)
          · exfalso; omega
          · skip
            refine e_aload_n dX6_isWord_35 rfl ?_
            refine e_get (.ref (y + 25)) dX6_isWord_36 tf_6_39 (congrArg Prod.fst (rd_s0 hk)) (congrArg va_rf (rd_r0_5 hk)) ?_
            refine e_aload_n dX6_isWord_39 rfl ?_
            refine z_get (tkS T L p) dX6_isWord_40 tf_6_56 (congrArg Prod.fst (rd_s0 hk)) (Or.inl rfl) HP.2.2.2.1 ?_
            have y15 := tk_b (T := T) HP.1.1 HP.1.2
            have y16 := HP.1
            refine e_iload_n dX6_isWord_43 rfl ?_
            refine z_iadd dX6_isWord_44 ?_
            refine z_bld (T ((tkS T L p) + 1)) dX6_isWord_45 (rd_s25 hk) (by decide) (by omega) (by omega) (HT.2.2.1 ((tkS T L p) + 1) (by omega) (by omega)) ?_
            have y17 := HT.2.2.2 ((tkS T L p) + 1) (by omega) (by omega)
            refine e_aload_n dX6_isWord_46 rfl ?_
            refine e_iload_n dX6_isWord_47 rfl ?_
            refine z_sat 111 dX6_isWord_48 tm_6_249 (Nat.le_of_ble_eq_true rfl) (by decide) (HA 5 (by decide)).1 (by decide) (by decide) (by decide) (by rw [(HA 5 (by decide)).2]; decide) (by omega) ?_
            refine z_icmp_eq 56 dX6_isWord_51 rfl ⟨by omega, by omega⟩ ⟨by omega, by omega⟩ (fun c18 => ?_) (fun c18 => ?_)
            · skip
              refine z_iinc (L' := [_, _, _]) dX6_isWord_56 rfl rfl ?_
              refine e_goto 27 dX6_isWord_59 rfl ?_
              refine e_iload_n dX6_isWord_27 rfl ?_
              refine e_aload_n dX6_isWord_28 rfl ?_
              refine z_slen 4 dX6_isWord_29 tm_6_245 (Nat.le_of_ble_eq_true rfl) (by decide) (HA 5 (by decide)).1 (by omega) (by decide) ?_
              refine z_icmp_ge 62 dX6_isWord_32 rfl ⟨by omega, by omega⟩ ⟨by omega, by omega⟩ (fun c19 => ?_) (fun c19 => ?_)
              · exfalso; omega
              · skip
                refine e_aload_n dX6_isWord_35 rfl ?_
                refine e_get (.ref (y + 25)) dX6_isWord_36 tf_6_39 (congrArg Prod.fst (rd_s0 hk)) (congrArg va_rf (rd_r0_5 hk)) ?_
                refine e_aload_n dX6_isWord_39 rfl ?_
                refine z_get (tkS T L p) dX6_isWord_40 tf_6_56 (congrArg Prod.fst (rd_s0 hk)) (Or.inl rfl) HP.2.2.2.1 ?_
                have y20 := tk_b (T := T) HP.1.1 HP.1.2
                have y21 := HP.1
                refine e_iload_n dX6_isWord_43 rfl ?_
                refine z_iadd dX6_isWord_44 ?_
                refine z_bld (T ((tkS T L p) + 2)) dX6_isWord_45 (rd_s25 hk) (by decide) (by omega) (by omega) (HT.2.2.1 ((tkS T L p) + 2) (by omega) (by omega)) ?_
                have y22 := HT.2.2.2 ((tkS T L p) + 2) (by omega) (by omega)
                refine e_aload_n dX6_isWord_46 rfl ?_
                refine e_iload_n dX6_isWord_47 rfl ?_
                refine z_sat 119 dX6_isWord_48 tm_6_249 (Nat.le_of_ble_eq_true rfl) (by decide) (HA 5 (by decide)).1 (by decide) (by decide) (by decide) (by rw [(HA 5 (by decide)).2]; decide) (by omega) ?_
                refine z_icmp_eq 56 dX6_isWord_51 rfl ⟨by omega, by omega⟩ ⟨by omega, by omega⟩ (fun c23 => ?_) (fun c23 => ?_)
                · skip
                  refine z_iinc (L' := [_, _, _]) dX6_isWord_56 rfl rfl ?_
                  refine e_goto 27 dX6_isWord_59 rfl ?_
                  refine e_iload_n dX6_isWord_27 rfl ?_
                  refine e_aload_n dX6_isWord_28 rfl ?_
                  refine z_slen 4 dX6_isWord_29 tm_6_245 (Nat.le_of_ble_eq_true rfl) (by decide) (HA 5 (by decide)).1 (by omega) (by decide) ?_
                  refine z_icmp_ge 62 dX6_isWord_32 rfl ⟨by omega, by omega⟩ ⟨by omega, by omega⟩ (fun c24 => ?_) (fun c24 => ?_)
                  · exfalso; omega
                  · skip
                    refine e_aload_n dX6_isWord_35 rfl ?_
                    refine e_get (.ref (y + 25)) dX6_isWord_36 tf_6_39 (congrArg Prod.fst (rd_s0 hk)) (congrArg va_rf (rd_r0_5 hk)) ?_
                    refine e_aload_n dX6_isWord_39 rfl ?_
                    refine z_get (tkS T L p) dX6_isWord_40 tf_6_56 (congrArg Prod.fst (rd_s0 hk)) (Or.inl rfl) HP.2.2.2.1 ?_
                    have y25 := tk_b (T := T) HP.1.1 HP.1.2
                    have y26 := HP.1
                    refine e_iload_n dX6_isWord_43 rfl ?_
                    refine z_iadd dX6_isWord_44 ?_
                    refine z_bld (T ((tkS T L p) + 3)) dX6_isWord_45 (rd_s25 hk) (by decide) (by omega) (by omega) (HT.2.2.1 ((tkS T L p) + 3) (by omega) (by omega)) ?_
                    have y27 := HT.2.2.2 ((tkS T L p) + 3) (by omega) (by omega)
                    refine e_aload_n dX6_isWord_46 rfl ?_
                    refine e_iload_n dX6_isWord_47 rfl ?_
                    refine z_sat 110 dX6_isWord_48 tm_6_249 (Nat.le_of_ble_eq_true rfl) (by decide) (HA 5 (by decide)).1 (by decide) (by decide) (by decide) (by rw [(HA 5 (by decide)).2]; decide) (by omega) ?_
                    refine z_icmp_eq 56 dX6_isWord_51 rfl ⟨by omega, by omega⟩ ⟨by omega, by omega⟩ (fun c28 => ?_) (fun c28 => ?_)
                    · skip
                      refine z_iinc (L' := [_, _, _]) dX6_isWord_56 rfl rfl ?_
                      refine e_goto 27 dX6_isWord_59 rfl ?_
                      refine e_iload_n dX6_isWord_27 rfl ?_
                      refine e_aload_n dX6_isWord_28 rfl ?_
                      refine z_slen 4 dX6_isWord_29 tm_6_245 (Nat.le_of_ble_eq_true rfl) (by decide) (HA 5 (by decide)).1 (by omega) (by decide) ?_
                      refine z_icmp_ge 62 dX6_isWord_32 rfl ⟨by omega, by omega⟩ ⟨by omega, by omega⟩ (fun c29 => ?_) (fun c29 => ?_)
                      · skip
                        refine z_iconst (1) dX6_isWord_62 rfl ?_
                        refine z_bret dX6_isWord_63 rfl (Or.inr rfl) ⟨rfl, ?_⟩
                        refine z_q1 kq ?_
                        first | (have q := tw_0 (T := T) (L := L) (p := p) (by omega); omega) | (have q := tw_down (T := T) (L := L) (p := p) (by omega); omega)
                      · exfalso; omega
                    · skip
                      refine z_iconst (0) dX6_isWord_54 rfl ?_
                      refine z_bret dX6_isWord_55 rfl (Or.inl rfl) ⟨rfl, ?_⟩
                      refine z_q0 kq ?_
                      first | (have q := tw_0 (T := T) (L := L) (p := p) (by omega); omega) | (have q := tw_down (T := T) (L := L) (p := p) (by omega); omega)
                · skip
                  refine z_iconst (0) dX6_isWord_54 rfl ?_
                  refine z_bret dX6_isWord_55 rfl (Or.inl rfl) ⟨rfl, ?_⟩
                  refine z_q0 kq ?_
                  first | (have q := tw_0 (T := T) (L := L) (p := p) (by omega); omega) | (have q := tw_down (T := T) (L := L) (p := p) (by omega); omega)
            · skip
              refine z_iconst (0) dX6_isWord_54 rfl ?_
              refine z_bret dX6_isWord_55 rfl (Or.inl rfl) ⟨rfl, ?_⟩
              refine z_q0 kq ?_
              first | (have q := tw_0 (T := T) (L := L) (p := p) (by omega); omega) | (have q := tw_down (T := T) (L := L) (p := p) (by omega); omega)
        · skip
          refine z_iconst (0) dX6_isWord_54 rfl ?_
          refine z_bret dX6_isWord_55 rfl (Or.inl rfl) ⟨rfl, ?_⟩
          refine z_q0 kq ?_
          first | (have q := tw_0 (T := T) (L := L) (p := p) (by omega); omega) | (have q := tw_down (T := T) (L := L) (p := p) (by omega); omega)
    · skip
      refine z_iconst (0) dX6_isWord_23 rfl ?_
      refine z_bret dX6_isWord_24 rfl (Or.inl rfl) ⟨rfl, ?_⟩
      refine z_q0 kq ?_
      first | (have q := tw_0 (T := T) (L := L) (p := p) (by omega); omega) | (have q := tw_down (T := T) (L := L) (p := p) (by omega); omega)
set_option maxHeartbeats 1000000 in
theorem zp_X6_isWord_up {ad : mA} {dd : Nat} {h : mH} {Q : mQ} {y : Nat} {T : Int → Int} {L p : Int} (hk : rdk h y) (HT : rdT h y T L) (HP : rdP h y T L p) (HA : adK ad)   (kq : Q (some (.int (zI (bZ (tkW T L p = 30064))))) h) : mCal TB0 ad (dd + 6) M_X6_isWord [.ref y, .ref (ad.1 6)] h 0 0 Q := by
  refine ⟨Nat.le_of_ble_eq_true rfl, ?_⟩
  show mEv TB0 ad M_X6_isWord (dd + 6) (0, 0) (mCal TB0 ad (dd + 5)) (fun v h' z => z.1 = 0 ∧ Q v h') 0 [some (.ref y), some (.ref (ad.1 6)), none] [] h (0, 0)
  have w1 := HT.1
  have w2 := tk_b (T := T) HP.1.1 HP.1.2
  have z0 : T (tkS T L p + 0) = T (tkS T L p) := by rw [Int.add_zero]
  refine e_aload_n dX6_isWord_0 rfl ?_
  refine z_get (tkK T L p) dX6_isWord_1 tf_6_53 (congrArg Prod.fst (rd_s0 hk)) (Or.inl rfl) HP.2.2.1 ?_
  have y1 := tk_b (T := T) HP.1.1 HP.1.2
  have y2 := HP.1
  refine z_if_ne 23 dX6_isWord_4 rfl ⟨by omega, by omega⟩ (fun c3 => ?_) (fun c3 => ?_)
  · skip
    refine z_iconst (0) dX6_isWord_23 rfl ?_
    refine z_bret dX6_isWord_24 rfl (Or.inl rfl) ⟨rfl, ?_⟩
    refine z_q0 kq ?_
    first | (have q := tw_0 (T := T) (L := L) (p := p) (by omega); omega) | (have q := tw_up (T := T) (L := L) (p := p) (by omega); omega)
  · skip
    refine e_aload_n dX6_isWord_7 rfl ?_
    refine z_get (tkE T L p) dX6_isWord_8 tf_6_50 (congrArg Prod.fst (rd_s0 hk)) (Or.inl rfl) HP.2.1 ?_
    have y4 := tk_b (T := T) HP.1.1 HP.1.2
    have y5 := HP.1
    refine e_aload_n dX6_isWord_11 rfl ?_
    refine z_get (tkS T L p) dX6_isWord_12 tf_6_56 (congrArg Prod.fst (rd_s0 hk)) (Or.inl rfl) HP.2.2.2.1 ?_
    have y6 := tk_b (T := T) HP.1.1 HP.1.2
    have y7 := HP.1
    refine z_isub dX6_isWord_15 ?_
    refine e_aload_n dX6_isWord_16 rfl ?_
    refine z_slen 2 dX6_isWord_17 tm_6_245 (Nat.le_of_ble_eq_true rfl) (by decide) (HA 6 (by decide)).1 (by omega) (by decide) ?_
    refine z_icmp_eq 25 dX6_isWord_20 rfl ⟨by omega, by omega⟩ ⟨by omega, by omega⟩ (fun c8 => ?_) (fun c8 => ?_)
    · skip
      refine z_iconst (0) dX6_isWord_25 rfl ?_
      refine e_istore_n (L' := [_, _, _]) dX6_isWord_26 (Nat.le_of_ble_eq_true rfl) rfl ?_
      refine e_iload_n dX6_isWord_27 rfl ?_
      refine e_aload_n dX6_isWord_28 rfl ?_
      refine z_slen 2 dX6_isWord_29 tm_6_245 (Nat.le_of_ble_eq_true rfl) (by decide) (HA 6 (by decide)).1 (by omega) (by decide) ?_
      refine z_icmp_ge 62 dX6_isWord_32 rfl ⟨by omega, by omega⟩ ⟨by omega, by omega⟩ (fun c9 => ?_) (fun c9 => ?_)
      · exfalso; omega
      · skip
        refine e_aload_n dX6_isWord_35 rfl ?_
        refine e_get (.ref (y + 25)) dX6_isWord_36 tf_6_39 (congrArg Prod.fst (rd_s0 hk)) (congrArg va_rf (rd_r0_5 hk)) ?_
        refine e_aload_n dX6_isWord_39 rfl ?_
        refine z_get (tkS T L p) dX6_isWord_40 tf_6_56 (congrArg Prod.fst (rd_s0 hk)) (Or.inl rfl) HP.2.2.2.1 ?_
        have y10 := tk_b (T := T) HP.1.1 HP.1.2
        have y11 := HP.1
        refine e_iload_n dX6_isWord_43 rfl ?_
        refine z_iadd dX6_isWord_44 ?_
        refine z_bld (T ((tkS T L p) + 0)) dX6_isWord_45 (rd_s25 hk) (by decide) (by omega) (by omega) (HT.2.2.1 ((tkS T L p) + 0) (by omega) (by omega)) ?_
        have y12 := HT.2.2.2 ((tkS T L p) + 0) (by omega) (by omega)
        refine e_aload_n dX6_isWord_46 rfl ?_
        refine e_iload_n dX6_isWord_47 rfl ?_
        refine z_sat 117 dX6_isWord_48 tm_6_249 (Nat.le_of_ble_eq_true rfl) (by decide) (HA 6 (by decide)).1 (by decide) (by decide) (by decide) (by rw [(HA 6 (by decide)).2]; decide) (by omega) ?_
        refine z_icmp_eq 56 dX6_isWord_51 rfl ⟨by omega, by omega⟩ ⟨by omega, by omega⟩ (fun c13 => ?_) (fun c13 => ?_)
        · skip
          refine z_iinc (L' := [_, _, _]) dX6_isWord_56 rfl rfl ?_
          refine e_goto 27 dX6_isWord_59 rfl ?_
          refine e_iload_n dX6_isWord_27 rfl ?_
          refine e_aload_n dX6_isWord_28 rfl ?_
          refine z_slen 2 dX6_isWord_29 tm_6_245 (Nat.le_of_ble_eq_true rfl) (by decide) (HA 6 (by decide)).1 (by omega) (by decide) ?_
          refine z_icmp_ge 62 dX6_isWord_32 rfl ⟨by omega, by omega⟩ ⟨by omega, by omega⟩ (fun c14 => ?_) (fun c14 => ?_)
          · exfalso; omega
          · skip
            refine e_aload_n dX6_isWord_35 rfl ?_
            refine e_get (.ref (y + 25)) dX6_isWord_36 tf_6_39 (congrArg Prod.fst (rd_s0 hk)) (congrArg va_rf (rd_r0_5 hk)) ?_
            refine e_aload_n dX6_isWord_39 rfl ?_
            refine z_get (tkS T L p) dX6_isWord_40 tf_6_56 (congrArg Prod.fst (rd_s0 hk)) (Or.inl rfl) HP.2.2.2.1 ?_
            have y15 := tk_b (T := T) HP.1.1 HP.1.2
            have y16 := HP.1
            refine e_iload_n dX6_isWord_43 rfl ?_
            refine z_iadd dX6_isWord_44 ?_
            refine z_bld (T ((tkS T L p) + 1)) dX6_isWord_45 (rd_s25 hk) (by decide) (by omega) (by omega) (HT.2.2.1 ((tkS T L p) + 1) (by omega) (by omega)) ?_
            have y17 := HT.2.2.2 ((tkS T L p) + 1) (by omega) (by omega)
            refine e_aload_n dX6_isWord_46 rfl ?_
            refine e_iload_n dX6_isWord_47 rfl ?_
            refine z_sat 112 dX6_isWord_48 tm_6_249 (Nat.le_of_ble_eq_true rfl) (by decide) (HA 6 (by decide)).1 (by decide) (by decide) (by decide) (by rw [(HA 6 (by decide)).2]; decide) (by omega) ?_
            refine z_icmp_eq 56 dX6_isWord_51 rfl ⟨by omega, by omega⟩ ⟨by omega, by omega⟩ (fun c18 => ?_) (fun c18 => ?_)
            · skip
              refine z_iinc (L' := [_, _, _]) dX6_isWord_56 rfl rfl ?_
              refine e_goto 27 dX6_isWord_59 rfl ?_
              refine e_iload_n dX6_isWord_27 rfl ?_
              refine e_aload_n dX6_isWord_28 rfl ?_
              refine z_slen 2 dX6_isWord_29 tm_6_245 (Nat.le_of_ble_eq_true rfl) (by decide) (HA 6 (by decide)).1 (by omega) (by decide) ?_
              refine z_icmp_ge 62 dX6_isWord_32 rfl ⟨by omega, by omega⟩ ⟨by omega, by omega⟩ (fun c19 => ?_) (fun c19 => ?_)
              · skip
                refine z_iconst (1) dX6_isWord_62 rfl ?_
                refine z_bret dX6_isWord_63 rfl (Or.inr rfl) ⟨rfl, ?_⟩
                refine z_q1 kq ?_
                first | (have q := tw_0 (T := T) (L := L) (p := p) (by omega); omega) | (have q := tw_up (T := T) (L := L) (p := p) (by omega); omega)
              · exfalso; omega
            · skip
              refine z_iconst (0) dX6_isWord_54 rfl ?_
              refine z_bret dX6_isWord_55 rfl (Or.inl rfl) ⟨rfl, ?_⟩
              refine z_q0 kq ?_
              first | (have q := tw_0 (T := T) (L := L) (p := p) (by omega); omega) | (have q := tw_up (T := T) (L := L) (p := p) (by omega); omega)
        · skip
          refine z_iconst (0) dX6_isWord_54 rfl ?_
          refine z_bret dX6_isWord_55 rfl (Or.inl rfl) ⟨rfl, ?_⟩
          refine z_q0 kq ?_
          first | (have q := tw_0 (T := T) (L := L) (p := p) (by omega); omega) | (have q := tw_up (T := T) (L := L) (p := p) (by omega); omega)
    · skip
      refine z_iconst (0) dX6_isWord_23 rfl ?_
      refine z_bret dX6_isWord_24 rfl (Or.inl rfl) ⟨rfl, ?_⟩
      refine z_q0 kq ?_
      first | (have q := tw_0 (T := T) (L := L) (p := p) (by omega); omega) | (have q := tw_up (T := T) (L := L) (p := p) (by omega); omega)
set_option maxHeartbeats 1000000 in
theorem zp_X6_isWord_cloth {ad : mA} {dd : Nat} {h : mH} {Q : mQ} {y : Nat} {T : Int → Int} {L p : Int} (hk : rdk h y) (HT : rdT h y T L) (HP : rdP h y T L p) (HA : adK ad)   (kq : Q (some (.int (zI (bZ (tkW T L p = 427021005928))))) h) : mCal TB0 ad (dd + 6) M_X6_isWord [.ref y, .ref (ad.1 7)] h 0 0 Q := by
  refine ⟨Nat.le_of_ble_eq_true rfl, ?_⟩
  show mEv TB0 ad M_X6_isWord (dd + 6) (0, 0) (mCal TB0 ad (dd + 5)) (fun v h' z => z.1 = 0 ∧ Q v h') 0 [some (.ref y), some (.ref (ad.1 7)), none] [] h (0, 0)
  have w1 := HT.1
  have w2 := tk_b (T := T) HP.1.1 HP.1.2
  have z0 : T (tkS T L p + 0) = T (tkS T L p) := by rw [Int.add_zero]
  refine e_aload_n dX6_isWord_0 rfl ?_
  refine z_get (tkK T L p) dX6_isWord_1 tf_6_53 (congrArg Prod.fst (rd_s0 hk)) (Or.inl rfl) HP.2.2.1 ?_
  have y1 := tk_b (T := T) HP.1.1 HP.1.2
  have y2 := HP.1
  refine z_if_ne 23 dX6_isWord_4 rfl ⟨by omega, by omega⟩ (fun c3 => ?_) (fun c3 => ?_)
  · skip
    refine z_iconst (0) dX6_isWord_23 rfl ?_
    refine z_bret dX6_isWord_24 rfl (Or.inl rfl) ⟨rfl, ?_⟩
    refine z_q0 kq ?_
    first | (have q := tw_0 (T := T) (L := L) (p := p) (by omega); omega) | (have q := tw_cloth (T := T) (L := L) (p := p) (by omega); omega)
  · skip
    refine e_aload_n dX6_isWord_7 rfl ?_
    refine z_get (tkE T L p) dX6_isWord_8 tf_6_50 (congrArg Prod.fst (rd_s0 hk)) (Or.inl rfl) HP.2.1 ?_
    have y4 := tk_b (T := T) HP.1.1 HP.1.2
    have y5 := HP.1
    refine e_aload_n dX6_isWord_11 rfl ?_
    refine z_get (tkS T L p) dX6_isWord_12 tf_6_56 (congrArg Prod.fst (rd_s0 hk)) (Or.inl rfl) HP.2.2.2.1 ?_
    have y6 := tk_b (T := T) HP.1.1 HP.1.2
    have y7 := HP.1
    refine z_isub dX6_isWord_15 ?_
    refine e_aload_n dX6_isWord_16 rfl ?_
    refine z_slen 5 dX6_isWord_17 tm_6_245 (Nat.le_of_ble_eq_true rfl) (by decide) (HA 7 (by decide)).1 (by omega) (by decide) ?_
    refine z_icmp_eq 25 dX6_isWord_20 rfl ⟨by omega, by omega⟩ ⟨by omega, by omega⟩ (fun c8 => ?_) (fun c8 => ?_)
    · skip
      refine z_iconst (0) dX6_isWord_25 rfl ?_
      refine e_istore_n (L' := [_, _, _]) dX6_isWord_26 (Nat.le_of_ble_eq_true rfl) rfl ?_
      refine e_iload_n dX6_isWord_27 rfl ?_
      refine e_aload_n dX6_isWord_28 rfl ?_
      refine z_slen 5 dX6_isWord_29 tm_6_245 (Nat.le_of_ble_eq_true rfl) (by decide) (HA 7 (by decide)).1 (by omega) (by decide) ?_
      refine z_icmp_ge 62 dX6_isWord_32 rfl ⟨by omega, by omega⟩ ⟨by omega, by omega⟩ (fun c9 => ?_) (fun c9 => ?_)
      · exfalso; omega
      · skip
        refine e_aload_n dX6_isWord_35 rfl ?_
        refine e_get (.ref (y + 25)) dX6_isWord_36 tf_6_39 (congrArg Prod.fst (rd_s0 hk)) (congrArg va_rf (rd_r0_5 hk)) ?_
        refine e_aload_n dX6_isWord_39 rfl ?_
        refine z_get (tkS T L p) dX6_isWord_40 tf_6_56 (congrArg Prod.fst (rd_s0 hk)) (Or.inl rfl) HP.2.2.2.1 ?_
        have y10 := tk_b (T := T) HP.1.1 HP.1.2
        have y11 := HP.1
        refine e_iload_n dX6_isWord_43 rfl ?_
        refine z_iadd dX6_isWord_44 ?_
        refine z_bld (T ((tkS T L p) + 0)) dX6_isWord_45 (rd_s25 hk) (by decide) (by omega) (by omega) (HT.2.2.1 ((tkS T L p) + 0) (by omega) (by omega)) ?_
        have y12 := HT.2.2.2 ((tkS T L p) + 0) (by omega) (by omega)
        refine e_aload_n dX6_isWord_46 rfl ?_
        refine e_iload_n dX6_isWord_47 rfl ?_
        refine z_sat 99 dX6_isWord_48 tm_6_249 (Nat.le_of_ble_eq_true rfl) (by decide) (HA 7 (by decide)).1 (by decide) (by decide) (by decide) (by rw [(HA 7 (by decide)).2]; decide) (by omega) ?_
        refine z_icmp_eq 56 dX6_isWord_51 rfl ⟨by omega, by omega⟩ ⟨by omega, by omega⟩ (fun c13 => ?_) (fun c13 => ?_)
        · skip
          refine z_iinc (L' := [_, _, _]) dX6_isWord_56 rfl rfl ?_
          refine e_goto 27 dX6_isWord_59 rfl ?_
          refine e_iload_n dX6_isWord_27 rfl ?_
          refine e_aload_n dX6_isWord_28 rfl ?_
          refine z_slen 5 dX6_isWord_29 tm_6_245 (Nat.le_of_ble_eq_true rfl) (by decide) (HA 7 (by decide)).1 (by omega) (by decide) ?_
          refine z_icmp_ge 62 dX6_isWord_32 rfl ⟨by omega, by omega⟩ ⟨by omega, by omega⟩ (fun c14 => ?_) (fun c14 => ?_)
          · exfalso; omega
          · skip
            refine e_aload_n dX6_isWord_35 rfl ?_
            refine e_get (.ref (y + 25)) dX6_isWord_36 tf_6_39 (congrArg Prod.fst (rd_s0 hk)) (congrArg va_rf (rd_r0_5 hk)) ?_
            refine e_aload_n dX6_isWord_39 rfl ?_
            refine z_get (tkS T L p) dX6_isWord_40 tf_6_56 (congrArg Prod.fst (rd_s0 hk)) (Or.inl rfl) HP.2.2.2.1 ?_
            have y15 := tk_b (T := T) HP.1.1 HP.1.2
            have y16 := HP.1
            refine e_iload_n dX6_isWord_43 rfl ?_
            refine z_iadd dX6_isWord_44 ?_
            refine z_bld (T ((tkS T L p) + 1)) dX6_isWord_45 (rd_s25 hk) (by decide) (by omega) (by omega) (HT.2.2.1 ((tkS T L p) + 1) (by omega) (by omega)) ?_
            have y17 := HT.2.2.2 ((tkS T L p) + 1) (by omega) (by omega)
            refine e_aload_n dX6_isWord_46 rfl ?_
            refine e_iload_n dX6_isWord_47 rfl ?_
            refine z_sat 108 dX6_isWord_48 tm_6_249 (Nat.le_of_ble_eq_true rfl) (by decide) (HA 7 (by decide)).1 (by decide) (by decide) (by decide) (by rw [(HA 7 (by decide)).2]; decide) (by omega) ?_
            refine z_icmp_eq 56 dX6_isWord_51 rfl ⟨by omega, by omega⟩ ⟨by omega, by omega⟩ (fun c18 => ?_) (fun c18 => ?_)
            · skip
              refine z_iinc (L' := [_, _, _]) dX6_isWord_56 rfl rfl ?_
              refine e_goto 27 dX6_isWord_59 rfl ?_
              refine e_iload_n dX6_isWord_27 rfl ?_
              refine e_aload_n dX6_isWord_28 rfl ?_
              refine z_slen 5 dX6_isWord_29 tm_6_245 (Nat.le_of_ble_eq_true rfl) (by decide) (HA 7 (by decide)).1 (by omega) (by decide) ?_
              refine z_icmp_ge 62 dX6_isWord_32 rfl ⟨by omega, by omega⟩ ⟨by omega, by omega⟩ (fun c19 => ?_) (fun c19 => ?_)
              · exfalso; omega
              · skip
                refine e_aload_n dX6_isWord_35 rfl ?_
                refine e_get (.ref (y + 25)) dX6_isWord_36 tf_6_39 (congrArg Prod.fst (rd_s0 hk)) (congrArg va_rf (rd_r0_5 hk)) ?_
                refine e_aload_n dX6_isWord_39 rfl ?_
                refine z_get (tkS T L p) dX6_isWord_40 tf_6_56 (congrArg Prod.fst (rd_s0 hk)) (Or.inl rfl) HP.2.2.2.1 ?_
                have y20 := tk_b (T := T) HP.1.1 HP.1.2
                have y21 := HP.1
                refine e_iload_n dX6_isWord_43 rfl ?_
                refine z_iadd dX6_isWord_44 ?_
                refine z_bld (T ((tkS T L p) + 2)) dX6_isWord_45 (rd_s25 hk) (by decide) (by omega) (by omega) (HT.2.2.1 ((tkS T L p) + 2) (by omega) (by omega)) ?_
                have y22 := HT.2.2.2 ((tkS T L p) + 2) (by omega) (by omega)
                refine e_aload_n dX6_isWord_46 rfl ?_
                refine e_iload_n dX6_isWord_47 rfl ?_
                refine z_sat 111 dX6_isWord_48 tm_6_249 (Nat.le_of_ble_eq_true rfl) (by decide) (HA 7 (by decide)).1 (by decide) (by decide) (by decide) (by rw [(HA 7 (by decide)).2]; decide) (by omega) ?_
                refine z_icmp_eq 56 dX6_isWord_51 rfl ⟨by omega, by omega⟩ ⟨by omega, by omega⟩ (fun c23 => ?_) (fun c23 => ?_)
                · skip
                  refine z_iinc (L' := [_, _, _]) dX6_isWord_56 rfl rfl ?_
                  refine e_goto 27 dX6_isWord_59 rfl ?_
                  refine e_iload_n dX6_isWord_27 rfl ?_
                  refine e_aload_n dX6_isWord_28 rfl ?_
                  refine z_slen 5 dX6_isWord_29 tm_6_245 (Nat.le_of_ble_eq_true rfl) (by decide) (HA 7 (by decide)).1 (by omega) (by decide) ?_
                  refine z_icmp_ge 62 dX6_isWord_32 rfl ⟨by omega, by omega⟩ ⟨by omega, by omega⟩ (fun c24 => ?_) (fun c24 => ?_)
                  · exfalso; omega
                  · skip
                    refine e_aload_n dX6_isWord_35 rfl ?_
                    refine e_get (.ref (y + 25)) dX6_isWord_36 tf_6_39 (congrArg Prod.fst (rd_s0 hk)) (congrArg va_rf (rd_r0_5 hk)) ?_
                    refine e_aload_n dX6_isWord_39 rfl ?_
                    refine z_get (tkS T L p) dX6_isWord_40 tf_6_56 (congrArg Prod.fst (rd_s0 hk)) (Or.inl rfl) HP.2.2.2.1 ?_
                    have y25 := tk_b (T := T) HP.1.1 HP.1.2
                    have y26 := HP.1
                    refine e_iload_n dX6_isWord_43 rfl ?_
                    refine z_iadd dX6_isWord_44 ?_
                    refine z_bld (T ((tkS T L p) + 3)) dX6_isWord_45 (rd_s25 hk) (by decide) (by omega) (by omega) (HT.2.2.1 ((tkS T L p) + 3) (by omega) (by omega)) ?_
                    have y27 := HT.2.2.2 ((tkS T L p) + 3) (by omega) (by omega)
                    refine e_aload_n dX6_isWord_46 rfl ?_
                    refine e_iload_n dX6_isWord_47 rfl ?_
                    refine z_sat 116 dX6_isWord_48 tm_6_249 (Nat.le_of_ble_eq_true rfl) (by decide) (HA 7 (by decide)).1 (by decide) (by decide) (by decide) (by rw [(HA 7 (by decide)).2]; decide) (by omega) ?_
                    refine z_icmp_eq 56 dX6_isWord_51 rfl ⟨by omega, by omega⟩ ⟨by omega, by omega⟩ (fun c28 => ?_) (fun c28 => ?_)
                    · skip
                      refine z_iinc (L' := [_, _, _]) dX6_isWord_56 rfl rfl ?_
                      refine e_goto 27 dX6_isWord_59 rfl ?_
                      refine e_iload_n dX6_isWord_27 rfl ?_
                      refine e_aload_n dX6_isWord_28 rfl ?_
                      refine z_slen 5 dX6_isWord_29 tm_6_245 (Nat.le_of_ble_eq_true rfl) (by decide) (HA 7 (by decide)).1 (by omega) (by decide) ?_
                      refine z_icmp_ge 62 dX6_isWord_32 rfl ⟨by omega, by omega⟩ ⟨by omega, by omega⟩ (fun c29 => ?_) (fun c29 => ?_)
                      · exfalso; omega
                      · skip
                        refine e_aload_n dX6_isWord_35 rfl ?_
                        refine e_get (.ref (y + 25)) dX6_isWord_36 tf_6_39 (congrArg Prod.fst (rd_s0 hk)) (congrArg va_rf (rd_r0_5 hk)) ?_
                        refine e_aload_n dX6_isWord_39 rfl ?_
                        refine z_get (tkS T L p) dX6_isWord_40 tf_6_56 (congrArg Prod.fst (rd_s0 hk)) (Or.inl rfl) HP.2.2.2.1 ?_
                        have y30 := tk_b (T := T) HP.1.1 HP.1.2
                        have y31 := HP.1
                        refine e_iload_n dX6_isWord_43 rfl ?_
                        refine z_iadd dX6_isWord_44 ?_
                        refine z_bld (T ((tkS T L p) + 4)) dX6_isWord_45 (rd_s25 hk) (by decide) (by omega) (by omega) (HT.2.2.1 ((tkS T L p) + 4) (by omega) (by omega)) ?_
                        have y32 := HT.2.2.2 ((tkS T L p) + 4) (by omega) (by omega)
                        refine e_aload_n dX6_isWord_46 rfl ?_
                        refine e_iload_n dX6_isWord_47 rfl ?_
                        refine z_sat 104 dX6_isWord_48 tm_6_249 (Nat.le_of_ble_eq_true rfl) (by decide) (HA 7 (by decide)).1 (by decide) (by decide) (by decide) (by rw [(HA 7 (by decide)).2]; decide) (by omega) ?_
                        refine z_icmp_eq 56 dX6_isWord_51 rfl ⟨by omega, by omega⟩ ⟨by omega, by omega⟩ (fun c33 => ?_) (fun c33 => ?_)
                        · skip
                          refine z_iinc (L' := [_, _, _]) dX6_isWord_56 rfl rfl ?_
                          refine e_goto 27 dX6_isWord_59 rfl ?_
                          refine e_iload_n dX6_isWord_27 rfl ?_
                          refine e_aload_n dX6_isWord_28 rfl ?_
                          refine z_slen 5 dX6_isWord_29 tm_6_245 (Nat.le_of_ble_eq_true rfl) (by decide) (HA 7 (by decide)).1 (by omega) (by decide) ?_
                          refine z_icmp_ge 62 dX6_isWord_32 rfl ⟨by omega, by omega⟩ ⟨by omega, by omega⟩ (fun c34 => ?_) (fun c34 => ?_)
                          · skip
                            refine z_iconst (1) dX6_isWord_62 rfl ?_
                            refine z_bret dX6_isWord_63 rfl (Or.inr rfl) ⟨rfl, ?_⟩
                            refine z_q1 kq ?_
                            first | (have q := tw_0 (T := T) (L := L) (p := p) (by omega); omega) | (have q := tw_cloth (T := T) (L := L) (p := p) (by omega); omega)
                          · exfalso; omega
                        · skip
                          refine z_iconst (0) dX6_isWord_54 rfl ?_
                          refine z_bret dX6_isWord_55 rfl (Or.inl rfl) ⟨rfl, ?_⟩
                          refine z_q0 kq ?_
                          first | (have q := tw_0 (T := T) (L := L) (p := p) (by omega); omega) | (have q := tw_cloth (T := T) (L := L) (p := p) (by omega); omega)
                    · skip
                      refine z_iconst (0) dX6_isWord_54 rfl ?_
                      refine z_bret dX6_isWord_55 rfl (Or.inl rfl) ⟨rfl, ?_⟩
                      refine z_q0 kq ?_
                      first | (have q := tw_0 (T := T) (L := L) (p := p) (by omega); omega) | (have q := tw_cloth (T := T) (L := L) (p := p) (by omega); omega)
                · skip
                  refine z_iconst (0) dX6_isWord_54 rfl ?_
                  refine z_bret dX6_isWord_55 rfl (Or.inl rfl) ⟨rfl, ?_⟩
                  refine z_q0 kq ?_
                  first | (have q := tw_0 (T := T) (L := L) (p := p) (by omega); omega) | (have q := tw_cloth (T := T) (L := L) (p := p) (by omega); omega)
            · skip
              refine z_iconst (0) dX6_isWord_54 rfl ?_
              refine z_bret dX6_isWord_55 rfl (Or.inl rfl) ⟨rfl, ?_⟩
              refine z_q0 kq ?_
              first | (have q := tw_0 (T := T) (L := L) (p := p) (by omega); omega) | (have q := tw_cloth (T := T) (L := L) (p := p) (by omega); omega)
        · skip
          refine z_iconst (0) dX6_isWord_54 rfl ?_
          refine z_bret dX6_isWord_55 rfl (Or.inl rfl) ⟨rfl, ?_⟩
          refine z_q0 kq ?_
          first | (have q := tw_0 (T := T) (L := L) (p := p) (by omega); omega) | (have q := tw_cloth (T := T) (L := L) (p := p) (by omega); omega)
    · skip
      refine z_iconst (0) dX6_isWord_23 rfl ?_
      refine z_bret dX6_isWord_24 rfl (Or.inl rfl) ⟨rfl, ?_⟩
      refine z_q0 kq ?_
      first | (have q := tw_0 (T := T) (L := L) (p := p) (by omega); omega) | (have q := tw_cloth (T := T) (L := L) (p := p) (by omega); omega)
set_option maxHeartbeats 1000000 in
theorem zp_X6_isWord_rivet {ad : mA} {dd : Nat} {h : mH} {Q : mQ} {y : Nat} {T : Int → Int} {L p : Int} (hk : rdk h y) (HT : rdT h y T L) (HP : rdP h y T L p) (HA : adK ad)   (kq : Q (some (.int (zI (bZ (tkW T L p = 491395638644))))) h) : mCal TB0 ad (dd + 6) M_X6_isWord [.ref y, .ref (ad.1 8)] h 0 0 Q := by
  refine ⟨Nat.le_of_ble_eq_true rfl, ?_⟩
  show mEv TB0 ad M_X6_isWord (dd + 6) (0, 0) (mCal TB0 ad (dd + 5)) (fun v h' z => z.1 = 0 ∧ Q v h') 0 [some (.ref y), some (.ref (ad.1 8)), none] [] h (0, 0)
  have w1 := HT.1
  have w2 := tk_b (T := T) HP.1.1 HP.1.2
  have z0 : T (tkS T L p + 0) = T (tkS T L p) := by rw [Int.add_zero]
  refine e_aload_n dX6_isWord_0 rfl ?_
  refine z_get (tkK T L p) dX6_isWord_1 tf_6_53 (congrArg Prod.fst (rd_s0 hk)) (Or.inl rfl) HP.2.2.1 ?_
  have y1 := tk_b (T := T) HP.1.1 HP.1.2
  have y2 := HP.1
  refine z_if_ne 23 dX6_isWord_4 rfl ⟨by omega, by omega⟩ (fun c3 => ?_) (fun c3 => ?_)
  · skip
    refine z_iconst (0) dX6_isWord_23 rfl ?_
    refine z_bret dX6_isWord_24 rfl (Or.inl rfl) ⟨rfl, ?_⟩
    refine z_q0 kq ?_
    first | (have q := tw_0 (T := T) (L := L) (p := p) (by omega); omega) | (have q := tw_rivet (T := T) (L := L) (p := p) (by omega); omega)
  · skip
    refine e_aload_n dX6_isWord_7 rfl ?_
    refine z_get (tkE T L p) dX6_isWord_8 tf_6_50 (congrArg Prod.fst (rd_s0 hk)) (Or.inl rfl) HP.2.1 ?_
    have y4 := tk_b (T := T) HP.1.1 HP.1.2
    have y5 := HP.1
    refine e_aload_n dX6_isWord_11 rfl ?_
    refine z_get (tkS T L p) dX6_isWord_12 tf_6_56 (congrArg Prod.fst (rd_s0 hk)) (Or.inl rfl) HP.2.2.2.1 ?_
    have y6 := tk_b (T := T) HP.1.1 HP.1.2
    have y7 := HP.1
    refine z_isub dX6_isWord_15 ?_
    refine e_aload_n dX6_isWord_16 rfl ?_
    refine z_slen 5 dX6_isWord_17 tm_6_245 (Nat.le_of_ble_eq_true rfl) (by decide) (HA 8 (by decide)).1 (by omega) (by decide) ?_
    refine z_icmp_eq 25 dX6_isWord_20 rfl ⟨by omega, by omega⟩ ⟨by omega, by omega⟩ (fun c8 => ?_) (fun c8 => ?_)
    · skip
      refine z_iconst (0) dX6_isWord_25 rfl ?_
      refine e_istore_n (L' := [_, _, _]) dX6_isWord_26 (Nat.le_of_ble_eq_true rfl) rfl ?_
      refine e_iload_n dX6_isWord_27 rfl ?_
      refine e_aload_n dX6_isWord_28 rfl ?_
      refine z_slen 5 dX6_isWord_29 tm_6_245 (Nat.le_of_ble_eq_true rfl) (by decide) (HA 8 (by decide)).1 (by omega) (by decide) ?_
      refine z_icmp_ge 62 dX6_isWord_32 rfl ⟨by omega, by omega⟩ ⟨by omega, by omega⟩ (fun c9 => ?_) (fun c9 => ?_)
      · exfalso; omega
      · skip
        refine e_aload_n dX6_isWord_35 rfl ?_
        refine e_get (.ref (y + 25)) dX6_isWord_36 tf_6_39 (congrArg Prod.fst (rd_s0 hk)) (congrArg va_rf (rd_r0_5 hk)) ?_
        refine e_aload_n dX6_isWord_39 rfl ?_
        refine z_get (tkS T L p) dX6_isWord_40 tf_6_56 (congrArg Prod.fst (rd_s0 hk)) (Or.inl rfl) HP.2.2.2.1 ?_
        have y10 := tk_b (T := T) HP.1.1 HP.1.2
        have y11 := HP.1
        refine e_iload_n dX6_isWord_43 rfl ?_
        refine z_iadd dX6_isWord_44 ?_
        refine z_bld (T ((tkS T L p) + 0)) dX6_isWord_45 (rd_s25 hk) (by decide) (by omega) (by omega) (HT.2.2.1 ((tkS T L p) + 0) (by omega) (by omega)) ?_
        have y12 := HT.2.2.2 ((tkS T L p) + 0) (by omega) (by omega)
        refine e_aload_n dX6_isWord_46 rfl ?_
        refine e_iload_n dX6_isWord_47 rfl ?_
        refine z_sat 114 dX6_isWord_48 tm_6_249 (Nat.le_of_ble_eq_true rfl) (by decide) (HA 8 (by decide)).1 (by decide) (by decide) (by decide) (by rw [(HA 8 (by decide)).2]; decide) (by omega) ?_
        refine z_icmp_eq 56 dX6_isWord_51 rfl ⟨by omega, by omega⟩ ⟨by omega, by omega⟩ (fun c13 => ?_) (fun c13 => ?_)
        · skip
          refine z_iinc (L' := [_, _, _]) dX6_isWord_56 rfl rfl ?_
          refine e_goto 27 dX6_isWord_59 rfl ?_
          refine e_iload_n dX6_isWord_27 rfl ?_
          refine e_aload_n dX6_isWord_28 rfl ?_
          refine z_slen 5 dX6_isWord_29 tm_6_245 (Nat.le_of_ble_eq_true rfl) (by decide) (HA 8 (by decide)).1 (by omega) (by decide) ?_
          refine z_icmp_ge 62 dX6_isWord_32 rfl ⟨by omega, by omega⟩ ⟨by omega, by omega⟩ (fun c14 => ?_) (fun c14 => ?_)
          · exfalso; omega
          · skip
            refine e_aload_n dX6_isWord_35 rfl ?_
            refine e_get (.ref (y + 25)) dX6_isWord_36 tf_6_39 (congrArg Prod.fst (rd_s0 hk)) (congrArg va_rf (rd_r0_5 hk)) ?_
            refine e_aload_n dX6_isWord_39 rfl ?_
            refine z_get (tkS T L p) dX6_isWord_40 tf_6_56 (congrArg Prod.fst (rd_s0 hk)) (Or.inl rfl) HP.2.2.2.1 ?_
            have y15 := tk_b (T := T) HP.1.1 HP.1.2
            have y16 := HP.1
            refine e_iload_n dX6_isWord_43 rfl ?_
            refine z_iadd dX6_isWord_44 ?_
            refine z_bld (T ((tkS T L p) + 1)) dX6_isWord_45 (rd_s25 hk) (by decide) (by omega) (by omega) (HT.2.2.1 ((tkS T L p) + 1) (by omega) (by omega)) ?_
            have y17 := HT.2.2.2 ((tkS T L p) + 1) (by omega) (by omega)
            refine e_aload_n dX6_isWord_46 rfl ?_
            refine e_iload_n dX6_isWord_47 rfl ?_
            refine z_sat 105 dX6_isWord_48 tm_6_249 (Nat.le_of_ble_eq_true rfl) (by decide) (HA 8 (by decide)).1 (by decide) (by decide) (by decide) (by rw [(HA 8 (by decide)).2]; decide) (by omega) ?_
            refine z_icmp_eq 56 dX6_isWord_51 rfl ⟨by omega, by omega⟩ ⟨by omega, by omega⟩ (fun c18 => ?_) (fun c18 => ?_)
            · skip
              refine z_iinc (L' := [_, _, _]) dX6_isWord_56 rfl rfl ?_
              refine e_goto 27 dX6_isWord_59 rfl ?_
              refine e_iload_n dX6_isWord_27 rfl ?_
              refine e_aload_n dX6_isWord_28 rfl ?_
              refine z_slen 5 dX6_isWord_29 tm_6_245 (Nat.le_of_ble_eq_true rfl) (by decide) (HA 8 (by decide)).1 (by omega) (by decide) ?_
              refine z_icmp_ge 62 dX6_isWord_32 rfl ⟨by omega, by omega⟩ ⟨by omega, by omega⟩ (fun c19 => ?_) (fun c19 => ?_)
              · exfalso; omega
              · skip
                refine e_aload_n dX6_isWord_35 rfl ?_
                refine e_get (.ref (y + 25)) dX6_isWord_36 tf_6_39 (congrArg Prod.fst (rd_s0 hk)) (congrArg va_rf (rd_r0_5 hk)) ?_
                refine e_aload_n dX6_isWord_39 rfl ?_
                refine z_get (tkS T L p) dX6_isWord_40 tf_6_56 (congrArg Prod.fst (rd_s0 hk)) (Or.inl rfl) HP.2.2.2.1 ?_
                have y20 := tk_b (T := T) HP.1.1 HP.1.2
                have y21 := HP.1
                refine e_iload_n dX6_isWord_43 rfl ?_
                refine z_iadd dX6_isWord_44 ?_
                refine z_bld (T ((tkS T L p) + 2)) dX6_isWord_45 (rd_s25 hk) (by decide) (by omega) (by omega) (HT.2.2.1 ((tkS T L p) + 2) (by omega) (by omega)) ?_
                have y22 := HT.2.2.2 ((tkS T L p) + 2) (by omega) (by omega)
                refine e_aload_n dX6_isWord_46 rfl ?_
                refine e_iload_n dX6_isWord_47 rfl ?_
                refine z_sat 118 dX6_isWord_48 tm_6_249 (Nat.le_of_ble_eq_true rfl) (by decide) (HA 8 (by decide)).1 (by decide) (by decide) (by decide) (by rw [(HA 8 (by decide)).2]; decide) (by omega) ?_
                refine z_icmp_eq 56 dX6_isWord_51 rfl ⟨by omega, by omega⟩ ⟨by omega, by omega⟩ (fun c23 => ?_) (fun c23 => ?_)
                · skip
                  refine z_iinc (L' := [_, _, _]) dX6_isWord_56 rfl rfl ?_
                  refine e_goto 27 dX6_isWord_59 rfl ?_
                  refine e_iload_n dX6_isWord_27 rfl ?_
                  refine e_aload_n dX6_isWord_28 rfl ?_
                  refine z_slen 5 dX6_isWord_29 tm_6_245 (Nat.le_of_ble_eq_true rfl) (by decide) (HA 8 (by decide)).1 (by omega) (by decide) ?_
                  refine z_icmp_ge 62 dX6_isWord_32 rfl ⟨by omega, by omega⟩ ⟨by omega, by omega⟩ (fun c24 => ?_) (fun c24 => ?_)
                  · exfalso; omega
                  · skip
                    refine e_aload_n dX6_isWord_35 rfl ?_
                    refine e_get (.ref (y + 25)) dX6_isWord_36 tf_6_39 (congrArg Prod.fst (rd_s0 hk)) (congrArg va_rf (rd_r0_5 hk)) ?_
                    refine e_aload_n dX6_isWord_39 rfl ?_
                    refine z_get (tkS T L p) dX6_isWord_40 tf_6_56 (congrArg Prod.fst (rd_s0 hk)) (Or.inl rfl) HP.2.2.2.1 ?_
                    have y25 := tk_b (T := T) HP.1.1 HP.1.2
                    have y26 := HP.1
                    refine e_iload_n dX6_isWord_43 rfl ?_
                    refine z_iadd dX6_isWord_44 ?_
                    refine z_bld (T ((tkS T L p) + 3)) dX6_isWord_45 (rd_s25 hk) (by decide) (by omega) (by omega) (HT.2.2.1 ((tkS T L p) + 3) (by omega) (by omega)) ?_
                    have y27 := HT.2.2.2 ((tkS T L p) + 3) (by omega) (by omega)
                    refine e_aload_n dX6_isWord_46 rfl ?_
                    refine e_iload_n dX6_isWord_47 rfl ?_
                    refine z_sat 101 dX6_isWord_48 tm_6_249 (Nat.le_of_ble_eq_true rfl) (by decide) (HA 8 (by decide)).1 (by decide) (by decide) (by decide) (by rw [(HA 8 (by decide)).2]; decide) (by omega) ?_
                    refine z_icmp_eq 56 dX6_isWord_51 rfl ⟨by omega, by omega⟩ ⟨by omega, by omega⟩ (fun c28 => ?_) (fun c28 => ?_)
                    · skip
                      refine z_iinc (L' := [_, _, _]) dX6_isWord_56 rfl rfl ?_
                      refine e_goto 27 dX6_isWord_59 rfl ?_
                      refine e_iload_n dX6_isWord_27 rfl ?_
                      refine e_aload_n dX6_isWord_28 rfl ?_
                      refine z_slen 5 dX6_isWord_29 tm_6_245 (Nat.le_of_ble_eq_true rfl) (by decide) (HA 8 (by decide)).1 (by omega) (by decide) ?_
                      refine z_icmp_ge 62 dX6_isWord_32 rfl ⟨by omega, by omega⟩ ⟨by omega, by omega⟩ (fun c29 => ?_) (fun c29 => ?_)
                      · exfalso; omega
                      · skip
                        refine e_aload_n dX6_isWord_35 rfl ?_
                        refine e_get (.ref (y + 25)) dX6_isWord_36 tf_6_39 (congrArg Prod.fst (rd_s0 hk)) (congrArg va_rf (rd_r0_5 hk)) ?_
                        refine e_aload_n dX6_isWord_39 rfl ?_
                        refine z_get (tkS T L p) dX6_isWord_40 tf_6_56 (congrArg Prod.fst (rd_s0 hk)) (Or.inl rfl) HP.2.2.2.1 ?_
                        have y30 := tk_b (T := T) HP.1.1 HP.1.2
                        have y31 := HP.1
                        refine e_iload_n dX6_isWord_43 rfl ?_
                        refine z_iadd dX6_isWord_44 ?_
                        refine z_bld (T ((tkS T L p) + 4)) dX6_isWord_45 (rd_s25 hk) (by decide) (by omega) (by omega) (HT.2.2.1 ((tkS T L p) + 4) (by omega) (by omega)) ?_
                        have y32 := HT.2.2.2 ((tkS T L p) + 4) (by omega) (by omega)
                        refine e_aload_n dX6_isWord_46 rfl ?_
                        refine e_iload_n dX6_isWord_47 rfl ?_
                        refine z_sat 116 dX6_isWord_48 tm_6_249 (Nat.le_of_ble_eq_true rfl) (by decide) (HA 8 (by decide)).1 (by decide) (by decide) (by decide) (by rw [(HA 8 (by decide)).2]; decide) (by omega) ?_
                        refine z_icmp_eq 56 dX6_isWord_51 rfl ⟨by omega, by omega⟩ ⟨by omega, by omega⟩ (fun c33 => ?_) (fun c33 => ?_)
                        · skip
                          refine z_iinc (L' := [_, _, _]) dX6_isWord_56 rfl rfl ?_
                          refine e_goto 27 dX6_isWord_59 rfl ?_
                          refine e_iload_n dX6_isWord_27 rfl ?_
                          refine e_aload_n dX6_isWord_28 rfl ?_
                          refine z_slen 5 dX6_isWord_29 tm_6_245 (Nat.le_of_ble_eq_true rfl) (by decide) (HA 8 (by decide)).1 (by omega) (by decide) ?_
                          refine z_icmp_ge 62 dX6_isWord_32 rfl ⟨by omega, by omega⟩ ⟨by omega, by omega⟩ (fun c34 => ?_) (fun c34 => ?_)
                          · skip
                            refine z_iconst (1) dX6_isWord_62 rfl ?_
                            refine z_bret dX6_isWord_63 rfl (Or.inr rfl) ⟨rfl, ?_⟩
                            refine z_q1 kq ?_
                            first | (have q := tw_0 (T := T) (L := L) (p := p) (by omega); omega) | (have q := tw_rivet (T := T) (L := L) (p := p) (by omega); omega)
                          · exfalso; omega
                        · skip
                          refine z_iconst (0) dX6_isWord_54 rfl ?_
                          refine z_bret dX6_isWord_55 rfl (Or.inl rfl) ⟨rfl, ?_⟩
                          refine z_q0 kq ?_
                          first | (have q := tw_0 (T := T) (L := L) (p := p) (by omega); omega) | (have q := tw_rivet (T := T) (L := L) (p := p) (by omega); omega)
                    · skip
                      refine z_iconst (0) dX6_isWord_54 rfl ?_
                      refine z_bret dX6_isWord_55 rfl (Or.inl rfl) ⟨rfl, ?_⟩
                      refine z_q0 kq ?_
                      first | (have q := tw_0 (T := T) (L := L) (p := p) (by omega); omega) | (have q := tw_rivet (T := T) (L := L) (p := p) (by omega); omega)
                · skip
                  refine z_iconst (0) dX6_isWord_54 rfl ?_
                  refine z_bret dX6_isWord_55 rfl (Or.inl rfl) ⟨rfl, ?_⟩
                  refine z_q0 kq ?_
                  first | (have q := tw_0 (T := T) (L := L) (p := p) (by omega); omega) | (have q := tw_rivet (T := T) (L := L) (p := p) (by omega); omega)
            · skip
              refine z_iconst (0) dX6_isWord_54 rfl ?_
              refine z_bret dX6_isWord_55 rfl (Or.inl rfl) ⟨rfl, ?_⟩
              refine z_q0 kq ?_
              first | (have q := tw_0 (T := T) (L := L) (p := p) (by omega); omega) | (have q := tw_rivet (T := T) (L := L) (p := p) (by omega); omega)
        · skip
          refine z_iconst (0) dX6_isWord_54 rfl ?_
          refine z_bret dX6_isWord_55 rfl (Or.inl rfl) ⟨rfl, ?_⟩
          refine z_q0 kq ?_
          first | (have q := tw_0 (T := T) (L := L) (p := p) (by omega); omega) | (have q := tw_rivet (T := T) (L := L) (p := p) (by omega); omega)
    · skip
      refine z_iconst (0) dX6_isWord_23 rfl ?_
      refine z_bret dX6_isWord_24 rfl (Or.inl rfl) ⟨rfl, ?_⟩
      refine z_q0 kq ?_
      first | (have q := tw_0 (T := T) (L := L) (p := p) (by omega); omega) | (have q := tw_rivet (T := T) (L := L) (p := p) (by omega); omega)
set_option maxHeartbeats 1000000 in
theorem zp_X6_isWord_heat {ad : mA} {dd : Nat} {h : mH} {Q : mQ} {y : Nat} {T : Int → Int} {L p : Int} (hk : rdk h y) (HT : rdT h y T L) (HP : rdP h y T L p) (HA : adK ad)   (kq : Q (some (.int (zI (bZ (tkW T L p = 1751474548))))) h) : mCal TB0 ad (dd + 6) M_X6_isWord [.ref y, .ref (ad.1 9)] h 0 0 Q := by
  refine ⟨Nat.le_of_ble_eq_true rfl, ?_⟩
  show mEv TB0 ad M_X6_isWord (dd + 6) (0, 0) (mCal TB0 ad (dd + 5)) (fun v h' z => z.1 = 0 ∧ Q v h') 0 [some (.ref y), some (.ref (ad.1 9)), none] [] h (0, 0)
  have w1 := HT.1
  have w2 := tk_b (T := T) HP.1.1 HP.1.2
  have z0 : T (tkS T L p + 0) = T (tkS T L p) := by rw [Int.add_zero]
  refine e_aload_n dX6_isWord_0 rfl ?_
  refine z_get (tkK T L p) dX6_isWord_1 tf_6_53 (congrArg Prod.fst (rd_s0 hk)) (Or.inl rfl) HP.2.2.1 ?_
  have y1 := tk_b (T := T) HP.1.1 HP.1.2
  have y2 := HP.1
  refine z_if_ne 23 dX6_isWord_4 rfl ⟨by omega, by omega⟩ (fun c3 => ?_) (fun c3 => ?_)
  · skip
    refine z_iconst (0) dX6_isWord_23 rfl ?_
    refine z_bret dX6_isWord_24 rfl (Or.inl rfl) ⟨rfl, ?_⟩
    refine z_q0 kq ?_
    first | (have q := tw_0 (T := T) (L := L) (p := p) (by omega); omega) | (have q := tw_heat (T := T) (L := L) (p := p) (by omega); omega)
  · skip
    refine e_aload_n dX6_isWord_7 rfl ?_
    refine z_get (tkE T L p) dX6_isWord_8 tf_6_50 (congrArg Prod.fst (rd_s0 hk)) (Or.inl rfl) HP.2.1 ?_
    have y4 := tk_b (T := T) HP.1.1 HP.1.2
    have y5 := HP.1
    refine e_aload_n dX6_isWord_11 rfl ?_
    refine z_get (tkS T L p) dX6_isWord_12 tf_6_56 (congrArg Prod.fst (rd_s0 hk)) (Or.inl rfl) HP.2.2.2.1 ?_
    have y6 := tk_b (T := T) HP.1.1 HP.1.2
    have y7 := HP.1
    refine z_isub dX6_isWord_15 ?_
    refine e_aload_n dX6_isWord_16 rfl ?_
    refine z_slen 4 dX6_isWord_17 tm_6_245 (Nat.le_of_ble_eq_true rfl) (by decide) (HA 9 (by decide)).1 (by omega) (by decide) ?_
    refine z_icmp_eq 25 dX6_isWord_20 rfl ⟨by omega, by omega⟩ ⟨by omega, by omega⟩ (fun c8 => ?_) (fun c8 => ?_)
    · skip
      refine z_iconst (0) dX6_isWord_25 rfl ?_
      refine e_istore_n (L' := [_, _, _]) dX6_isWord_26 (Nat.le_of_ble_eq_true rfl) rfl ?_
      refine e_iload_n dX6_isWord_27 rfl ?_
      refine e_aload_n dX6_isWord_28 rfl ?_
      refine z_slen 4 dX6_isWord_29 tm_6_245 (Nat.le_of_ble_eq_true rfl) (by decide) (HA 9 (by decide)).1 (by omega) (by decide) ?_
      refine z_icmp_ge 62 dX6_isWord_32 rfl ⟨by omega, by omega⟩ ⟨by omega, by omega⟩ (fun c9 => ?_) (fun c9 => ?_)
      · exfalso; omega
      · skip
        refine e_aload_n dX6_isWord_35 rfl ?_
        refine e_get (.ref (y + 25)) dX6_isWord_36 tf_6_39 (congrArg Prod.fst (rd_s0 hk)) (congrArg va_rf (rd_r0_5 hk)) ?_
        refine e_aload_n dX6_isWord_39 rfl ?_
        refine z_get (tkS T L p) dX6_isWord_40 tf_6_56 (congrArg Prod.fst (rd_s0 hk)) (Or.inl rfl) HP.2.2.2.1 ?_
        have y10 := tk_b (T := T) HP.1.1 HP.1.2
        have y11 := HP.1
        refine e_iload_n dX6_isWord_43 rfl ?_
        refine z_iadd dX6_isWord_44 ?_
        refine z_bld (T ((tkS T L p) + 0)) dX6_isWord_45 (rd_s25 hk) (by decide) (by omega) (by omega) (HT.2.2.1 ((tkS T L p) + 0) (by omega) (by omega)) ?_
        have y12 := HT.2.2.2 ((tkS T L p) + 0) (by omega) (by omega)
        refine e_aload_n dX6_isWord_46 rfl ?_
        refine e_iload_n dX6_isWord_47 rfl ?_
        refine z_sat 104 dX6_isWord_48 tm_6_249 (Nat.le_of_ble_eq_true rfl) (by decide) (HA 9 (by decide)).1 (by decide) (by decide) (by decide) (by rw [(HA 9 (by decide)).2]; decide) (by omega) ?_
        refine z_icmp_eq 56 dX6_isWord_51 rfl ⟨by omega, by omega⟩ ⟨by omega, by omega⟩ (fun c13 => ?_) (fun c13 => ?_)
        · skip
          refine z_iinc (L' := [_, _, _]) dX6_isWord_56 rfl rfl ?_
          refine e_goto 27 dX6_isWord_59 rfl ?_
          refine e_iload_n dX6_isWord_27 rfl ?_
          refine e_aload_n dX6_isWord_28 rfl ?_
          refine z_slen 4 dX6_isWord_29 tm_6_245 (Nat.le_of_ble_eq_true rfl) (by decide) (HA 9 (by decide)).1 (by omega) (by decide) ?_
          refine z_icmp_ge 62 dX6_isWord_32 rfl ⟨by omega, by omega⟩ ⟨by omega, by omega⟩ (fun c14 => ?_) (fun c14 => ?_)
          · exfalso; omega
          · skip
            refine e_aload_n dX6_isWord_35 rfl ?_
            refine e_get (.ref (y + 25)) dX6_isWord_36 tf_6_39 (congrArg Prod.fst (rd_s0 hk)) (congrArg va_rf (rd_r0_5 hk)) ?_
            refine e_aload_n dX6_isWord_39 rfl ?_
            refine z_get (tkS T L p) dX6_isWord_40 tf_6_56 (congrArg Prod.fst (rd_s0 hk)) (Or.inl rfl) HP.2.2.2.1 ?_
            have y15 := tk_b (T := T) HP.1.1 HP.1.2
            have y16 := HP.1
            refine e_iload_n dX6_isWord_43 rfl ?_
            refine z_iadd dX6_isWord_44 ?_
            refine z_bld (T ((tkS T L p) + 1)) dX6_isWord_45 (rd_s25 hk) (by decide) (by omega) (by omega) (HT.2.2.1 ((tkS T L p) + 1) (by omega) (by omega)) ?_
            have y17 := HT.2.2.2 ((tkS T L p) + 1) (by omega) (by omega)
            refine e_aload_n dX6_isWord_46 rfl ?_
            refine e_iload_n dX6_isWord_47 rfl ?_
            refine z_sat 101 dX6_isWord_48 tm_6_249 (Nat.le_of_ble_eq_true rfl) (by decide) (HA 9 (by decide)).1 (by decide) (by decide) (by decide) (by rw [(HA 9 (by decide)).2]; decide) (by omega) ?_
            refine z_icmp_eq 56 dX6_isWord_51 rfl ⟨by omega, by omega⟩ ⟨by omega, by omega⟩ (fun c18 => ?_) (fun c18 => ?_)
            · skip
              refine z_iinc (L' := [_, _, _]) dX6_isWord_56 rfl rfl ?_
              refine e_goto 27 dX6_isWord_59 rfl ?_
              refine e_iload_n dX6_isWord_27 rfl ?_
              refine e_aload_n dX6_isWord_28 rfl ?_
              refine z_slen 4 dX6_isWord_29 tm_6_245 (Nat.le_of_ble_eq_true rfl) (by decide) (HA 9 (by decide)).1 (by omega) (by decide) ?_
              refine z_icmp_ge 62 dX6_isWord_32 rfl ⟨by omega, by omega⟩ ⟨by omega, by omega⟩ (fun c19 => ?_) (fun c19 => ?_)
              · exfalso; omega
              · skip
                refine e_aload_n dX6_isWord_35 rfl ?_
                refine e_get (.ref (y + 25)) dX6_isWord_36 tf_6_39 (congrArg Prod.fst (rd_s0 hk)) (congrArg va_rf (rd_r0_5 hk)) ?_
                refine e_aload_n dX6_isWord_39 rfl ?_
                refine z_get (tkS T L p) dX6_isWord_40 tf_6_56 (congrArg Prod.fst (rd_s0 hk)) (Or.inl rfl) HP.2.2.2.1 ?_
                have y20 := tk_b (T := T) HP.1.1 HP.1.2
                have y21 := HP.1
                refine e_iload_n dX6_isWord_43 rfl ?_
                refine z_iadd dX6_isWord_44 ?_
                refine z_bld (T ((tkS T L p) + 2)) dX6_isWord_45 (rd_s25 hk) (by decide) (by omega) (by omega) (HT.2.2.1 ((tkS T L p) + 2) (by omega) (by omega)) ?_
                have y22 := HT.2.2.2 ((tkS T L p) + 2) (by omega) (by omega)
                refine e_aload_n dX6_isWord_46 rfl ?_
                refine e_iload_n dX6_isWord_47 rfl ?_
                refine z_sat 97 dX6_isWord_48 tm_6_249 (Nat.le_of_ble_eq_true rfl) (by decide) (HA 9 (by decide)).1 (by decide) (by decide) (by decide) (by rw [(HA 9 (by decide)).2]; decide) (by omega) ?_
                refine z_icmp_eq 56 dX6_isWord_51 rfl ⟨by omega, by omega⟩ ⟨by omega, by omega⟩ (fun c23 => ?_) (fun c23 => ?_)
                · skip
                  refine z_iinc (L' := [_, _, _]) dX6_isWord_56 rfl rfl ?_
                  refine e_goto 27 dX6_isWord_59 rfl ?_
                  refine e_iload_n dX6_isWord_27 rfl ?_
                  refine e_aload_n dX6_isWord_28 rfl ?_
                  refine z_slen 4 dX6_isWord_29 tm_6_245 (Nat.le_of_ble_eq_true rfl) (by decide) (HA 9 (by decide)).1 (by omega) (by decide) ?_
                  refine z_icmp_ge 62 dX6_isWord_32 rfl ⟨by omega, by omega⟩ ⟨by omega, by omega⟩ (fun c24 => ?_) (fun c24 => ?_)
                  · exfalso; omega
                  · skip
                    refine e_aload_n dX6_isWord_35 rfl ?_
                    refine e_get (.ref (y + 25)) dX6_isWord_36 tf_6_39 (congrArg Prod.fst (rd_s0 hk)) (congrArg va_rf (rd_r0_5 hk)) ?_
                    refine e_aload_n dX6_isWord_39 rfl ?_
                    refine z_get (tkS T L p) dX6_isWord_40 tf_6_56 (congrArg Prod.fst (rd_s0 hk)) (Or.inl rfl) HP.2.2.2.1 ?_
                    have y25 := tk_b (T := T) HP.1.1 HP.1.2
                    have y26 := HP.1
                    refine e_iload_n dX6_isWord_43 rfl ?_
                    refine z_iadd dX6_isWord_44 ?_
                    refine z_bld (T ((tkS T L p) + 3)) dX6_isWord_45 (rd_s25 hk) (by decide) (by omega) (by omega) (HT.2.2.1 ((tkS T L p) + 3) (by omega) (by omega)) ?_
                    have y27 := HT.2.2.2 ((tkS T L p) + 3) (by omega) (by omega)
                    refine e_aload_n dX6_isWord_46 rfl ?_
                    refine e_iload_n dX6_isWord_47 rfl ?_
                    refine z_sat 116 dX6_isWord_48 tm_6_249 (Nat.le_of_ble_eq_true rfl) (by decide) (HA 9 (by decide)).1 (by decide) (by decide) (by decide) (by rw [(HA 9 (by decide)).2]; decide) (by omega) ?_
                    refine z_icmp_eq 56 dX6_isWord_51 rfl ⟨by omega, by omega⟩ ⟨by omega, by omega⟩ (fun c28 => ?_) (fun c28 => ?_)
                    · skip
                      refine z_iinc (L' := [_, _, _]) dX6_isWord_56 rfl rfl ?_
                      refine e_goto 27 dX6_isWord_59 rfl ?_
                      refine e_iload_n dX6_isWord_27 rfl ?_
                      refine e_aload_n dX6_isWord_28 rfl ?_
                      refine z_slen 4 dX6_isWord_29 tm_6_245 (Nat.le_of_ble_eq_true rfl) (by decide) (HA 9 (by decide)).1 (by omega) (by decide) ?_
                      refine z_icmp_ge 62 dX6_isWord_32 rfl ⟨by omega, by omega⟩ ⟨by omega, by omega⟩ (fun c29 => ?_) (fun c29 => ?_)
                      · skip
                        refine z_iconst (1) dX6_isWord_62 rfl ?_
                        refine z_bret dX6_isWord_63 rfl (Or.inr rfl) ⟨rfl, ?_⟩
                        refine z_q1 kq ?_
                        first | (have q := tw_0 (T := T) (L := L) (p := p) (by omega); omega) | (have q := tw_heat (T := T) (L := L) (p := p) (by omega); omega)
                      · exfalso; omega
                    · skip
                      refine z_iconst (0) dX6_isWord_54 rfl ?_
                      refine z_bret dX6_isWord_55 rfl (Or.inl rfl) ⟨rfl, ?_⟩
                      refine z_q0 kq ?_
                      first | (have q := tw_0 (T := T) (L := L) (p := p) (by omega); omega) | (have q := tw_heat (T := T) (L := L) (p := p) (by omega); omega)
                · skip
                  refine z_iconst (0) dX6_isWord_54 rfl ?_
                  refine z_bret dX6_isWord_55 rfl (Or.inl rfl) ⟨rfl, ?_⟩
                  refine z_q0 kq ?_
                  first | (have q := tw_0 (T := T) (L := L) (p := p) (by omega); omega) | (have q := tw_heat (T := T) (L := L) (p := p) (by omega); omega)
            · skip
              refine z_iconst (0) dX6_isWord_54 rfl ?_
              refine z_bret dX6_isWord_55 rfl (Or.inl rfl) ⟨rfl, ?_⟩
              refine z_q0 kq ?_
              first | (have q := tw_0 (T := T) (L := L) (p := p) (by omega); omega) | (have q := tw_heat (T := T) (L := L) (p := p) (by omega); omega)
        · skip
          refine z_iconst (0) dX6_isWord_54 rfl ?_
          refine z_bret dX6_isWord_55 rfl (Or.inl rfl) ⟨rfl, ?_⟩
          refine z_q0 kq ?_
          first | (have q := tw_0 (T := T) (L := L) (p := p) (by omega); omega) | (have q := tw_heat (T := T) (L := L) (p := p) (by omega); omega)
    · skip
      refine z_iconst (0) dX6_isWord_23 rfl ?_
      refine z_bret dX6_isWord_24 rfl (Or.inl rfl) ⟨rfl, ?_⟩
      refine z_q0 kq ?_
      first | (have q := tw_0 (T := T) (L := L) (p := p) (by omega); omega) | (have q := tw_heat (T := T) (L := L) (p := p) (by omega); omega)
set_option maxHeartbeats 1000000 in
theorem zp_X6_isWord_part {ad : mA} {dd : Nat} {h : mH} {Q : mQ} {y : Nat} {T : Int → Int} {L p : Int} (hk : rdk h y) (HT : rdT h y T L) (HP : rdP h y T L p) (HA : adK ad)   (kq : Q (some (.int (zI (bZ (tkW T L p = 1885434484))))) h) : mCal TB0 ad (dd + 6) M_X6_isWord [.ref y, .ref (ad.1 10)] h 0 0 Q := by
  refine ⟨Nat.le_of_ble_eq_true rfl, ?_⟩
  show mEv TB0 ad M_X6_isWord (dd + 6) (0, 0) (mCal TB0 ad (dd + 5)) (fun v h' z => z.1 = 0 ∧ Q v h') 0 [some (.ref y), some (.ref (ad.1 10)), none] [] h (0, 0)
  have w1 := HT.1
  have w2 := tk_b (T := T) HP.1.1 HP.1.2
  have z0 : T (tkS T L p + 0) = T (tkS T L p) := by rw [Int.add_zero]
  refine e_aload_n dX6_isWord_0 rfl ?_
  refine z_get (tkK T L p) dX6_isWord_1 tf_6_53 (congrArg Prod.fst (rd_s0 hk)) (Or.inl rfl) HP.2.2.1 ?_
  have y1 := tk_b (T := T) HP.1.1 HP.1.2
  have y2 := HP.1
  refine z_if_ne 23 dX6_isWord_4 rfl ⟨by omega, by omega⟩ (fun c3 => ?_) (fun c3 => ?_)
  · skip
    refine z_iconst (0) dX6_isWord_23 rfl ?_
    refine z_bret dX6_isWord_24 rfl (Or.inl rfl) ⟨rfl, ?_⟩
    refine z_q0 kq ?_
    first | (have q := tw_0 (T := T) (L := L) (p := p) (by omega); omega) | (have q := tw_part (T := T) (L := L) (p := p) (by omega); omega)
  · skip
    refine e_aload_n dX6_isWord_7 rfl ?_
    refine z_get (tkE T L p) dX6_isWord_8 tf_6_50 (congrArg Prod.fst (rd_s0 hk)) (Or.inl rfl) HP.2.1 ?_
    have y4 := tk_b (T := T) HP.1.1 HP.1.2
    have y5 := HP.1
    refine e_aload_n dX6_isWord_11 rfl ?_
    refine z_get (tkS T L p) dX6_isWord_12 tf_6_56 (congrArg Prod.fst (rd_s0 hk)) (Or.inl rfl) HP.2.2.2.1 ?_
    have y6 := tk_b (T := T) HP.1.1 HP.1.2
    have y7 := HP.1
    refine z_isub dX6_isWord_15 ?_
    refine e_aload_n dX6_isWord_16 rfl ?_
    refine z_slen 4 dX6_isWord_17 tm_6_245 (Nat.le_of_ble_eq_true rfl) (by decide) (HA 10 (by decide)).1 (by omega) (by decide) ?_
    refine z_icmp_eq 25 dX6_isWord_20 rfl ⟨by omega, by omega⟩ ⟨by omega, by omega⟩ (fun c8 => ?_) (fun c8 => ?_)
    · skip
      refine z_iconst (0) dX6_isWord_25 rfl ?_
      refine e_istore_n (L' := [_, _, _]) dX6_isWord_26 (Nat.le_of_ble_eq_true rfl) rfl ?_
      refine e_iload_n dX6_isWord_27 rfl ?_
      refine e_aload_n dX6_isWord_28 rfl ?_
      refine z_slen 4 dX6_isWord_29 tm_6_245 (Nat.le_of_ble_eq_true rfl) (by decide) (HA 10 (by decide)).1 (by omega) (by decide) ?_
      refine z_icmp_ge 62 dX6_isWord_32 rfl ⟨by omega, by omega⟩ ⟨by omega, by omega⟩ (fun c9 => ?_) (fun c9 => ?_)
      · exfalso; omega
      · skip
        refine e_aload_n dX6_isWord_35 rfl ?_
        refine e_get (.ref (y + 25)) dX6_isWord_36 tf_6_39 (congrArg Prod.fst (rd_s0 hk)) (congrArg va_rf (rd_r0_5 hk)) ?_
        refine e_aload_n dX6_isWord_39 rfl ?_
        refine z_get (tkS T L p) dX6_isWord_40 tf_6_56 (congrArg Prod.fst (rd_s0 hk)) (Or.inl rfl) HP.2.2.2.1 ?_
        have y10 := tk_b (T := T) HP.1.1 HP.1.2
        have y11 := HP.1
        refine e_iload_n dX6_isWord_43 rfl ?_
        refine z_iadd dX6_isWord_44 ?_
        refine z_bld (T ((tkS T L p) + 0)) dX6_isWord_45 (rd_s25 hk) (by decide) (by omega) (by omega) (HT.2.2.1 ((tkS T L p) + 0) (by omega) (by omega)) ?_
        have y12 := HT.2.2.2 ((tkS T L p) + 0) (by omega) (by omega)
        refine e_aload_n dX6_isWord_46 rfl ?_
        refine e_iload_n dX6_isWord_47 rfl ?_
        refine z_sat 112 dX6_isWord_48 tm_6_249 (Nat.le_of_ble_eq_true rfl) (by decide) (HA 10 (by decide)).1 (by decide) (by decide) (by decide) (by rw [(HA 10 (by decide)).2]; decide) (by omega) ?_
        refine z_icmp_eq 56 dX6_isWord_51 rfl ⟨by omega, by omega⟩ ⟨by omega, by omega⟩ (fun c13 => ?_) (fun c13 => ?_)
        · skip
          refine z_iinc (L' := [_, _, _]) dX6_isWord_56 rfl rfl ?_
          refine e_goto 27 dX6_isWord_59 rfl ?_
          refine e_iload_n dX6_isWord_27 rfl ?_
          refine e_aload_n dX6_isWord_28 rfl ?_
          refine z_slen 4 dX6_isWord_29 tm_6_245 (Nat.le_of_ble_eq_true rfl) (by decide) (HA 10 (by decide)).1 (by omega) (by decide) ?_
          refine z_icmp_ge 62 dX6_isWord_32 rfl ⟨by omega, by omega⟩ ⟨by omega, by omega⟩ (fun c14 => ?_) (fun c14 => ?_)
          · exfalso; omega
          · skip
            refine e_aload_n dX6_isWord_35 rfl ?_
            refine e_get (.ref (y + 25)) dX6_isWord_36 tf_6_39 (congrArg Prod.fst (rd_s0 hk)) (congrArg va_rf (rd_r0_5 hk)) ?_
            refine e_aload_n dX6_isWord_39 rfl ?_
            refine z_get (tkS T L p) dX6_isWord_40 tf_6_56 (congrArg Prod.fst (rd_s0 hk)) (Or.inl rfl) HP.2.2.2.1 ?_
            have y15 := tk_b (T := T) HP.1.1 HP.1.2
            have y16 := HP.1
            refine e_iload_n dX6_isWord_43 rfl ?_
            refine z_iadd dX6_isWord_44 ?_
            refine z_bld (T ((tkS T L p) + 1)) dX6_isWord_45 (rd_s25 hk) (by decide) (by omega) (by omega) (HT.2.2.1 ((tkS T L p) + 1) (by omega) (by omega)) ?_
            have y17 := HT.2.2.2 ((tkS T L p) + 1) (by omega) (by omega)
            refine e_aload_n dX6_isWord_46 rfl ?_
            refine e_iload_n dX6_isWord_47 rfl ?_
            refine z_sat 97 dX6_isWord_48 tm_6_249 (Nat.le_of_ble_eq_true rfl) (by decide) (HA 10 (by decide)).1 (by decide) (by decide) (by decide) (by rw [(HA 10 (by decide)).2]; decide) (by omega) ?_
            refine z_icmp_eq 56 dX6_isWord_51 rfl ⟨by omega, by omega⟩ ⟨by omega, by omega⟩ (fun c18 => ?_) (fun c18 => ?_)
            · skip
              refine z_iinc (L' := [_, _, _]) dX6_isWord_56 rfl rfl ?_
              refine e_goto 27 dX6_isWord_59 rfl ?_
              refine e_iload_n dX6_isWord_27 rfl ?_
              refine e_aload_n dX6_isWord_28 rfl ?_
              refine z_slen 4 dX6_isWord_29 tm_6_245 (Nat.le_of_ble_eq_true rfl) (by decide) (HA 10 (by decide)).1 (by omega) (by decide) ?_
              refine z_icmp_ge 62 dX6_isWord_32 rfl ⟨by omega, by omega⟩ ⟨by omega, by omega⟩ (fun c19 => ?_) (fun c19 => ?_)
              · exfalso; omega
              · skip
                refine e_aload_n dX6_isWord_35 rfl ?_
                refine e_get (.ref (y + 25)) dX6_isWord_36 tf_6_39 (congrArg Prod.fst (rd_s0 hk)) (congrArg va_rf (rd_r0_5 hk)) ?_
                refine e_aload_n dX6_isWord_39 rfl ?_
                refine z_get (tkS T L p) dX6_isWord_40 tf_6_56 (congrArg Prod.fst (rd_s0 hk)) (Or.inl rfl) HP.2.2.2.1 ?_
                have y20 := tk_b (T := T) HP.1.1 HP.1.2
                have y21 := HP.1
                refine e_iload_n dX6_isWord_43 rfl ?_
                refine z_iadd dX6_isWord_44 ?_
                refine z_bld (T ((tkS T L p) + 2)) dX6_isWord_45 (rd_s25 hk) (by decide) (by omega) (by omega) (HT.2.2.1 ((tkS T L p) + 2) (by omega) (by omega)) ?_
                have y22 := HT.2.2.2 ((tkS T L p) + 2) (by omega) (by omega)
                refine e_aload_n dX6_isWord_46 rfl ?_
                refine e_iload_n dX6_isWord_47 rfl ?_
                refine z_sat 114 dX6_isWord_48 tm_6_249 (Nat.le_of_ble_eq_true rfl) (by decide) (HA 10 (by decide)).1 (by decide) (by decide) (by decide) (by rw [(HA 10 (by decide)).2]; decide) (by omega) ?_
                refine z_icmp_eq 56 dX6_isWord_51 rfl ⟨by omega, by omega⟩ ⟨by omega, by omega⟩ (fun c23 => ?_) (fun c23 => ?_)
                · skip
                  refine z_iinc (L' := [_, _, _]) dX6_isWord_56 rfl rfl ?_
                  refine e_goto 27 dX6_isWord_59 rfl ?_
                  refine e_iload_n dX6_isWord_27 rfl ?_
                  refine e_aload_n dX6_isWord_28 rfl ?_
                  refine z_slen 4 dX6_isWord_29 tm_6_245 (Nat.le_of_ble_eq_true rfl) (by decide) (HA 10 (by decide)).1 (by omega) (by decide) ?_
                  refine z_icmp_ge 62 dX6_isWord_32 rfl ⟨by omega, by omega⟩ ⟨by omega, by omega⟩ (fun c24 => ?_) (fun c24 => ?_)
                  · exfalso; omega
                  · skip
                    refine e_aload_n dX6_isWord_35 rfl ?_
                    refine e_get (.ref (y + 25)) dX6_isWord_36 tf_6_39 (congrArg Prod.fst (rd_s0 hk)) (congrArg va_rf (rd_r0_5 hk)) ?_
                    refine e_aload_n dX6_isWord_39 rfl ?_
                    refine z_get (tkS T L p) dX6_isWord_40 tf_6_56 (congrArg Prod.fst (rd_s0 hk)) (Or.inl rfl) HP.2.2.2.1 ?_
                    have y25 := tk_b (T := T) HP.1.1 HP.1.2
                    have y26 := HP.1
                    refine e_iload_n dX6_isWord_43 rfl ?_
                    refine z_iadd dX6_isWord_44 ?_
                    refine z_bld (T ((tkS T L p) + 3)) dX6_isWord_45 (rd_s25 hk) (by decide) (by omega) (by omega) (HT.2.2.1 ((tkS T L p) + 3) (by omega) (by omega)) ?_
                    have y27 := HT.2.2.2 ((tkS T L p) + 3) (by omega) (by omega)
                    refine e_aload_n dX6_isWord_46 rfl ?_
                    refine e_iload_n dX6_isWord_47 rfl ?_
                    refine z_sat 116 dX6_isWord_48 tm_6_249 (Nat.le_of_ble_eq_true rfl) (by decide) (HA 10 (by decide)).1 (by decide) (by decide) (by decide) (by rw [(HA 10 (by decide)).2]; decide) (by omega) ?_
                    refine z_icmp_eq 56 dX6_isWord_51 rfl ⟨by omega, by omega⟩ ⟨by omega, by omega⟩ (fun c28 => ?_) (fun c28 => ?_)
                    · skip
                      refine z_iinc (L' := [_, _, _]) dX6_isWord_56 rfl rfl ?_
                      refine e_goto 27 dX6_isWord_59 rfl ?_
                      refine e_iload_n dX6_isWord_27 rfl ?_
                      refine e_aload_n dX6_isWord_28 rfl ?_
                      refine z_slen 4 dX6_isWord_29 tm_6_245 (Nat.le_of_ble_eq_true rfl) (by decide) (HA 10 (by decide)).1 (by omega) (by decide) ?_
                      refine z_icmp_ge 62 dX6_isWord_32 rfl ⟨by omega, by omega⟩ ⟨by omega, by omega⟩ (fun c29 => ?_) (fun c29 => ?_)
                      · skip
                        refine z_iconst (1) dX6_isWord_62 rfl ?_
                        refine z_bret dX6_isWord_63 rfl (Or.inr rfl) ⟨rfl, ?_⟩
                        refine z_q1 kq ?_
                        first | (have q := tw_0 (T := T) (L := L) (p := p) (by omega); omega) | (have q := tw_part (T := T) (L := L) (p := p) (by omega); omega)
                      · exfalso; omega
                    · skip
                      refine z_iconst (0) dX6_isWord_54 rfl ?_
                      refine z_bret dX6_isWord_55 rfl (Or.inl rfl) ⟨rfl, ?_⟩
                      refine z_q0 kq ?_
                      first | (have q := tw_0 (T := T) (L := L) (p := p) (by omega); omega) | (have q := tw_part (T := T) (L := L) (p := p) (by omega); omega)
                · skip
                  refine z_iconst (0) dX6_isWord_54 rfl ?_
                  refine z_bret dX6_isWord_55 rfl (Or.inl rfl) ⟨rfl, ?_⟩
                  refine z_q0 kq ?_
                  first | (have q := tw_0 (T := T) (L := L) (p := p) (by omega); omega) | (have q := tw_part (T := T) (L := L) (p := p) (by omega); omega)
            · skip
              refine z_iconst (0) dX6_isWord_54 rfl ?_
              refine z_bret dX6_isWord_55 rfl (Or.inl rfl) ⟨rfl, ?_⟩
              refine z_q0 kq ?_
              first | (have q := tw_0 (T := T) (L := L) (p := p) (by omega); omega) | (have q := tw_part (T := T) (L := L) (p := p) (by omega); omega)
        · skip
          refine z_iconst (0) dX6_isWord_54 rfl ?_
          refine z_bret dX6_isWord_55 rfl (Or.inl rfl) ⟨rfl, ?_⟩
          refine z_q0 kq ?_
          first | (have q := tw_0 (T := T) (L := L) (p := p) (by omega); omega) | (have q := tw_part (T := T) (L := L) (p := p) (by omega); omega)
    · skip
      refine z_iconst (0) dX6_isWord_23 rfl ?_
      refine z_bret dX6_isWord_24 rfl (Or.inl rfl) ⟨rfl, ?_⟩
      refine z_q0 kq ?_
      first | (have q := tw_0 (T := T) (L := L) (p := p) (by omega); omega) | (have q := tw_part (T := T) (L := L) (p := p) (by omega); omega)
set_option maxHeartbeats 1000000 in
theorem zp_X6_isWord_cut {ad : mA} {dd : Nat} {h : mH} {Q : mQ} {y : Nat} {T : Int → Int} {L p : Int} (hk : rdk h y) (HT : rdT h y T L) (HP : rdP h y T L p) (HA : adK ad)   (kq : Q (some (.int (zI (bZ (tkW T L p = 6518132))))) h) : mCal TB0 ad (dd + 6) M_X6_isWord [.ref y, .ref (ad.1 11)] h 0 0 Q := by
  refine ⟨Nat.le_of_ble_eq_true rfl, ?_⟩
  show mEv TB0 ad M_X6_isWord (dd + 6) (0, 0) (mCal TB0 ad (dd + 5)) (fun v h' z => z.1 = 0 ∧ Q v h') 0 [some (.ref y), some (.ref (ad.1 11)), none] [] h (0, 0)
  have w1 := HT.1
  have w2 := tk_b (T := T) HP.1.1 HP.1.2
  have z0 : T (tkS T L p + 0) = T (tkS T L p) := by rw [Int.add_zero]
  refine e_aload_n dX6_isWord_0 rfl ?_
  refine z_get (tkK T L p) dX6_isWord_1 tf_6_53 (congrArg Prod.fst (rd_s0 hk)) (Or.inl rfl) HP.2.2.1 ?_
  have y1 := tk_b (T := T) HP.1.1 HP.1.2
  have y2 := HP.1
  refine z_if_ne 23 dX6_isWord_4 rfl ⟨by omega, by omega⟩ (fun c3 => ?_) (fun c3 => ?_)
  · skip
    refine z_iconst (0) dX6_isWord_23 rfl ?_
    refine z_bret dX6_isWord_24 rfl (Or.inl rfl) ⟨rfl, ?_⟩
    refine z_q0 kq ?_
    first | (have q := tw_0 (T := T) (L := L) (p := p) (by omega); omega) | (have q := tw_cut (T := T) (L := L) (p := p) (by omega); omega)
  · skip
    refine e_aload_n dX6_isWord_7 rfl ?_
    refine z_get (tkE T L p) dX6_isWord_8 tf_6_50 (congrArg Prod.fst (rd_s0 hk)) (Or.inl rfl) HP.2.1 ?_
    have y4 := tk_b (T := T) HP.1.1 HP.1.2
    have y5 := HP.1
    refine e_aload_n dX6_isWord_11 rfl ?_
    refine z_get (tkS T L p) dX6_isWord_12 tf_6_56 (congrArg Prod.fst (rd_s0 hk)) (Or.inl rfl) HP.2.2.2.1 ?_
    have y6 := tk_b (T := T) HP.1.1 HP.1.2
    have y7 := HP.1
    refine z_isub dX6_isWord_15 ?_
    refine e_aload_n dX6_isWord_16 rfl ?_
    refine z_slen 3 dX6_isWord_17 tm_6_245 (Nat.le_of_ble_eq_true rfl) (by decide) (HA 11 (by decide)).1 (by omega) (by decide) ?_
    refine z_icmp_eq 25 dX6_isWord_20 rfl ⟨by omega, by omega⟩ ⟨by omega, by omega⟩ (fun c8 => ?_) (fun c8 => ?_)
    · skip
      refine z_iconst (0) dX6_isWord_25 rfl ?_
      refine e_istore_n (L' := [_, _, _]) dX6_isWord_26 (Nat.le_of_ble_eq_true rfl) rfl ?_
      refine e_iload_n dX6_isWord_27 rfl ?_
      refine e_aload_n dX6_isWord_28 rfl ?_
      refine z_slen 3 dX6_isWord_29 tm_6_245 (Nat.le_of_ble_eq_true rfl) (by decide) (HA 11 (by decide)).1 (by omega) (by decide) ?_
      refine z_icmp_ge 62 dX6_isWord_32 rfl ⟨by omega, by omega⟩ ⟨by omega, by omega⟩ (fun c9 => ?_) (fun c9 => ?_)
      · exfalso; omega
      · skip
        refine e_aload_n dX6_isWord_35 rfl ?_
        refine e_get (.ref (y + 25)) dX6_isWord_36 tf_6_39 (congrArg Prod.fst (rd_s0 hk)) (congrArg va_rf (rd_r0_5 hk)) ?_
        refine e_aload_n dX6_isWord_39 rfl ?_
        refine z_get (tkS T L p) dX6_isWord_40 tf_6_56 (congrArg Prod.fst (rd_s0 hk)) (Or.inl rfl) HP.2.2.2.1 ?_
        have y10 := tk_b (T := T) HP.1.1 HP.1.2
        have y11 := HP.1
        refine e_iload_n dX6_isWord_43 rfl ?_
        refine z_iadd dX6_isWord_44 ?_
        refine z_bld (T ((tkS T L p) + 0)) dX6_isWord_45 (rd_s25 hk) (by decide) (by omega) (by omega) (HT.2.2.1 ((tkS T L p) + 0) (by omega) (by omega)) ?_
        have y12 := HT.2.2.2 ((tkS T L p) + 0) (by omega) (by omega)
        refine e_aload_n dX6_isWord_46 rfl ?_
        refine e_iload_n dX6_isWord_47 rfl ?_
        refine z_sat 99 dX6_isWord_48 tm_6_249 (Nat.le_of_ble_eq_true rfl) (by decide) (HA 11 (by decide)).1 (by decide) (by decide) (by decide) (by rw [(HA 11 (by decide)).2]; decide) (by omega) ?_
        refine z_icmp_eq 56 dX6_isWord_51 rfl ⟨by omega, by omega⟩ ⟨by omega, by omega⟩ (fun c13 => ?_) (fun c13 => ?_)
        · skip
          refine z_iinc (L' := [_, _, _]) dX6_isWord_56 rfl rfl ?_
          refine e_goto 27 dX6_isWord_59 rfl ?_
          refine e_iload_n dX6_isWord_27 rfl ?_
          refine e_aload_n dX6_isWord_28 rfl ?_
          refine z_slen 3 dX6_isWord_29 tm_6_245 (Nat.le_of_ble_eq_true rfl) (by decide) (HA 11 (by decide)).1 (by omega) (by decide) ?_
          refine z_icmp_ge 62 dX6_isWord_32 rfl ⟨by omega, by omega⟩ ⟨by omega, by omega⟩ (fun c14 => ?_) (fun c14 => ?_)
          · exfalso; omega
          · skip
            refine e_aload_n dX6_isWord_35 rfl ?_
            refine e_get (.ref (y + 25)) dX6_isWord_36 tf_6_39 (congrArg Prod.fst (rd_s0 hk)) (congrArg va_rf (rd_r0_5 hk)) ?_
            refine e_aload_n dX6_isWord_39 rfl ?_
            refine z_get (tkS T L p) dX6_isWord_40 tf_6_56 (congrArg Prod.fst (rd_s0 hk)) (Or.inl rfl) HP.2.2.2.1 ?_
            have y15 := tk_b (T := T) HP.1.1 HP.1.2
            have y16 := HP.1
            refine e_iload_n dX6_isWord_43 rfl ?_
            refine z_iadd dX6_isWord_44 ?_
            refine z_bld (T ((tkS T L p) + 1)) dX6_isWord_45 (rd_s25 hk) (by decide) (by omega) (by omega) (HT.2.2.1 ((tkS T L p) + 1) (by omega) (by omega)) ?_
            have y17 := HT.2.2.2 ((tkS T L p) + 1) (by omega) (by omega)
            refine e_aload_n dX6_isWord_46 rfl ?_
            refine e_iload_n dX6_isWord_47 rfl ?_
            refine z_sat 117 dX6_isWord_48 tm_6_249 (Nat.le_of_ble_eq_true rfl) (by decide) (HA 11 (by decide)).1 (by decide) (by decide) (by decide) (by rw [(HA 11 (by decide)).2]; decide) (by omega) ?_
            refine z_icmp_eq 56 dX6_isWord_51 rfl ⟨by omega, by omega⟩ ⟨by omega, by omega⟩ (fun c18 => ?_) (fun c18 => ?_)
            · skip
              refine z_iinc (L' := [_, _, _]) dX6_isWord_56 rfl rfl ?_
              refine e_goto 27 dX6_isWord_59 rfl ?_
              refine e_iload_n dX6_isWord_27 rfl ?_
              refine e_aload_n dX6_isWord_28 rfl ?_
              refine z_slen 3 dX6_isWord_29 tm_6_245 (Nat.le_of_ble_eq_true rfl) (by decide) (HA 11 (by decide)).1 (by omega) (by decide) ?_
              refine z_icmp_ge 62 dX6_isWord_32 rfl ⟨by omega, by omega⟩ ⟨by omega, by omega⟩ (fun c19 => ?_) (fun c19 => ?_)
              · exfalso; omega
              · skip
                refine e_aload_n dX6_isWord_35 rfl ?_
                refine e_get (.ref (y + 25)) dX6_isWord_36 tf_6_39 (congrArg Prod.fst (rd_s0 hk)) (congrArg va_rf (rd_r0_5 hk)) ?_
                refine e_aload_n dX6_isWord_39 rfl ?_
                refine z_get (tkS T L p) dX6_isWord_40 tf_6_56 (congrArg Prod.fst (rd_s0 hk)) (Or.inl rfl) HP.2.2.2.1 ?_
                have y20 := tk_b (T := T) HP.1.1 HP.1.2
                have y21 := HP.1
                refine e_iload_n dX6_isWord_43 rfl ?_
                refine z_iadd dX6_isWord_44 ?_
                refine z_bld (T ((tkS T L p) + 2)) dX6_isWord_45 (rd_s25 hk) (by decide) (by omega) (by omega) (HT.2.2.1 ((tkS T L p) + 2) (by omega) (by omega)) ?_
                have y22 := HT.2.2.2 ((tkS T L p) + 2) (by omega) (by omega)
                refine e_aload_n dX6_isWord_46 rfl ?_
                refine e_iload_n dX6_isWord_47 rfl ?_
                refine z_sat 116 dX6_isWord_48 tm_6_249 (Nat.le_of_ble_eq_true rfl) (by decide) (HA 11 (by decide)).1 (by decide) (by decide) (by decide) (by rw [(HA 11 (by decide)).2]; decide) (by omega) ?_
                refine z_icmp_eq 56 dX6_isWord_51 rfl ⟨by omega, by omega⟩ ⟨by omega, by omega⟩ (fun c23 => ?_) (fun c23 => ?_)
                · skip
                  refine z_iinc (L' := [_, _, _]) dX6_isWord_56 rfl rfl ?_
                  refine e_goto 27 dX6_isWord_59 rfl ?_
                  refine e_iload_n dX6_isWord_27 rfl ?_
                  refine e_aload_n dX6_isWord_28 rfl ?_
                  refine z_slen 3 dX6_isWord_29 tm_6_245 (Nat.le_of_ble_eq_true rfl) (by decide) (HA 11 (by decide)).1 (by omega) (by decide) ?_
                  refine z_icmp_ge 62 dX6_isWord_32 rfl ⟨by omega, by omega⟩ ⟨by omega, by omega⟩ (fun c24 => ?_) (fun c24 => ?_)
                  · skip
                    refine z_iconst (1) dX6_isWord_62 rfl ?_
                    refine z_bret dX6_isWord_63 rfl (Or.inr rfl) ⟨rfl, ?_⟩
                    refine z_q1 kq ?_
                    first | (have q := tw_0 (T := T) (L := L) (p := p) (by omega); omega) | (have q := tw_cut (T := T) (L := L) (p := p) (by omega); omega)
                  · exfalso; omega
                · skip
                  refine z_iconst (0) dX6_isWord_54 rfl ?_
                  refine z_bret dX6_isWord_55 rfl (Or.inl rfl) ⟨rfl, ?_⟩
                  refine z_q0 kq ?_
                  first | (have q := tw_0 (T := T) (L := L) (p := p) (by omega); omega) | (have q := tw_cut (T := T) (L := L) (p := p) (by omega); omega)
            · skip
              refine z_iconst (0) dX6_isWord_54 rfl ?_
              refine z_bret dX6_isWord_55 rfl (Or.inl rfl) ⟨rfl, ?_⟩
              refine z_q0 kq ?_
              first | (have q := tw_0 (T := T) (L := L) (p := p) (by omega); omega) | (have q := tw_cut (T := T) (L := L) (p := p) (by omega); omega)
        · skip
          refine z_iconst (0) dX6_isWord_54 rfl ?_
          refine z_bret dX6_isWord_55 rfl (Or.inl rfl) ⟨rfl, ?_⟩
          refine z_q0 kq ?_
          first | (have q := tw_0 (T := T) (L := L) (p := p) (by omega); omega) | (have q := tw_cut (T := T) (L := L) (p := p) (by omega); omega)
    · skip
      refine z_iconst (0) dX6_isWord_23 rfl ?_
      refine z_bret dX6_isWord_24 rfl (Or.inl rfl) ⟨rfl, ?_⟩
      refine z_q0 kq ?_
      first | (have q := tw_0 (T := T) (L := L) (p := p) (by omega); omega) | (have q := tw_cut (T := T) (L := L) (p := p) (by omega); omega)
set_option maxHeartbeats 1000000 in
theorem zp_X6_isWord_grind {ad : mA} {dd : Nat} {h : mH} {Q : mQ} {y : Nat} {T : Int → Int} {L p : Int} (hk : rdk h y) (HT : rdT h y T L) (HP : rdP h y T L p) (HA : adK ad)   (kq : Q (some (.int (zI (bZ (tkW T L p = 444301143652))))) h) : mCal TB0 ad (dd + 6) M_X6_isWord [.ref y, .ref (ad.1 12)] h 0 0 Q := by
  refine ⟨Nat.le_of_ble_eq_true rfl, ?_⟩
  show mEv TB0 ad M_X6_isWord (dd + 6) (0, 0) (mCal TB0 ad (dd + 5)) (fun v h' z => z.1 = 0 ∧ Q v h') 0 [some (.ref y), some (.ref (ad.1 12)), none] [] h (0, 0)
  have w1 := HT.1
  have w2 := tk_b (T := T) HP.1.1 HP.1.2
  have z0 : T (tkS T L p + 0) = T (tkS T L p) := by rw [Int.add_zero]
  refine e_aload_n dX6_isWord_0 rfl ?_
  refine z_get (tkK T L p) dX6_isWord_1 tf_6_53 (congrArg Prod.fst (rd_s0 hk)) (Or.inl rfl) HP.2.2.1 ?_
  have y1 := tk_b (T := T) HP.1.1 HP.1.2
  have y2 := HP.1
  refine z_if_ne 23 dX6_isWord_4 rfl ⟨by omega, by omega⟩ (fun c3 => ?_) (fun c3 => ?_)
  · skip
    refine z_iconst (0) dX6_isWord_23 rfl ?_
    refine z_bret dX6_isWord_24 rfl (Or.inl rfl) ⟨rfl, ?_⟩
    refine z_q0 kq ?_
    first | (have q := tw_0 (T := T) (L := L) (p := p) (by omega); omega) | (have q := tw_grind (T := T) (L := L) (p := p) (by omega); omega)
  · skip
    refine e_aload_n dX6_isWord_7 rfl ?_
    refine z_get (tkE T L p) dX6_isWord_8 tf_6_50 (congrArg Prod.fst (rd_s0 hk)) (Or.inl rfl) HP.2.1 ?_
    have y4 := tk_b (T := T) HP.1.1 HP.1.2
    have y5 := HP.1
    refine e_aload_n dX6_isWord_11 rfl ?_
    refine z_get (tkS T L p) dX6_isWord_12 tf_6_56 (congrArg Prod.fst (rd_s0 hk)) (Or.inl rfl) HP.2.2.2.1 ?_
    have y6 := tk_b (T := T) HP.1.1 HP.1.2
    have y7 := HP.1
    refine z_isub dX6_isWord_15 ?_
    refine e_aload_n dX6_isWord_16 rfl ?_
    refine z_slen 5 dX6_isWord_17 tm_6_245 (Nat.le_of_ble_eq_true rfl) (by decide) (HA 12 (by decide)).1 (by omega) (by decide) ?_
    refine z_icmp_eq 25 dX6_isWord_20 rfl ⟨by omega, by omega⟩ ⟨by omega, by omega⟩ (fun c8 => ?_) (fun c8 => ?_)
    · skip
      refine z_iconst (0) dX6_isWord_25 rfl ?_
      refine e_istore_n (L' := [_, _, _]) dX6_isWord_26 (Nat.le_of_ble_eq_true rfl) rfl ?_
      refine e_iload_n dX6_isWord_27 rfl ?_
      refine e_aload_n dX6_isWord_28 rfl ?_
      refine z_slen 5 dX6_isWord_29 tm_6_245 (Nat.le_of_ble_eq_true rfl) (by decide) (HA 12 (by decide)).1 (by omega) (by decide) ?_
      refine z_icmp_ge 62 dX6_isWord_32 rfl ⟨by omega, by omega⟩ ⟨by omega, by omega⟩ (fun c9 => ?_) (fun c9 => ?_)
      · exfalso; omega
      · skip
        refine e_aload_n dX6_isWord_35 rfl ?_
        refine e_get (.ref (y + 25)) dX6_isWord_36 tf_6_39 (congrArg Prod.fst (rd_s0 hk)) (congrArg va_rf (rd_r0_5 hk)) ?_
        refine e_aload_n dX6_isWord_39 rfl ?_
        refine z_get (tkS T L p) dX6_isWord_40 tf_6_56 (congrArg Prod.fst (rd_s0 hk)) (Or.inl rfl) HP.2.2.2.1 ?_
        have y10 := tk_b (T := T) HP.1.1 HP.1.2
        have y11 := HP.1
        refine e_iload_n dX6_isWord_43 rfl ?_
        refine z_iadd dX6_isWord_44 ?_
        refine z_bld (T ((tkS T L p) + 0)) dX6_isWord_45 (rd_s25 hk) (by decide) (by omega) (by omega) (HT.2.2.1 ((tkS T L p) + 0) (by omega) (by omega)) ?_
        have y12 := HT.2.2.2 ((tkS T L p) + 0) (by omega) (by omega)
        refine e_aload_n dX6_isWord_46 rfl ?_
        refine e_iload_n dX6_isWord_47 rfl ?_
        refine z_sat 103 dX6_isWord_48 tm_6_249 (Nat.le_of_ble_eq_true rfl) (by decide) (HA 12 (by decide)).1 (by decide) (by decide) (by decide) (by rw [(HA 12 (by decide)).2]; decide) (by omega) ?_
        refine z_icmp_eq 56 dX6_isWord_51 rfl ⟨by omega, by omega⟩ ⟨by omega, by omega⟩ (fun c13 => ?_) (fun c13 => ?_)
        · skip
          refine z_iinc (L' := [_, _, _]) dX6_isWord_56 rfl rfl ?_
          refine e_goto 27 dX6_isWord_59 rfl ?_
          refine e_iload_n dX6_isWord_27 rfl ?_
          refine e_aload_n dX6_isWord_28 rfl ?_
          refine z_slen 5 dX6_isWord_29 tm_6_245 (Nat.le_of_ble_eq_true rfl) (by decide) (HA 12 (by decide)).1 (by omega) (by decide) ?_
          refine z_icmp_ge 62 dX6_isWord_32 rfl ⟨by omega, by omega⟩ ⟨by omega, by omega⟩ (fun c14 => ?_) (fun c14 => ?_)
          · exfalso; omega
          · skip
            refine e_aload_n dX6_isWord_35 rfl ?_
            refine e_get (.ref (y + 25)) dX6_isWord_36 tf_6_39 (congrArg Prod.fst (rd_s0 hk)) (congrArg va_rf (rd_r0_5 hk)) ?_
            refine e_aload_n dX6_isWord_39 rfl ?_
            refine z_get (tkS T L p) dX6_isWord_40 tf_6_56 (congrArg Prod.fst (rd_s0 hk)) (Or.inl rfl) HP.2.2.2.1 ?_
            have y15 := tk_b (T := T) HP.1.1 HP.1.2
            have y16 := HP.1
            refine e_iload_n dX6_isWord_43 rfl ?_
            refine z_iadd dX6_isWord_44 ?_
            refine z_bld (T ((tkS T L p) + 1)) dX6_isWord_45 (rd_s25 hk) (by decide) (by omega) (by omega) (HT.2.2.1 ((tkS T L p) + 1) (by omega) (by omega)) ?_
            have y17 := HT.2.2.2 ((tkS T L p) + 1) (by omega) (by omega)
            refine e_aload_n dX6_isWord_46 rfl ?_
            refine e_iload_n dX6_isWord_47 rfl ?_
            refine z_sat 114 dX6_isWord_48 tm_6_249 (Nat.le_of_ble_eq_true rfl) (by decide) (HA 12 (by decide)).1 (by decide) (by decide) (by decide) (by rw [(HA 12 (by decide)).2]; decide) (by omega) ?_
            refine z_icmp_eq 56 dX6_isWord_51 rfl ⟨by omega, by omega⟩ ⟨by omega, by omega⟩ (fun c18 => ?_) (fun c18 => ?_)
            · skip
              refine z_iinc (L' := [_, _, _]) dX6_isWord_56 rfl rfl ?_
              refine e_goto 27 dX6_isWord_59 rfl ?_
              refine e_iload_n dX6_isWord_27 rfl ?_
              refine e_aload_n dX6_isWord_28 rfl ?_
              refine z_slen 5 dX6_isWord_29 tm_6_245 (Nat.le_of_ble_eq_true rfl) (by decide) (HA 12 (by decide)).1 (by omega) (by decide) ?_
              refine z_icmp_ge 62 dX6_isWord_32 rfl ⟨by omega, by omega⟩ ⟨by omega, by omega⟩ (fun c19 => ?_) (fun c19 => ?_)
              · exfalso; omega
              · skip
                refine e_aload_n dX6_isWord_35 rfl ?_
                refine e_get (.ref (y + 25)) dX6_isWord_36 tf_6_39 (congrArg Prod.fst (rd_s0 hk)) (congrArg va_rf (rd_r0_5 hk)) ?_
                refine e_aload_n dX6_isWord_39 rfl ?_
                refine z_get (tkS T L p) dX6_isWord_40 tf_6_56 (congrArg Prod.fst (rd_s0 hk)) (Or.inl rfl) HP.2.2.2.1 ?_
                have y20 := tk_b (T := T) HP.1.1 HP.1.2
                have y21 := HP.1
                refine e_iload_n dX6_isWord_43 rfl ?_
                refine z_iadd dX6_isWord_44 ?_
                refine z_bld (T ((tkS T L p) + 2)) dX6_isWord_45 (rd_s25 hk) (by decide) (by omega) (by omega) (HT.2.2.1 ((tkS T L p) + 2) (by omega) (by omega)) ?_
                have y22 := HT.2.2.2 ((tkS T L p) + 2) (by omega) (by omega)
                refine e_aload_n dX6_isWord_46 rfl ?_
                refine e_iload_n dX6_isWord_47 rfl ?_
                refine z_sat 105 dX6_isWord_48 tm_6_249 (Nat.le_of_ble_eq_true rfl) (by decide) (HA 12 (by decide)).1 (by decide) (by decide) (by decide) (by rw [(HA 12 (by decide)).2]; decide) (by omega) ?_
                refine z_icmp_eq 56 dX6_isWord_51 rfl ⟨by omega, by omega⟩ ⟨by omega, by omega⟩ (fun c23 => ?_) (fun c23 => ?_)
                · skip
                  refine z_iinc (L' := [_, _, _]) dX6_isWord_56 rfl rfl ?_
                  refine e_goto 27 dX6_isWord_59 rfl ?_
                  refine e_iload_n dX6_isWord_27 rfl ?_
                  refine e_aload_n dX6_isWord_28 rfl ?_
                  refine z_slen 5 dX6_isWord_29 tm_6_245 (Nat.le_of_ble_eq_true rfl) (by decide) (HA 12 (by decide)).1 (by omega) (by decide) ?_
                  refine z_icmp_ge 62 dX6_isWord_32 rfl ⟨by omega, by omega⟩ ⟨by omega, by omega⟩ (fun c24 => ?_) (fun c24 => ?_)
                  · exfalso; omega
                  · skip
                    refine e_aload_n dX6_isWord_35 rfl ?_
                    refine e_get (.ref (y + 25)) dX6_isWord_36 tf_6_39 (congrArg Prod.fst (rd_s0 hk)) (congrArg va_rf (rd_r0_5 hk)) ?_
                    refine e_aload_n dX6_isWord_39 rfl ?_
                    refine z_get (tkS T L p) dX6_isWord_40 tf_6_56 (congrArg Prod.fst (rd_s0 hk)) (Or.inl rfl) HP.2.2.2.1 ?_
                    have y25 := tk_b (T := T) HP.1.1 HP.1.2
                    have y26 := HP.1
                    refine e_iload_n dX6_isWord_43 rfl ?_
                    refine z_iadd dX6_isWord_44 ?_
                    refine z_bld (T ((tkS T L p) + 3)) dX6_isWord_45 (rd_s25 hk) (by decide) (by omega) (by omega) (HT.2.2.1 ((tkS T L p) + 3) (by omega) (by omega)) ?_
                    have y27 := HT.2.2.2 ((tkS T L p) + 3) (by omega) (by omega)
                    refine e_aload_n dX6_isWord_46 rfl ?_
                    refine e_iload_n dX6_isWord_47 rfl ?_
                    refine z_sat 110 dX6_isWord_48 tm_6_249 (Nat.le_of_ble_eq_true rfl) (by decide) (HA 12 (by decide)).1 (by decide) (by decide) (by decide) (by rw [(HA 12 (by decide)).2]; decide) (by omega) ?_
                    refine z_icmp_eq 56 dX6_isWord_51 rfl ⟨by omega, by omega⟩ ⟨by omega, by omega⟩ (fun c28 => ?_) (fun c28 => ?_)
                    · skip
                      refine z_iinc (L' := [_, _, _]) dX6_isWord_56 rfl rfl ?_
                      refine e_goto 27 dX6_isWord_59 rfl ?_
                      refine e_iload_n dX6_isWord_27 rfl ?_
                      refine e_aload_n dX6_isWord_28 rfl ?_
                      refine z_slen 5 dX6_isWord_29 tm_6_245 (Nat.le_of_ble_eq_true rfl) (by decide) (HA 12 (by decide)).1 (by omega) (by decide) ?_
                      refine z_icmp_ge 62 dX6_isWord_32 rfl ⟨by omega, by omega⟩ ⟨by omega, by omega⟩ (fun c29 => ?_) (fun c29 => ?_)
                      · exfalso; omega
                      · skip
                        refine e_aload_n dX6_isWord_35 rfl ?_
                        refine e_get (.ref (y + 25)) dX6_isWord_36 tf_6_39 (congrArg Prod.fst (rd_s0 hk)) (congrArg va_rf (rd_r0_5 hk)) ?_
                        refine e_aload_n dX6_isWord_39 rfl ?_
                        refine z_get (tkS T L p) dX6_isWord_40 tf_6_56 (congrArg Prod.fst (rd_s0 hk)) (Or.inl rfl) HP.2.2.2.1 ?_
                        have y30 := tk_b (T := T) HP.1.1 HP.1.2
                        have y31 := HP.1
                        refine e_iload_n dX6_isWord_43 rfl ?_
                        refine z_iadd dX6_isWord_44 ?_
                        refine z_bld (T ((tkS T L p) + 4)) dX6_isWord_45 (rd_s25 hk) (by decide) (by omega) (by omega) (HT.2.2.1 ((tkS T L p) + 4) (by omega) (by omega)) ?_
                        have y32 := HT.2.2.2 ((tkS T L p) + 4) (by omega) (by omega)
                        refine e_aload_n dX6_isWord_46 rfl ?_
                        refine e_iload_n dX6_isWord_47 rfl ?_
                        refine z_sat 100 dX6_isWord_48 tm_6_249 (Nat.le_of_ble_eq_true rfl) (by decide) (HA 12 (by decide)).1 (by decide) (by decide) (by decide) (by rw [(HA 12 (by decide)).2]; decide) (by omega) ?_
                        refine z_icmp_eq 56 dX6_isWord_51 rfl ⟨by omega, by omega⟩ ⟨by omega, by omega⟩ (fun c33 => ?_) (fun c33 => ?_)
                        · skip
                          refine z_iinc (L' := [_, _, _]) dX6_isWord_56 rfl rfl ?_
                          refine e_goto 27 dX6_isWord_59 rfl ?_
                          refine e_iload_n dX6_isWord_27 rfl ?_
                          refine e_aload_n dX6_isWord_28 rfl ?_
                          refine z_slen 5 dX6_isWord_29 tm_6_245 (Nat.le_of_ble_eq_true rfl) (by decide) (HA 12 (by decide)).1 (by omega) (by decide) ?_
                          refine z_icmp_ge 62 dX6_isWord_32 rfl ⟨by omega, by omega⟩ ⟨by omega, by omega⟩ (fun c34 => ?_) (fun c34 => ?_)
                          · skip
                            refine z_iconst (1) dX6_isWord_62 rfl ?_
                            refine z_bret dX6_isWord_63 rfl (Or.inr rfl) ⟨rfl, ?_⟩
                            refine z_q1 kq ?_
                            first | (have q := tw_0 (T := T) (L := L) (p := p) (by omega); omega) | (have q := tw_grind (T := T) (L := L) (p := p) (by omega); omega)
                          · exfalso; omega
                        · skip
                          refine z_iconst (0) dX6_isWord_54 rfl ?_
                          refine z_bret dX6_isWord_55 rfl (Or.inl rfl) ⟨rfl, ?_⟩
                          refine z_q0 kq ?_
                          first | (have q := tw_0 (T := T) (L := L) (p := p) (by omega); omega) | (have q := tw_grind (T := T) (L := L) (p := p) (by omega); omega)
                    · skip
                      refine z_iconst (0) dX6_isWord_54 rfl ?_
                      refine z_bret dX6_isWord_55 rfl (Or.inl rfl) ⟨rfl, ?_⟩
                      refine z_q0 kq ?_
                      first | (have q := tw_0 (T := T) (L := L) (p := p) (by omega); omega) | (have q := tw_grind (T := T) (L := L) (p := p) (by omega); omega)
                · skip
                  refine z_iconst (0) dX6_isWord_54 rfl ?_
                  refine z_bret dX6_isWord_55 rfl (Or.inl rfl) ⟨rfl, ?_⟩
                  refine z_q0 kq ?_
                  first | (have q := tw_0 (T := T) (L := L) (p := p) (by omega); omega) | (have q := tw_grind (T := T) (L := L) (p := p) (by omega); omega)
            · skip
              refine z_iconst (0) dX6_isWord_54 rfl ?_
              refine z_bret dX6_isWord_55 rfl (Or.inl rfl) ⟨rfl, ?_⟩
              refine z_q0 kq ?_
              first | (have q := tw_0 (T := T) (L := L) (p := p) (by omega); omega) | (have q := tw_grind (T := T) (L := L) (p := p) (by omega); omega)
        · skip
          refine z_iconst (0) dX6_isWord_54 rfl ?_
          refine z_bret dX6_isWord_55 rfl (Or.inl rfl) ⟨rfl, ?_⟩
          refine z_q0 kq ?_
          first | (have q := tw_0 (T := T) (L := L) (p := p) (by omega); omega) | (have q := tw_grind (T := T) (L := L) (p := p) (by omega); omega)
    · skip
      refine z_iconst (0) dX6_isWord_23 rfl ?_
      refine z_bret dX6_isWord_24 rfl (Or.inl rfl) ⟨rfl, ?_⟩
      refine z_q0 kq ?_
      first | (have q := tw_0 (T := T) (L := L) (p := p) (by omega); omega) | (have q := tw_grind (T := T) (L := L) (p := p) (by omega); omega)
set_option maxHeartbeats 1000000 in
theorem zp_X6_isWord_oil {ad : mA} {dd : Nat} {h : mH} {Q : mQ} {y : Nat} {T : Int → Int} {L p : Int} (hk : rdk h y) (HT : rdT h y T L) (HP : rdP h y T L p) (HA : adK ad)   (kq : Q (some (.int (zI (bZ (tkW T L p = 7301484))))) h) : mCal TB0 ad (dd + 6) M_X6_isWord [.ref y, .ref (ad.1 13)] h 0 0 Q := by
  refine ⟨Nat.le_of_ble_eq_true rfl, ?_⟩
  show mEv TB0 ad M_X6_isWord (dd + 6) (0, 0) (mCal TB0 ad (dd + 5)) (fun v h' z => z.1 = 0 ∧ Q v h') 0 [some (.ref y), some (.ref (ad.1 13)), none] [] h (0, 0)
  have w1 := HT.1
  have w2 := tk_b (T := T) HP.1.1 HP.1.2
  have z0 : T (tkS T L p + 0) = T (tkS T L p) := by rw [Int.add_zero]
  refine e_aload_n dX6_isWord_0 rfl ?_
  refine z_get (tkK T L p) dX6_isWord_1 tf_6_53 (congrArg Prod.fst (rd_s0 hk)) (Or.inl rfl) HP.2.2.1 ?_
  have y1 := tk_b (T := T) HP.1.1 HP.1.2
  have y2 := HP.1
  refine z_if_ne 23 dX6_isWord_4 rfl ⟨by omega, by omega⟩ (fun c3 => ?_) (fun c3 => ?_)
  · skip
    refine z_iconst (0) dX6_isWord_23 rfl ?_
    refine z_bret dX6_isWord_24 rfl (Or.inl rfl) ⟨rfl, ?_⟩
    refine z_q0 kq ?_
    first | (have q := tw_0 (T := T) (L := L) (p := p) (by omega); omega) | (have q := tw_oil (T := T) (L := L) (p := p) (by omega); omega)
  · skip
    refine e_aload_n dX6_isWord_7 rfl ?_
    refine z_get (tkE T L p) dX6_isWord_8 tf_6_50 (congrArg Prod.fst (rd_s0 hk)) (Or.inl rfl) HP.2.1 ?_
    have y4 := tk_b (T := T) HP.1.1 HP.1.2
    have y5 := HP.1
    refine e_aload_n dX6_isWord_11 rfl ?_
    refine z_get (tkS T L p) dX6_isWord_12 tf_6_56 (congrArg Prod.fst (rd_s0 hk)) (Or.inl rfl) HP.2.2.2.1 ?_
    have y6 := tk_b (T := T) HP.1.1 HP.1.2
    have y7 := HP.1
    refine z_isub dX6_isWord_15 ?_
    refine e_aload_n dX6_isWord_16 rfl ?_
    refine z_slen 3 dX6_isWord_17 tm_6_245 (Nat.le_of_ble_eq_true rfl) (by decide) (HA 13 (by decide)).1 (by omega) (by decide) ?_
    refine z_icmp_eq 25 dX6_isWord_20 rfl ⟨by omega, by omega⟩ ⟨by omega, by omega⟩ (fun c8 => ?_) (fun c8 => ?_)
    · skip
      refine z_iconst (0) dX6_isWord_25 rfl ?_
      refine e_istore_n (L' := [_, _, _]) dX6_isWord_26 (Nat.le_of_ble_eq_true rfl) rfl ?_
      refine e_iload_n dX6_isWord_27 rfl ?_
      refine e_aload_n dX6_isWord_28 rfl ?_
      refine z_slen 3 dX6_isWord_29 tm_6_245 (Nat.le_of_ble_eq_true rfl) (by decide) (HA 13 (by decide)).1 (by omega) (by decide) ?_
      refine z_icmp_ge 62 dX6_isWord_32 rfl ⟨by omega, by omega⟩ ⟨by omega, by omega⟩ (fun c9 => ?_) (fun c9 => ?_)
      · exfalso; omega
      · skip
        refine e_aload_n dX6_isWord_35 rfl ?_
        refine e_get (.ref (y + 25)) dX6_isWord_36 tf_6_39 (congrArg Prod.fst (rd_s0 hk)) (congrArg va_rf (rd_r0_5 hk)) ?_
        refine e_aload_n dX6_isWord_39 rfl ?_
        refine z_get (tkS T L p) dX6_isWord_40 tf_6_56 (congrArg Prod.fst (rd_s0 hk)) (Or.inl rfl) HP.2.2.2.1 ?_
        have y10 := tk_b (T := T) HP.1.1 HP.1.2
        have y11 := HP.1
        refine e_iload_n dX6_isWord_43 rfl ?_
        refine z_iadd dX6_isWord_44 ?_
        refine z_bld (T ((tkS T L p) + 0)) dX6_isWord_45 (rd_s25 hk) (by decide) (by omega) (by omega) (HT.2.2.1 ((tkS T L p) + 0) (by omega) (by omega)) ?_
        have y12 := HT.2.2.2 ((tkS T L p) + 0) (by omega) (by omega)
        refine e_aload_n dX6_isWord_46 rfl ?_
        refine e_iload_n dX6_isWord_47 rfl ?_
        refine z_sat 111 dX6_isWord_48 tm_6_249 (Nat.le_of_ble_eq_true rfl) (by decide) (HA 13 (by decide)).1 (by decide) (by decide) (by decide) (by rw [(HA 13 (by decide)).2]; decide) (by omega) ?_
        refine z_icmp_eq 56 dX6_isWord_51 rfl ⟨by omega, by omega⟩ ⟨by omega, by omega⟩ (fun c13 => ?_) (fun c13 => ?_)
        · skip
          refine z_iinc (L' := [_, _, _]) dX6_isWord_56 rfl rfl ?_
          refine e_goto 27 dX6_isWord_59 rfl ?_
          refine e_iload_n dX6_isWord_27 rfl ?_
          refine e_aload_n dX6_isWord_28 rfl ?_
          refine z_slen 3 dX6_isWord_29 tm_6_245 (Nat.le_of_ble_eq_true rfl) (by decide) (HA 13 (by decide)).1 (by omega) (by decide) ?_
          refine z_icmp_ge 62 dX6_isWord_32 rfl ⟨by omega, by omega⟩ ⟨by omega, by omega⟩ (fun c14 => ?_) (fun c14 => ?_)
          · exfalso; omega
          · skip
            refine e_aload_n dX6_isWord_35 rfl ?_
            refine e_get (.ref (y + 25)) dX6_isWord_36 tf_6_39 (congrArg Prod.fst (rd_s0 hk)) (congrArg va_rf (rd_r0_5 hk)) ?_
            refine e_aload_n dX6_isWord_39 rfl ?_
            refine z_get (tkS T L p) dX6_isWord_40 tf_6_56 (congrArg Prod.fst (rd_s0 hk)) (Or.inl rfl) HP.2.2.2.1 ?_
            have y15 := tk_b (T := T) HP.1.1 HP.1.2
            have y16 := HP.1
            refine e_iload_n dX6_isWord_43 rfl ?_
            refine z_iadd dX6_isWord_44 ?_
            refine z_bld (T ((tkS T L p) + 1)) dX6_isWord_45 (rd_s25 hk) (by decide) (by omega) (by omega) (HT.2.2.1 ((tkS T L p) + 1) (by omega) (by omega)) ?_
            have y17 := HT.2.2.2 ((tkS T L p) + 1) (by omega) (by omega)
            refine e_aload_n dX6_isWord_46 rfl ?_
            refine e_iload_n dX6_isWord_47 rfl ?_
            refine z_sat 105 dX6_isWord_48 tm_6_249 (Nat.le_of_ble_eq_true rfl) (by decide) (HA 13 (by decide)).1 (by decide) (by decide) (by decide) (by rw [(HA 13 (by decide)).2]; decide) (by omega) ?_
            refine z_icmp_eq 56 dX6_isWord_51 rfl ⟨by omega, by omega⟩ ⟨by omega, by omega⟩ (fun c18 => ?_) (fun c18 => ?_)
            · skip
              refine z_iinc (L' := [_, _, _]) dX6_isWord_56 rfl rfl ?_
              refine e_goto 27 dX6_isWord_59 rfl ?_
              refine e_iload_n dX6_isWord_27 rfl ?_
              refine e_aload_n dX6_isWord_28 rfl ?_
              refine z_slen 3 dX6_isWord_29 tm_6_245 (Nat.le_of_ble_eq_true rfl) (by decide) (HA 13 (by decide)).1 (by omega) (by decide) ?_
              refine z_icmp_ge 62 dX6_isWord_32 rfl ⟨by omega, by omega⟩ ⟨by omega, by omega⟩ (fun c19 => ?_) (fun c19 => ?_)
              · exfalso; omega
              · skip
                refine e_aload_n dX6_isWord_35 rfl ?_
                refine e_get (.ref (y + 25)) dX6_isWord_36 tf_6_39 (congrArg Prod.fst (rd_s0 hk)) (congrArg va_rf (rd_r0_5 hk)) ?_
                refine e_aload_n dX6_isWord_39 rfl ?_
                refine z_get (tkS T L p) dX6_isWord_40 tf_6_56 (congrArg Prod.fst (rd_s0 hk)) (Or.inl rfl) HP.2.2.2.1 ?_
                have y20 := tk_b (T := T) HP.1.1 HP.1.2
                have y21 := HP.1
                refine e_iload_n dX6_isWord_43 rfl ?_
                refine z_iadd dX6_isWord_44 ?_
                refine z_bld (T ((tkS T L p) + 2)) dX6_isWord_45 (rd_s25 hk) (by decide) (by omega) (by omega) (HT.2.2.1 ((tkS T L p) + 2) (by omega) (by omega)) ?_
                have y22 := HT.2.2.2 ((tkS T L p) + 2) (by omega) (by omega)
                refine e_aload_n dX6_isWord_46 rfl ?_
                refine e_iload_n dX6_isWord_47 rfl ?_
                refine z_sat 108 dX6_isWord_48 tm_6_249 (Nat.le_of_ble_eq_true rfl) (by decide) (HA 13 (by decide)).1 (by decide) (by decide) (by decide) (by rw [(HA 13 (by decide)).2]; decide) (by omega) ?_
                refine z_icmp_eq 56 dX6_isWord_51 rfl ⟨by omega, by omega⟩ ⟨by omega, by omega⟩ (fun c23 => ?_) (fun c23 => ?_)
                · skip
                  refine z_iinc (L' := [_, _, _]) dX6_isWord_56 rfl rfl ?_
                  refine e_goto 27 dX6_isWord_59 rfl ?_
                  refine e_iload_n dX6_isWord_27 rfl ?_
                  refine e_aload_n dX6_isWord_28 rfl ?_
                  refine z_slen 3 dX6_isWord_29 tm_6_245 (Nat.le_of_ble_eq_true rfl) (by decide) (HA 13 (by decide)).1 (by omega) (by decide) ?_
                  refine z_icmp_ge 62 dX6_isWord_32 rfl ⟨by omega, by omega⟩ ⟨by omega, by omega⟩ (fun c24 => ?_) (fun c24 => ?_)
                  · skip
                    refine z_iconst (1) dX6_isWord_62 rfl ?_
                    refine z_bret dX6_isWord_63 rfl (Or.inr rfl) ⟨rfl, ?_⟩
                    refine z_q1 kq ?_
                    first | (have q := tw_0 (T := T) (L := L) (p := p) (by omega); omega) | (have q := tw_oil (T := T) (L := L) (p := p) (by omega); omega)
                  · exfalso; omega
                · skip
                  refine z_iconst (0) dX6_isWord_54 rfl ?_
                  refine z_bret dX6_isWord_55 rfl (Or.inl rfl) ⟨rfl, ?_⟩
                  refine z_q0 kq ?_
                  first | (have q := tw_0 (T := T) (L := L) (p := p) (by omega); omega) | (have q := tw_oil (T := T) (L := L) (p := p) (by omega); omega)
            · skip
              refine z_iconst (0) dX6_isWord_54 rfl ?_
              refine z_bret dX6_isWord_55 rfl (Or.inl rfl) ⟨rfl, ?_⟩
              refine z_q0 kq ?_
              first | (have q := tw_0 (T := T) (L := L) (p := p) (by omega); omega) | (have q := tw_oil (T := T) (L := L) (p := p) (by omega); omega)
        · skip
          refine z_iconst (0) dX6_isWord_54 rfl ?_
          refine z_bret dX6_isWord_55 rfl (Or.inl rfl) ⟨rfl, ?_⟩
          refine z_q0 kq ?_
          first | (have q := tw_0 (T := T) (L := L) (p := p) (by omega); omega) | (have q := tw_oil (T := T) (L := L) (p := p) (by omega); omega)
    · skip
      refine z_iconst (0) dX6_isWord_23 rfl ?_
      refine z_bret dX6_isWord_24 rfl (Or.inl rfl) ⟨rfl, ?_⟩
      refine z_q0 kq ?_
      first | (have q := tw_0 (T := T) (L := L) (p := p) (by omega); omega) | (have q := tw_oil (T := T) (L := L) (p := p) (by omega); omega)
set_option maxHeartbeats 1000000 in
theorem zp_X6_isWord_day {ad : mA} {dd : Nat} {h : mH} {Q : mQ} {y : Nat} {T : Int → Int} {L p : Int} (hk : rdk h y) (HT : rdT h y T L) (HP : rdP h y T L p) (HA : adK ad)   (kq : Q (some (.int (zI (bZ (tkW T L p = 6578553))))) h) : mCal TB0 ad (dd + 6) M_X6_isWord [.ref y, .ref (ad.1 14)] h 0 0 Q := by
  refine ⟨Nat.le_of_ble_eq_true rfl, ?_⟩
  show mEv TB0 ad M_X6_isWord (dd + 6) (0, 0) (mCal TB0 ad (dd + 5)) (fun v h' z => z.1 = 0 ∧ Q v h') 0 [some (.ref y), some (.ref (ad.1 14)), none] [] h (0, 0)
  have w1 := HT.1
  have w2 := tk_b (T := T) HP.1.1 HP.1.2
  have z0 : T (tkS T L p + 0) = T (tkS T L p) := by rw [Int.add_zero]
  refine e_aload_n dX6_isWord_0 rfl ?_
  refine z_get (tkK T L p) dX6_isWord_1 tf_6_53 (congrArg Prod.fst (rd_s0 hk)) (Or.inl rfl) HP.2.2.1 ?_
  have y1 := tk_b (T := T) HP.1.1 HP.1.2
  have y2 := HP.1
  refine z_if_ne 23 dX6_isWord_4 rfl ⟨by omega, by omega⟩ (fun c3 => ?_) (fun c3 => ?_)
  · skip
    refine z_iconst (0) dX6_isWord_23 rfl ?_
    refine z_bret dX6_isWord_24 rfl (Or.inl rfl) ⟨rfl, ?_⟩
    refine z_q0 kq ?_
    first | (have q := tw_0 (T := T) (L := L) (p := p) (by omega); omega) | (have q := tw_day (T := T) (L := L) (p := p) (by omega); omega)
  · skip
    refine e_aload_n dX6_isWord_7 rfl ?_
    refine z_get (tkE T L p) dX6_isWord_8 tf_6_50 (congrArg Prod.fst (rd_s0 hk)) (Or.inl rfl) HP.2.1 ?_
    have y4 := tk_b (T := T) HP.1.1 HP.1.2
    have y5 := HP.1
    refine e_aload_n dX6_isWord_11 rfl ?_
    refine z_get (tkS T L p) dX6_isWord_12 tf_6_56 (congrArg Prod.fst (rd_s0 hk)) (Or.inl rfl) HP.2.2.2.1 ?_
    have y6 := tk_b (T := T) HP.1.1 HP.1.2
    have y7 := HP.1
    refine z_isub dX6_isWord_15 ?_
    refine e_aload_n dX6_isWord_16 rfl ?_
    refine z_slen 3 dX6_isWord_17 tm_6_245 (Nat.le_of_ble_eq_true rfl) (by decide) (HA 14 (by decide)).1 (by omega) (by decide) ?_
    refine z_icmp_eq 25 dX6_isWord_20 rfl ⟨by omega, by omega⟩ ⟨by omega, by omega⟩ (fun c8 => ?_) (fun c8 => ?_)
    · skip
      refine z_iconst (0) dX6_isWord_25 rfl ?_
      refine e_istore_n (L' := [_, _, _]) dX6_isWord_26 (Nat.le_of_ble_eq_true rfl) rfl ?_
      refine e_iload_n dX6_isWord_27 rfl ?_
      refine e_aload_n dX6_isWord_28 rfl ?_
      refine z_slen 3 dX6_isWord_29 tm_6_245 (Nat.le_of_ble_eq_true rfl) (by decide) (HA 14 (by decide)).1 (by omega) (by decide) ?_
      refine z_icmp_ge 62 dX6_isWord_32 rfl ⟨by omega, by omega⟩ ⟨by omega, by omega⟩ (fun c9 => ?_) (fun c9 => ?_)
      · exfalso; omega
      · skip
        refine e_aload_n dX6_isWord_35 rfl ?_
        refine e_get (.ref (y + 25)) dX6_isWord_36 tf_6_39 (congrArg Prod.fst (rd_s0 hk)) (congrArg va_rf (rd_r0_5 hk)) ?_
        refine e_aload_n dX6_isWord_39 rfl ?_
        refine z_get (tkS T L p) dX6_isWord_40 tf_6_56 (congrArg Prod.fst (rd_s0 hk)) (Or.inl rfl) HP.2.2.2.1 ?_
        have y10 := tk_b (T := T) HP.1.1 HP.1.2
        have y11 := HP.1
        refine e_iload_n dX6_isWord_43 rfl ?_
        refine z_iadd dX6_isWord_44 ?_
        refine z_bld (T ((tkS T L p) + 0)) dX6_isWord_45 (rd_s25 hk) (by decide) (by omega) (by omega) (HT.2.2.1 ((tkS T L p) + 0) (by omega) (by omega)) ?_
        have y12 := HT.2.2.2 ((tkS T L p) + 0) (by omega) (by omega)
        refine e_aload_n dX6_isWord_46 rfl ?_
        refine e_iload_n dX6_isWord_47 rfl ?_
        refine z_sat 100 dX6_isWord_48 tm_6_249 (Nat.le_of_ble_eq_true rfl) (by decide) (HA 14 (by decide)).1 (by decide) (by decide) (by decide) (by rw [(HA 14 (by decide)).2]; decide) (by omega) ?_
        refine z_icmp_eq 56 dX6_isWord_51 rfl ⟨by omega, by omega⟩ ⟨by omega, by omega⟩ (fun c13 => ?_) (fun c13 => ?_)
        · skip
          refine z_iinc (L' := [_, _, _]) dX6_isWord_56 rfl rfl ?_
          refine e_goto 27 dX6_isWord_59 rfl ?_
          refine e_iload_n dX6_isWord_27 rfl ?_
          refine e_aload_n dX6_isWord_28 rfl ?_
          refine z_slen 3 dX6_isWord_29 tm_6_245 (Nat.le_of_ble_eq_true rfl) (by decide) (HA 14 (by decide)).1 (by omega) (by decide) ?_
          refine z_icmp_ge 62 dX6_isWord_32 rfl ⟨by omega, by omega⟩ ⟨by omega, by omega⟩ (fun c14 => ?_) (fun c14 => ?_)
          · exfalso; omega
          · skip
            refine e_aload_n dX6_isWord_35 rfl ?_
            refine e_get (.ref (y + 25)) dX6_isWord_36 tf_6_39 (congrArg Prod.fst (rd_s0 hk)) (congrArg va_rf (rd_r0_5 hk)) ?_
            refine e_aload_n dX6_isWord_39 rfl ?_
            refine z_get (tkS T L p) dX6_isWord_40 tf_6_56 (congrArg Prod.fst (rd_s0 hk)) (Or.inl rfl) HP.2.2.2.1 ?_
            have y15 := tk_b (T := T) HP.1.1 HP.1.2
            have y16 := HP.1
            refine e_iload_n dX6_isWord_43 rfl ?_
            refine z_iadd dX6_isWord_44 ?_
            refine z_bld (T ((tkS T L p) + 1)) dX6_isWord_45 (rd_s25 hk) (by decide) (by omega) (by omega) (HT.2.2.1 ((tkS T L p) + 1) (by omega) (by omega)) ?_
            have y17 := HT.2.2.2 ((tkS T L p) + 1) (by omega) (by omega)
            refine e_aload_n dX6_isWord_46 rfl ?_
            refine e_iload_n dX6_isWord_47 rfl ?_
            refine z_sat 97 dX6_isWord_48 tm_6_249 (Nat.le_of_ble_eq_true rfl) (by decide) (HA 14 (by decide)).1 (by decide) (by decide) (by decide) (by rw [(HA 14 (by decide)).2]; decide) (by omega) ?_
            refine z_icmp_eq 56 dX6_isWord_51 rfl ⟨by omega, by omega⟩ ⟨by omega, by omega⟩ (fun c18 => ?_) (fun c18 => ?_)
            · skip
              refine z_iinc (L' := [_, _, _]) dX6_isWord_56 rfl rfl ?_
              refine e_goto 27 dX6_isWord_59 rfl ?_
              refine e_iload_n dX6_isWord_27 rfl ?_
              refine e_aload_n dX6_isWord_28 rfl ?_
              refine z_slen 3 dX6_isWord_29 tm_6_245 (Nat.le_of_ble_eq_true rfl) (by decide) (HA 14 (by decide)).1 (by omega) (by decide) ?_
              refine z_icmp_ge 62 dX6_isWord_32 rfl ⟨by omega, by omega⟩ ⟨by omega, by omega⟩ (fun c19 => ?_) (fun c19 => ?_)
              · exfalso; omega
              · skip
                refine e_aload_n dX6_isWord_35 rfl ?_
                refine e_get (.ref (y + 25)) dX6_isWord_36 tf_6_39 (congrArg Prod.fst (rd_s0 hk)) (congrArg va_rf (rd_r0_5 hk)) ?_
                refine e_aload_n dX6_isWord_39 rfl ?_
                refine z_get (tkS T L p) dX6_isWord_40 tf_6_56 (congrArg Prod.fst (rd_s0 hk)) (Or.inl rfl) HP.2.2.2.1 ?_
                have y20 := tk_b (T := T) HP.1.1 HP.1.2
                have y21 := HP.1
                refine e_iload_n dX6_isWord_43 rfl ?_
                refine z_iadd dX6_isWord_44 ?_
                refine z_bld (T ((tkS T L p) + 2)) dX6_isWord_45 (rd_s25 hk) (by decide) (by omega) (by omega) (HT.2.2.1 ((tkS T L p) + 2) (by omega) (by omega)) ?_
                have y22 := HT.2.2.2 ((tkS T L p) + 2) (by omega) (by omega)
                refine e_aload_n dX6_isWord_46 rfl ?_
                refine e_iload_n dX6_isWord_47 rfl ?_
                refine z_sat 121 dX6_isWord_48 tm_6_249 (Nat.le_of_ble_eq_true rfl) (by decide) (HA 14 (by decide)).1 (by decide) (by decide) (by decide) (by rw [(HA 14 (by decide)).2]; decide) (by omega) ?_
                refine z_icmp_eq 56 dX6_isWord_51 rfl ⟨by omega, by omega⟩ ⟨by omega, by omega⟩ (fun c23 => ?_) (fun c23 => ?_)
                · skip
                  refine z_iinc (L' := [_, _, _]) dX6_isWord_56 rfl rfl ?_
                  refine e_goto 27 dX6_isWord_59 rfl ?_
                  refine e_iload_n dX6_isWord_27 rfl ?_
                  refine e_aload_n dX6_isWord_28 rfl ?_
                  refine z_slen 3 dX6_isWord_29 tm_6_245 (Nat.le_of_ble_eq_true rfl) (by decide) (HA 14 (by decide)).1 (by omega) (by decide) ?_
                  refine z_icmp_ge 62 dX6_isWord_32 rfl ⟨by omega, by omega⟩ ⟨by omega, by omega⟩ (fun c24 => ?_) (fun c24 => ?_)
                  · skip
                    refine z_iconst (1) dX6_isWord_62 rfl ?_
                    refine z_bret dX6_isWord_63 rfl (Or.inr rfl) ⟨rfl, ?_⟩
                    refine z_q1 kq ?_
                    first | (have q := tw_0 (T := T) (L := L) (p := p) (by omega); omega) | (have q := tw_day (T := T) (L := L) (p := p) (by omega); omega)
                  · exfalso; omega
                · skip
                  refine z_iconst (0) dX6_isWord_54 rfl ?_
                  refine z_bret dX6_isWord_55 rfl (Or.inl rfl) ⟨rfl, ?_⟩
                  refine z_q0 kq ?_
                  first | (have q := tw_0 (T := T) (L := L) (p := p) (by omega); omega) | (have q := tw_day (T := T) (L := L) (p := p) (by omega); omega)
            · skip
              refine z_iconst (0) dX6_isWord_54 rfl ?_
              refine z_bret dX6_isWord_55 rfl (Or.inl rfl) ⟨rfl, ?_⟩
              refine z_q0 kq ?_
              first | (have q := tw_0 (T := T) (L := L) (p := p) (by omega); omega) | (have q := tw_day (T := T) (L := L) (p := p) (by omega); omega)
        · skip
          refine z_iconst (0) dX6_isWord_54 rfl ?_
          refine z_bret dX6_isWord_55 rfl (Or.inl rfl) ⟨rfl, ?_⟩
          refine z_q0 kq ?_
          first | (have q := tw_0 (T := T) (L := L) (p := p) (by omega); omega) | (have q := tw_day (T := T) (L := L) (p := p) (by omega); omega)
    · skip
      refine z_iconst (0) dX6_isWord_23 rfl ?_
      refine z_bret dX6_isWord_24 rfl (Or.inl rfl) ⟨rfl, ?_⟩
      refine z_q0 kq ?_
      first | (have q := tw_0 (T := T) (L := L) (p := p) (by omega); omega) | (have q := tw_day (T := T) (L := L) (p := p) (by omega); omega)
set_option maxHeartbeats 1000000 in
theorem zp_X6_isWord_no {ad : mA} {dd : Nat} {h : mH} {Q : mQ} {y : Nat} {T : Int → Int} {L p : Int} (hk : rdk h y) (HT : rdT h y T L) (HP : rdP h y T L p) (HA : adK ad)   (kq : Q (some (.int (zI (bZ (tkW T L p = 28271))))) h) : mCal TB0 ad (dd + 6) M_X6_isWord [.ref y, .ref (ad.1 15)] h 0 0 Q := by
  refine ⟨Nat.le_of_ble_eq_true rfl, ?_⟩
  show mEv TB0 ad M_X6_isWord (dd + 6) (0, 0) (mCal TB0 ad (dd + 5)) (fun v h' z => z.1 = 0 ∧ Q v h') 0 [some (.ref y), some (.ref (ad.1 15)), none] [] h (0, 0)
  have w1 := HT.1
  have w2 := tk_b (T := T) HP.1.1 HP.1.2
  have z0 : T (tkS T L p + 0) = T (tkS T L p) := by rw [Int.add_zero]
  refine e_aload_n dX6_isWord_0 rfl ?_
  refine z_get (tkK T L p) dX6_isWord_1 tf_6_53 (congrArg Prod.fst (rd_s0 hk)) (Or.inl rfl) HP.2.2.1 ?_
  have y1 := tk_b (T := T) HP.1.1 HP.1.2
  have y2 := HP.1
  refine z_if_ne 23 dX6_isWord_4 rfl ⟨by omega, by omega⟩ (fun c3 => ?_) (fun c3 => ?_)
  · skip
    refine z_iconst (0) dX6_isWord_23 rfl ?_
    refine z_bret dX6_isWord_24 rfl (Or.inl rfl) ⟨rfl, ?_⟩
    refine z_q0 kq ?_
    first | (have q := tw_0 (T := T) (L := L) (p := p) (by omega); omega) | (have q := tw_no (T := T) (L := L) (p := p) (by omega); omega)
  · skip
    refine e_aload_n dX6_isWord_7 rfl ?_
    refine z_get (tkE T L p) dX6_isWord_8 tf_6_50 (congrArg Prod.fst (rd_s0 hk)) (Or.inl rfl) HP.2.1 ?_
    have y4 := tk_b (T := T) HP.1.1 HP.1.2
    have y5 := HP.1
    refine e_aload_n dX6_isWord_11 rfl ?_
    refine z_get (tkS T L p) dX6_isWord_12 tf_6_56 (congrArg Prod.fst (rd_s0 hk)) (Or.inl rfl) HP.2.2.2.1 ?_
    have y6 := tk_b (T := T) HP.1.1 HP.1.2
    have y7 := HP.1
    refine z_isub dX6_isWord_15 ?_
    refine e_aload_n dX6_isWord_16 rfl ?_
    refine z_slen 2 dX6_isWord_17 tm_6_245 (Nat.le_of_ble_eq_true rfl) (by decide) (HA 15 (by decide)).1 (by omega) (by decide) ?_
    refine z_icmp_eq 25 dX6_isWord_20 rfl ⟨by omega, by omega⟩ ⟨by omega, by omega⟩ (fun c8 => ?_) (fun c8 => ?_)
    · skip
      refine z_iconst (0) dX6_isWord_25 rfl ?_
      refine e_istore_n (L' := [_, _, _]) dX6_isWord_26 (Nat.le_of_ble_eq_true rfl) rfl ?_
      refine e_iload_n dX6_isWord_27 rfl ?_
      refine e_aload_n dX6_isWord_28 rfl ?_
      refine z_slen 2 dX6_isWord_29 tm_6_245 (Nat.le_of_ble_eq_true rfl) (by decide) (HA 15 (by decide)).1 (by omega) (by decide) ?_
      refine z_icmp_ge 62 dX6_isWord_32 rfl ⟨by omega, by omega⟩ ⟨by omega, by omega⟩ (fun c9 => ?_) (fun c9 => ?_)
      · exfalso; omega
      · skip
        refine e_aload_n dX6_isWord_35 rfl ?_
        refine e_get (.ref (y + 25)) dX6_isWord_36 tf_6_39 (congrArg Prod.fst (rd_s0 hk)) (congrArg va_rf (rd_r0_5 hk)) ?_
        refine e_aload_n dX6_isWord_39 rfl ?_
        refine z_get (tkS T L p) dX6_isWord_40 tf_6_56 (congrArg Prod.fst (rd_s0 hk)) (Or.inl rfl) HP.2.2.2.1 ?_
        have y10 := tk_b (T := T) HP.1.1 HP.1.2
        have y11 := HP.1
        refine e_iload_n dX6_isWord_43 rfl ?_
        refine z_iadd dX6_isWord_44 ?_
        refine z_bld (T ((tkS T L p) + 0)) dX6_isWord_45 (rd_s25 hk) (by decide) (by omega) (by omega) (HT.2.2.1 ((tkS T L p) + 0) (by omega) (by omega)) ?_
        have y12 := HT.2.2.2 ((tkS T L p) + 0) (by omega) (by omega)
        refine e_aload_n dX6_isWord_46 rfl ?_
        refine e_iload_n dX6_isWord_47 rfl ?_
        refine z_sat 110 dX6_isWord_48 tm_6_249 (Nat.le_of_ble_eq_true rfl) (by decide) (HA 15 (by decide)).1 (by decide) (by decide) (by decide) (by rw [(HA 15 (by decide)).2]; decide) (by omega) ?_
        refine z_icmp_eq 56 dX6_isWord_51 rfl ⟨by omega, by omega⟩ ⟨by omega, by omega⟩ (fun c13 => ?_) (fun c13 => ?_)
        · skip
          refine z_iinc (L' := [_, _, _]) dX6_isWord_56 rfl rfl ?_
          refine e_goto 27 dX6_isWord_59 rfl ?_
          refine e_iload_n dX6_isWord_27 rfl ?_
          refine e_aload_n dX6_isWord_28 rfl ?_
          refine z_slen 2 dX6_isWord_29 tm_6_245 (Nat.le_of_ble_eq_true rfl) (by decide) (HA 15 (by decide)).1 (by omega) (by decide) ?_
          refine z_icmp_ge 62 dX6_isWord_32 rfl ⟨by omega, by omega⟩ ⟨by omega, by omega⟩ (fun c14 => ?_) (fun c14 => ?_)
          · exfalso; omega
          · skip
            refine e_aload_n dX6_isWord_35 rfl ?_
            refine e_get (.ref (y + 25)) dX6_isWord_36 tf_6_39 (congrArg Prod.fst (rd_s0 hk)) (congrArg va_rf (rd_r0_5 hk)) ?_
            refine e_aload_n dX6_isWord_39 rfl ?_
            refine z_get (tkS T L p) dX6_isWord_40 tf_6_56 (congrArg Prod.fst (rd_s0 hk)) (Or.inl rfl) HP.2.2.2.1 ?_
            have y15 := tk_b (T := T) HP.1.1 HP.1.2
            have y16 := HP.1
            refine e_iload_n dX6_isWord_43 rfl ?_
            refine z_iadd dX6_isWord_44 ?_
            refine z_bld (T ((tkS T L p) + 1)) dX6_isWord_45 (rd_s25 hk) (by decide) (by omega) (by omega) (HT.2.2.1 ((tkS T L p) + 1) (by omega) (by omega)) ?_
            have y17 := HT.2.2.2 ((tkS T L p) + 1) (by omega) (by omega)
            refine e_aload_n dX6_isWord_46 rfl ?_
            refine e_iload_n dX6_isWord_47 rfl ?_
            refine z_sat 111 dX6_isWord_48 tm_6_249 (Nat.le_of_ble_eq_true rfl) (by decide) (HA 15 (by decide)).1 (by decide) (by decide) (by decide) (by rw [(HA 15 (by decide)).2]; decide) (by omega) ?_
            refine z_icmp_eq 56 dX6_isWord_51 rfl ⟨by omega, by omega⟩ ⟨by omega, by omega⟩ (fun c18 => ?_) (fun c18 => ?_)
            · skip
              refine z_iinc (L' := [_, _, _]) dX6_isWord_56 rfl rfl ?_
              refine e_goto 27 dX6_isWord_59 rfl ?_
              refine e_iload_n dX6_isWord_27 rfl ?_
              refine e_aload_n dX6_isWord_28 rfl ?_
              refine z_slen 2 dX6_isWord_29 tm_6_245 (Nat.le_of_ble_eq_true rfl) (by decide) (HA 15 (by decide)).1 (by omega) (by decide) ?_
              refine z_icmp_ge 62 dX6_isWord_32 rfl ⟨by omega, by omega⟩ ⟨by omega, by omega⟩ (fun c19 => ?_) (fun c19 => ?_)
              · skip
                refine z_iconst (1) dX6_isWord_62 rfl ?_
                refine z_bret dX6_isWord_63 rfl (Or.inr rfl) ⟨rfl, ?_⟩
                refine z_q1 kq ?_
                first | (have q := tw_0 (T := T) (L := L) (p := p) (by omega); omega) | (have q := tw_no (T := T) (L := L) (p := p) (by omega); omega)
              · exfalso; omega
            · skip
              refine z_iconst (0) dX6_isWord_54 rfl ?_
              refine z_bret dX6_isWord_55 rfl (Or.inl rfl) ⟨rfl, ?_⟩
              refine z_q0 kq ?_
              first | (have q := tw_0 (T := T) (L := L) (p := p) (by omega); omega) | (have q := tw_no (T := T) (L := L) (p := p) (by omega); omega)
        · skip
          refine z_iconst (0) dX6_isWord_54 rfl ?_
          refine z_bret dX6_isWord_55 rfl (Or.inl rfl) ⟨rfl, ?_⟩
          refine z_q0 kq ?_
          first | (have q := tw_0 (T := T) (L := L) (p := p) (by omega); omega) | (have q := tw_no (T := T) (L := L) (p := p) (by omega); omega)
    · skip
      refine z_iconst (0) dX6_isWord_23 rfl ?_
      refine z_bret dX6_isWord_24 rfl (Or.inl rfl) ⟨rfl, ?_⟩
      refine z_q0 kq ?_
      first | (have q := tw_0 (T := T) (L := L) (p := p) (by omega); omega) | (have q := tw_no (T := T) (L := L) (p := p) (by omega); omega)
set_option maxHeartbeats 1000000 in
theorem zp_X6_isWord_long {ad : mA} {dd : Nat} {h : mH} {Q : mQ} {y : Nat} {T : Int → Int} {L p : Int} (hk : rdk h y) (HT : rdT h y T L) (HP : rdP h y T L p) (HA : adK ad)   (kq : Q (some (.int (zI (bZ (tkW T L p = 1819242087))))) h) : mCal TB0 ad (dd + 6) M_X6_isWord [.ref y, .ref (ad.1 16)] h 0 0 Q := by
  refine ⟨Nat.le_of_ble_eq_true rfl, ?_⟩
  show mEv TB0 ad M_X6_isWord (dd + 6) (0, 0) (mCal TB0 ad (dd + 5)) (fun v h' z => z.1 = 0 ∧ Q v h') 0 [some (.ref y), some (.ref (ad.1 16)), none] [] h (0, 0)
  have w1 := HT.1
  have w2 := tk_b (T := T) HP.1.1 HP.1.2
  have z0 : T (tkS T L p + 0) = T (tkS T L p) := by rw [Int.add_zero]
  refine e_aload_n dX6_isWord_0 rfl ?_
  refine z_get (tkK T L p) dX6_isWord_1 tf_6_53 (congrArg Prod.fst (rd_s0 hk)) (Or.inl rfl) HP.2.2.1 ?_
  have y1 := tk_b (T := T) HP.1.1 HP.1.2
  have y2 := HP.1
  refine z_if_ne 23 dX6_isWord_4 rfl ⟨by omega, by omega⟩ (fun c3 => ?_) (fun c3 => ?_)
  · skip
    refine z_iconst (0) dX6_isWord_23 rfl ?_
    refine z_bret dX6_isWord_24 rfl (Or.inl rfl) ⟨rfl, ?_⟩
    refine z_q0 kq ?_
    first | (have q := tw_0 (T := T) (L := L) (p := p) (by omega); omega) | (have q := tw_long (T := T) (L := L) (p := p) (by omega); omega)
  · skip
    refine e_aload_n dX6_isWord_7 rfl ?_
    refine z_get (tkE T L p) dX6_isWord_8 tf_6_50 (congrArg Prod.fst (rd_s0 hk)) (Or.inl rfl) HP.2.1 ?_
    have y4 := tk_b (T := T) HP.1.1 HP.1.2
    have y5 := HP.1
    refine e_aload_n dX6_isWord_11 rfl ?_
    refine z_get (tkS T L p) dX6_isWord_12 tf_6_56 (congrArg Prod.fst (rd_s0 hk)) (Or.inl rfl) HP.2.2.2.1 ?_
    have y6 := tk_b (T := T) HP.1.1 HP.1.2
    have y7 := HP.1
    refine z_isub dX6_isWord_15 ?_
    refine e_aload_n dX6_isWord_16 rfl ?_
    refine z_slen 4 dX6_isWord_17 tm_6_245 (Nat.le_of_ble_eq_true rfl) (by decide) (HA 16 (by decide)).1 (by omega) (by decide) ?_
    refine z_icmp_eq 25 dX6_isWord_20 rfl ⟨by omega, by omega⟩ ⟨by omega, by omega⟩ (fun c8 => ?_) (fun c8 => ?_)
    · skip
      refine z_iconst (0) dX6_isWord_25 rfl ?_
      refine e_istore_n (L' := [_, _, _]) dX6_isWord_26 (Nat.le_of_ble_eq_true rfl) rfl ?_
      refine e_iload_n dX6_isWord_27 rfl ?_
      refine e_aload_n dX6_isWord_28 rfl ?_
      refine z_slen 4 dX6_isWord_29 tm_6_245 (Nat.le_of_ble_eq_true rfl) (by decide) (HA 16 (by decide)).1 (by omega) (by decide) ?_
      refine z_icmp_ge 62 dX6_isWord_32 rfl ⟨by omega, by omega⟩ ⟨by omega, by omega⟩ (fun c9 => ?_) (fun c9 => ?_)
      · exfalso; omega
      · skip
        refine e_aload_n dX6_isWord_35 rfl ?_
        refine e_get (.ref (y + 25)) dX6_isWord_36 tf_6_39 (congrArg Prod.fst (rd_s0 hk)) (congrArg va_rf (rd_r0_5 hk)) ?_
        refine e_aload_n dX6_isWord_39 rfl ?_
        refine z_get (tkS T L p) dX6_isWord_40 tf_6_56 (congrArg Prod.fst (rd_s0 hk)) (Or.inl rfl) HP.2.2.2.1 ?_
        have y10 := tk_b (T := T) HP.1.1 HP.1.2
        have y11 := HP.1
        refine e_iload_n dX6_isWord_43 rfl ?_
        refine z_iadd dX6_isWord_44 ?_
        refine z_bld (T ((tkS T L p) + 0)) dX6_isWord_45 (rd_s25 hk) (by decide) (by omega) (by omega) (HT.2.2.1 ((tkS T L p) + 0) (by omega) (by omega)) ?_
        have y12 := HT.2.2.2 ((tkS T L p) + 0) (by omega) (by omega)
        refine e_aload_n dX6_isWord_46 rfl ?_
        refine e_iload_n dX6_isWord_47 rfl ?_
        refine z_sat 108 dX6_isWord_48 tm_6_249 (Nat.le_of_ble_eq_true rfl) (by decide) (HA 16 (by decide)).1 (by decide) (by decide) (by decide) (by rw [(HA 16 (by decide)).2]; decide) (by omega) ?_
        refine z_icmp_eq 56 dX6_isWord_51 rfl ⟨by omega, by omega⟩ ⟨by omega, by omega⟩ (fun c13 => ?_) (fun c13 => ?_)
        · skip
          refine z_iinc (L' := [_, _, _]) dX6_isWord_56 rfl rfl ?_
          refine e_goto 27 dX6_isWord_59 rfl ?_
          refine e_iload_n dX6_isWord_27 rfl ?_
          refine e_aload_n dX6_isWord_28 rfl ?_
          refine z_slen 4 dX6_isWord_29 tm_6_245 (Nat.le_of_ble_eq_true rfl) (by decide) (HA 16 (by decide)).1 (by omega) (by decide) ?_
          refine z_icmp_ge 62 dX6_isWord_32 rfl ⟨by omega, by omega⟩ ⟨by omega, by omega⟩ (fun c14 => ?_) (fun c14 => ?_)
          · exfalso; omega
          · skip
            refine e_aload_n dX6_isWord_35 rfl ?_
            refine e_get (.ref (y + 25)) dX6_isWord_36 tf_6_39 (congrArg Prod.fst (rd_s0 hk)) (congrArg va_rf (rd_r0_5 hk)) ?_
            refine e_aload_n dX6_isWord_39 rfl ?_
            refine z_get (tkS T L p) dX6_isWord_40 tf_6_56 (congrArg Prod.fst (rd_s0 hk)) (Or.inl rfl) HP.2.2.2.1 ?_
            have y15 := tk_b (T := T) HP.1.1 HP.1.2
            have y16 := HP.1
            refine e_iload_n dX6_isWord_43 rfl ?_
            refine z_iadd dX6_isWord_44 ?_
            refine z_bld (T ((tkS T L p) + 1)) dX6_isWord_45 (rd_s25 hk) (by decide) (by omega) (by omega) (HT.2.2.1 ((tkS T L p) + 1) (by omega) (by omega)) ?_
            have y17 := HT.2.2.2 ((tkS T L p) + 1) (by omega) (by omega)
            refine e_aload_n dX6_isWord_46 rfl ?_
            refine e_iload_n dX6_isWord_47 rfl ?_
            refine z_sat 111 dX6_isWord_48 tm_6_249 (Nat.le_of_ble_eq_true rfl) (by decide) (HA 16 (by decide)).1 (by decide) (by decide) (by decide) (by rw [(HA 16 (by decide)).2]; decide) (by omega) ?_
            refine z_icmp_eq 56 dX6_isWord_51 rfl ⟨by omega, by omega⟩ ⟨by omega, by omega⟩ (fun c18 => ?_) (fun c18 => ?_)
            · skip
              refine z_iinc (L' := [_, _, _]) dX6_isWord_56 rfl rfl ?_
              refine e_goto 27 dX6_isWord_59 rfl ?_
              refine e_iload_n dX6_isWord_27 rfl ?_
              refine e_aload_n dX6_isWord_28 rfl ?_
              refine z_slen 4 dX6_isWord_29 tm_6_245 (Nat.le_of_ble_eq_true rfl) (by decide) (HA 16 (by decide)).1 (by omega) (by decide) ?_
              refine z_icmp_ge 62 dX6_isWord_32 rfl ⟨by omega, by omega⟩ ⟨by omega, by omega⟩ (fun c19 => ?_) (fun c19 => ?_)
              · exfalso; omega
              · skip
                refine e_aload_n dX6_isWord_35 rfl ?_
                refine e_get (.ref (y + 25)) dX6_isWord_36 tf_6_39 (congrArg Prod.fst (rd_s0 hk)) (congrArg va_rf (rd_r0_5 hk)) ?_
                refine e_aload_n dX6_isWord_39 rfl ?_
                refine z_get (tkS T L p) dX6_isWord_40 tf_6_56 (congrArg Prod.fst (rd_s0 hk)) (Or.inl rfl) HP.2.2.2.1 ?_
                have y20 := tk_b (T := T) HP.1.1 HP.1.2
                have y21 := HP.1
                refine e_iload_n dX6_isWord_43 rfl ?_
                refine z_iadd dX6_isWord_44 ?_
                refine z_bld (T ((tkS T L p) + 2)) dX6_isWord_45 (rd_s25 hk) (by decide) (by omega) (by omega) (HT.2.2.1 ((tkS T L p) + 2) (by omega) (by omega)) ?_
                have y22 := HT.2.2.2 ((tkS T L p) + 2) (by omega) (by omega)
                refine e_aload_n dX6_isWord_46 rfl ?_
                refine e_iload_n dX6_isWord_47 rfl ?_
                refine z_sat 110 dX6_isWord_48 tm_6_249 (Nat.le_of_ble_eq_true rfl) (by decide) (HA 16 (by decide)).1 (by decide) (by decide) (by decide) (by rw [(HA 16 (by decide)).2]; decide) (by omega) ?_
                refine z_icmp_eq 56 dX6_isWord_51 rfl ⟨by omega, by omega⟩ ⟨by omega, by omega⟩ (fun c23 => ?_) (fun c23 => ?_)
                · skip
                  refine z_iinc (L' := [_, _, _]) dX6_isWord_56 rfl rfl ?_
                  refine e_goto 27 dX6_isWord_59 rfl ?_
                  refine e_iload_n dX6_isWord_27 rfl ?_
                  refine e_aload_n dX6_isWord_28 rfl ?_
                  refine z_slen 4 dX6_isWord_29 tm_6_245 (Nat.le_of_ble_eq_true rfl) (by decide) (HA 16 (by decide)).1 (by omega) (by decide) ?_
                  refine z_icmp_ge 62 dX6_isWord_32 rfl ⟨by omega, by omega⟩ ⟨by omega, by omega⟩ (fun c24 => ?_) (fun c24 => ?_)
                  · exfalso; omega
                  · skip
                    refine e_aload_n dX6_isWord_35 rfl ?_
                    refine e_get (.ref (y + 25)) dX6_isWord_36 tf_6_39 (congrArg Prod.fst (rd_s0 hk)) (congrArg va_rf (rd_r0_5 hk)) ?_
                    refine e_aload_n dX6_isWord_39 rfl ?_
                    refine z_get (tkS T L p) dX6_isWord_40 tf_6_56 (congrArg Prod.fst (rd_s0 hk)) (Or.inl rfl) HP.2.2.2.1 ?_
                    have y25 := tk_b (T := T) HP.1.1 HP.1.2
                    have y26 := HP.1
                    refine e_iload_n dX6_isWord_43 rfl ?_
                    refine z_iadd dX6_isWord_44 ?_
                    refine z_bld (T ((tkS T L p) + 3)) dX6_isWord_45 (rd_s25 hk) (by decide) (by omega) (by omega) (HT.2.2.1 ((tkS T L p) + 3) (by omega) (by omega)) ?_
                    have y27 := HT.2.2.2 ((tkS T L p) + 3) (by omega) (by omega)
                    refine e_aload_n dX6_isWord_46 rfl ?_
                    refine e_iload_n dX6_isWord_47 rfl ?_
                    refine z_sat 103 dX6_isWord_48 tm_6_249 (Nat.le_of_ble_eq_true rfl) (by decide) (HA 16 (by decide)).1 (by decide) (by decide) (by decide) (by rw [(HA 16 (by decide)).2]; decide) (by omega) ?_
                    refine z_icmp_eq 56 dX6_isWord_51 rfl ⟨by omega, by omega⟩ ⟨by omega, by omega⟩ (fun c28 => ?_) (fun c28 => ?_)
                    · skip
                      refine z_iinc (L' := [_, _, _]) dX6_isWord_56 rfl rfl ?_
                      refine e_goto 27 dX6_isWord_59 rfl ?_
                      refine e_iload_n dX6_isWord_27 rfl ?_
                      refine e_aload_n dX6_isWord_28 rfl ?_
                      refine z_slen 4 dX6_isWord_29 tm_6_245 (Nat.le_of_ble_eq_true rfl) (by decide) (HA 16 (by decide)).1 (by omega) (by decide) ?_
                      refine z_icmp_ge 62 dX6_isWord_32 rfl ⟨by omega, by omega⟩ ⟨by omega, by omega⟩ (fun c29 => ?_) (fun c29 => ?_)
                      · skip
                        refine z_iconst (1) dX6_isWord_62 rfl ?_
                        refine z_bret dX6_isWord_63 rfl (Or.inr rfl) ⟨rfl, ?_⟩
                        refine z_q1 kq ?_
                        first | (have q := tw_0 (T := T) (L := L) (p := p) (by omega); omega) | (have q := tw_long (T := T) (L := L) (p := p) (by omega); omega)
                      · exfalso; omega
                    · skip
                      refine z_iconst (0) dX6_isWord_54 rfl ?_
                      refine z_bret dX6_isWord_55 rfl (Or.inl rfl) ⟨rfl, ?_⟩
                      refine z_q0 kq ?_
                      first | (have q := tw_0 (T := T) (L := L) (p := p) (by omega); omega) | (have q := tw_long (T := T) (L := L) (p := p) (by omega); omega)
                · skip
                  refine z_iconst (0) dX6_isWord_54 rfl ?_
                  refine z_bret dX6_isWord_55 rfl (Or.inl rfl) ⟨rfl, ?_⟩
                  refine z_q0 kq ?_
                  first | (have q := tw_0 (T := T) (L := L) (p := p) (by omega); omega) | (have q := tw_long (T := T) (L := L) (p := p) (by omega); omega)
            · skip
              refine z_iconst (0) dX6_isWord_54 rfl ?_
              refine z_bret dX6_isWord_55 rfl (Or.inl rfl) ⟨rfl, ?_⟩
              refine z_q0 kq ?_
              first | (have q := tw_0 (T := T) (L := L) (p := p) (by omega); omega) | (have q := tw_long (T := T) (L := L) (p := p) (by omega); omega)
        · skip
          refine z_iconst (0) dX6_isWord_54 rfl ?_
          refine z_bret dX6_isWord_55 rfl (Or.inl rfl) ⟨rfl, ?_⟩
          refine z_q0 kq ?_
          first | (have q := tw_0 (T := T) (L := L) (p := p) (by omega); omega) | (have q := tw_long (T := T) (L := L) (p := p) (by omega); omega)
    · skip
      refine z_iconst (0) dX6_isWord_23 rfl ?_
      refine z_bret dX6_isWord_24 rfl (Or.inl rfl) ⟨rfl, ?_⟩
      refine z_q0 kq ?_
      first | (have q := tw_0 (T := T) (L := L) (p := p) (by omega); omega) | (have q := tw_long (T := T) (L := L) (p := p) (by omega); omega)
set_option maxHeartbeats 1000000 in
theorem zp_X6_isWord_apart {ad : mA} {dd : Nat} {h : mH} {Q : mQ} {y : Nat} {T : Int → Int} {L p : Int} (hk : rdk h y) (HT : rdT h y T L) (HP : rdP h y T L p) (HA : adK ad)   (kq : Q (some (.int (zI (bZ (tkW T L p = 418497262196))))) h) : mCal TB0 ad (dd + 6) M_X6_isWord [.ref y, .ref (ad.1 17)] h 0 0 Q := by
  refine ⟨Nat.le_of_ble_eq_true rfl, ?_⟩
  show mEv TB0 ad M_X6_isWord (dd + 6) (0, 0) (mCal TB0 ad (dd + 5)) (fun v h' z => z.1 = 0 ∧ Q v h') 0 [some (.ref y), some (.ref (ad.1 17)), none] [] h (0, 0)
  have w1 := HT.1
  have w2 := tk_b (T := T) HP.1.1 HP.1.2
  have z0 : T (tkS T L p + 0) = T (tkS T L p) := by rw [Int.add_zero]
  refine e_aload_n dX6_isWord_0 rfl ?_
  refine z_get (tkK T L p) dX6_isWord_1 tf_6_53 (congrArg Prod.fst (rd_s0 hk)) (Or.inl rfl) HP.2.2.1 ?_
  have y1 := tk_b (T := T) HP.1.1 HP.1.2
  have y2 := HP.1
  refine z_if_ne 23 dX6_isWord_4 rfl ⟨by omega, by omega⟩ (fun c3 => ?_) (fun c3 => ?_)
  · skip
    refine z_iconst (0) dX6_isWord_23 rfl ?_
    refine z_bret dX6_isWord_24 rfl (Or.inl rfl) ⟨rfl, ?_⟩
    refine z_q0 kq ?_
    first | (have q := tw_0 (T := T) (L := L) (p := p) (by omega); omega) | (have q := tw_apart (T := T) (L := L) (p := p) (by omega); omega)
  · skip
    refine e_aload_n dX6_isWord_7 rfl ?_
    refine z_get (tkE T L p) dX6_isWord_8 tf_6_50 (congrArg Prod.fst (rd_s0 hk)) (Or.inl rfl) HP.2.1 ?_
    have y4 := tk_b (T := T) HP.1.1 HP.1.2
    have y5 := HP.1
    refine e_aload_n dX6_isWord_11 rfl ?_
    refine z_get (tkS T L p) dX6_isWord_12 tf_6_56 (congrArg Prod.fst (rd_s0 hk)) (Or.inl rfl) HP.2.2.2.1 ?_
    have y6 := tk_b (T := T) HP.1.1 HP.1.2
    have y7 := HP.1
    refine z_isub dX6_isWord_15 ?_
    refine e_aload_n dX6_isWord_16 rfl ?_
    refine z_slen 5 dX6_isWord_17 tm_6_245 (Nat.le_of_ble_eq_true rfl) (by decide) (HA 17 (by decide)).1 (by omega) (by decide) ?_
    refine z_icmp_eq 25 dX6_isWord_20 rfl ⟨by omega, by omega⟩ ⟨by omega, by omega⟩ (fun c8 => ?_) (fun c8 => ?_)
    · skip
      refine z_iconst (0) dX6_isWord_25 rfl ?_
      refine e_istore_n (L' := [_, _, _]) dX6_isWord_26 (Nat.le_of_ble_eq_true rfl) rfl ?_
      refine e_iload_n dX6_isWord_27 rfl ?_
      refine e_aload_n dX6_isWord_28 rfl ?_
      refine z_slen 5 dX6_isWord_29 tm_6_245 (Nat.le_of_ble_eq_true rfl) (by decide) (HA 17 (by decide)).1 (by omega) (by decide) ?_
      refine z_icmp_ge 62 dX6_isWord_32 rfl ⟨by omega, by omega⟩ ⟨by omega, by omega⟩ (fun c9 => ?_) (fun c9 => ?_)
      · exfalso; omega
      · skip
        refine e_aload_n dX6_isWord_35 rfl ?_
        refine e_get (.ref (y + 25)) dX6_isWord_36 tf_6_39 (congrArg Prod.fst (rd_s0 hk)) (congrArg va_rf (rd_r0_5 hk)) ?_
        refine e_aload_n dX6_isWord_39 rfl ?_
        refine z_get (tkS T L p) dX6_isWord_40 tf_6_56 (congrArg Prod.fst (rd_s0 hk)) (Or.inl rfl) HP.2.2.2.1 ?_
        have y10 := tk_b (T := T) HP.1.1 HP.1.2
        have y11 := HP.1
        refine e_iload_n dX6_isWord_43 rfl ?_
        refine z_iadd dX6_isWord_44 ?_
        refine z_bld (T ((tkS T L p) + 0)) dX6_isWord_45 (rd_s25 hk) (by decide) (by omega) (by omega) (HT.2.2.1 ((tkS T L p) + 0) (by omega) (by omega)) ?_
        have y12 := HT.2.2.2 ((tkS T L p) + 0) (by omega) (by omega)
        refine e_aload_n dX6_isWord_46 rfl ?_
        refine e_iload_n dX6_isWord_47 rfl ?_
        refine z_sat 97 dX6_isWord_48 tm_6_249 (Nat.le_of_ble_eq_true rfl) (by decide) (HA 17 (by decide)).1 (by decide) (by decide) (by decide) (by rw [(HA 17 (by decide)).2]; decide) (by omega) ?_
        refine z_icmp_eq 56 dX6_isWord_51 rfl ⟨by omega, by omega⟩ ⟨by omega, by omega⟩ (fun c13 => ?_) (fun c13 => ?_)
        · skip
          refine z_iinc (L' := [_, _, _]) dX6_isWord_56 rfl rfl ?_
          refine e_goto 27 dX6_isWord_59 rfl ?_
          refine e_iload_n dX6_isWord_27 rfl ?_
          refine e_aload_n dX6_isWord_28 rfl ?_
          refine z_slen 5 dX6_isWord_29 tm_6_245 (Nat.le_of_ble_eq_true rfl) (by decide) (HA 17 (by decide)).1 (by omega) (by decide) ?_
          refine z_icmp_ge 62 dX6_isWord_32 rfl ⟨by omega, by omega⟩ ⟨by omega, by omega⟩ (fun c14 => ?_) (fun c14 => ?_)
          · exfalso; omega
          · skip
            refine e_aload_n dX6_isWord_35 rfl ?_
            refine e_get (.ref (y + 25)) dX6_isWord_36 tf_6_39 (congrArg Prod.fst (rd_s0 hk)) (congrArg va_rf (rd_r0_5 hk)) ?_
            refine e_aload_n dX6_isWord_39 rfl ?_
            refine z_get (tkS T L p) dX6_isWord_40 tf_6_56 (congrArg Prod.fst (rd_s0 hk)) (Or.inl rfl) HP.2.2.2.1 ?_
            have y15 := tk_b (T := T) HP.1.1 HP.1.2
            have y16 := HP.1
            refine e_iload_n dX6_isWord_43 rfl ?_
            refine z_iadd dX6_isWord_44 ?_
            refine z_bld (T ((tkS T L p) + 1)) dX6_isWord_45 (rd_s25 hk) (by decide) (by omega) (by omega) (HT.2.2.1 ((tkS T L p) + 1) (by omega) (by omega)) ?_
            have y17 := HT.2.2.2 ((tkS T L p) + 1) (by omega) (by omega)
            refine e_aload_n dX6_isWord_46 rfl ?_
            refine e_iload_n dX6_isWord_47 rfl ?_
            refine z_sat 112 dX6_isWord_48 tm_6_249 (Nat.le_of_ble_eq_true rfl) (by decide) (HA 17 (by decide)).1 (by decide) (by decide) (by decide) (by rw [(HA 17 (by decide)).2]; decide) (by omega) ?_
            refine z_icmp_eq 56 dX6_isWord_51 rfl ⟨by omega, by omega⟩ ⟨by omega, by omega⟩ (fun c18 => ?_) (fun c18 => ?_)
            · skip
              refine z_iinc (L' := [_, _, _]) dX6_isWord_56 rfl rfl ?_
              refine e_goto 27 dX6_isWord_59 rfl ?_
              refine e_iload_n dX6_isWord_27 rfl ?_
              refine e_aload_n dX6_isWord_28 rfl ?_
              refine z_slen 5 dX6_isWord_29 tm_6_245 (Nat.le_of_ble_eq_true rfl) (by decide) (HA 17 (by decide)).1 (by omega) (by decide) ?_
              refine z_icmp_ge 62 dX6_isWord_32 rfl ⟨by omega, by omega⟩ ⟨by omega, by omega⟩ (fun c19 => ?_) (fun c19 => ?_)
              · exfalso; omega
              · skip
                refine e_aload_n dX6_isWord_35 rfl ?_
                refine e_get (.ref (y + 25)) dX6_isWord_36 tf_6_39 (congrArg Prod.fst (rd_s0 hk)) (congrArg va_rf (rd_r0_5 hk)) ?_
                refine e_aload_n dX6_isWord_39 rfl ?_
                refine z_get (tkS T L p) dX6_isWord_40 tf_6_56 (congrArg Prod.fst (rd_s0 hk)) (Or.inl rfl) HP.2.2.2.1 ?_
                have y20 := tk_b (T := T) HP.1.1 HP.1.2
                have y21 := HP.1
                refine e_iload_n dX6_isWord_43 rfl ?_
                refine z_iadd dX6_isWord_44 ?_
                refine z_bld (T ((tkS T L p) + 2)) dX6_isWord_45 (rd_s25 hk) (by decide) (by omega) (by omega) (HT.2.2.1 ((tkS T L p) + 2) (by omega) (by omega)) ?_
                have y22 := HT.2.2.2 ((tkS T L p) + 2) (by omega) (by omega)
                refine e_aload_n dX6_isWord_46 rfl ?_
                refine e_iload_n dX6_isWord_47 rfl ?_
                refine z_sat 97 dX6_isWord_48 tm_6_249 (Nat.le_of_ble_eq_true rfl) (by decide) (HA 17 (by decide)).1 (by decide) (by decide) (by decide) (by rw [(HA 17 (by decide)).2]; decide) (by omega) ?_
                refine z_icmp_eq 56 dX6_isWord_51 rfl ⟨by omega, by omega⟩ ⟨by omega, by omega⟩ (fun c23 => ?_) (fun c23 => ?_)
                · skip
                  refine z_iinc (L' := [_, _, _]) dX6_isWord_56 rfl rfl ?_
                  refine e_goto 27 dX6_isWord_59 rfl ?_
                  refine e_iload_n dX6_isWord_27 rfl ?_
                  refine e_aload_n dX6_isWord_28 rfl ?_
                  refine z_slen 5 dX6_isWord_29 tm_6_245 (Nat.le_of_ble_eq_true rfl) (by decide) (HA 17 (by decide)).1 (by omega) (by decide) ?_
                  refine z_icmp_ge 62 dX6_isWord_32 rfl ⟨by omega, by omega⟩ ⟨by omega, by omega⟩ (fun c24 => ?_) (fun c24 => ?_)
                  · exfalso; omega
                  · skip
                    refine e_aload_n dX6_isWord_35 rfl ?_
                    refine e_get (.ref (y + 25)) dX6_isWord_36 tf_6_39 (congrArg Prod.fst (rd_s0 hk)) (congrArg va_rf (rd_r0_5 hk)) ?_
                    refine e_aload_n dX6_isWord_39 rfl ?_
                    refine z_get (tkS T L p) dX6_isWord_40 tf_6_56 (congrArg Prod.fst (rd_s0 hk)) (Or.inl rfl) HP.2.2.2.1 ?_
                    have y25 := tk_b (T := T) HP.1.1 HP.1.2
                    have y26 := HP.1
                    refine e_iload_n dX6_isWord_43 rfl ?_
                    refine z_iadd dX6_isWord_44 ?_
                    refine z_bld (T ((tkS T L p) + 3)) dX6_isWord_45 (rd_s25 hk) (by decide) (by omega) (by omega) (HT.2.2.1 ((tkS T L p) + 3) (by omega) (by omega)) ?_
                    have y27 := HT.2.2.2 ((tkS T L p) + 3) (by omega) (by omega)
                    refine e_aload_n dX6_isWord_46 rfl ?_
                    refine e_iload_n dX6_isWord_47 rfl ?_
                    refine z_sat 114 dX6_isWord_48 tm_6_249 (Nat.le_of_ble_eq_true rfl) (by decide) (HA 17 (by decide)).1 (by decide) (by decide) (by decide) (by rw [(HA 17 (by decide)).2]; decide) (by omega) ?_
                    refine z_icmp_eq 56 dX6_isWord_51 rfl ⟨by omega, by omega⟩ ⟨by omega, by omega⟩ (fun c28 => ?_) (fun c28 => ?_)
                    · skip
                      refine z_iinc (L' := [_, _, _]) dX6_isWord_56 rfl rfl ?_
                      refine e_goto 27 dX6_isWord_59 rfl ?_
                      refine e_iload_n dX6_isWord_27 rfl ?_
                      refine e_aload_n dX6_isWord_28 rfl ?_
                      refine z_slen 5 dX6_isWord_29 tm_6_245 (Nat.le_of_ble_eq_true rfl) (by decide) (HA 17 (by decide)).1 (by omega) (by decide) ?_
                      refine z_icmp_ge 62 dX6_isWord_32 rfl ⟨by omega, by omega⟩ ⟨by omega, by omega⟩ (fun c29 => ?_) (fun c29 => ?_)
                      · exfalso; omega
                      · skip
                        refine e_aload_n dX6_isWord_35 rfl ?_
                        refine e_get (.ref (y + 25)) dX6_isWord_36 tf_6_39 (congrArg Prod.fst (rd_s0 hk)) (congrArg va_rf (rd_r0_5 hk)) ?_
                        refine e_aload_n dX6_isWord_39 rfl ?_
                        refine z_get (tkS T L p) dX6_isWord_40 tf_6_56 (congrArg Prod.fst (rd_s0 hk)) (Or.inl rfl) HP.2.2.2.1 ?_
                        have y30 := tk_b (T := T) HP.1.1 HP.1.2
                        have y31 := HP.1
                        refine e_iload_n dX6_isWord_43 rfl ?_
                        refine z_iadd dX6_isWord_44 ?_
                        refine z_bld (T ((tkS T L p) + 4)) dX6_isWord_45 (rd_s25 hk) (by decide) (by omega) (by omega) (HT.2.2.1 ((tkS T L p) + 4) (by omega) (by omega)) ?_
                        have y32 := HT.2.2.2 ((tkS T L p) + 4) (by omega) (by omega)
                        refine e_aload_n dX6_isWord_46 rfl ?_
                        refine e_iload_n dX6_isWord_47 rfl ?_
                        refine z_sat 116 dX6_isWord_48 tm_6_249 (Nat.le_of_ble_eq_true rfl) (by decide) (HA 17 (by decide)).1 (by decide) (by decide) (by decide) (by rw [(HA 17 (by decide)).2]; decide) (by omega) ?_
                        refine z_icmp_eq 56 dX6_isWord_51 rfl ⟨by omega, by omega⟩ ⟨by omega, by omega⟩ (fun c33 => ?_) (fun c33 => ?_)
                        · skip
                          refine z_iinc (L' := [_, _, _]) dX6_isWord_56 rfl rfl ?_
                          refine e_goto 27 dX6_isWord_59 rfl ?_
                          refine e_iload_n dX6_isWord_27 rfl ?_
                          refine e_aload_n dX6_isWord_28 rfl ?_
                          refine z_slen 5 dX6_isWord_29 tm_6_245 (Nat.le_of_ble_eq_true rfl) (by decide) (HA 17 (by decide)).1 (by omega) (by decide) ?_
                          refine z_icmp_ge 62 dX6_isWord_32 rfl ⟨by omega, by omega⟩ ⟨by omega, by omega⟩ (fun c34 => ?_) (fun c34 => ?_)
                          · skip
                            refine z_iconst (1) dX6_isWord_62 rfl ?_
                            refine z_bret dX6_isWord_63 rfl (Or.inr rfl) ⟨rfl, ?_⟩
                            refine z_q1 kq ?_
                            first | (have q := tw_0 (T := T) (L := L) (p := p) (by omega); omega) | (have q := tw_apart (T := T) (L := L) (p := p) (by omega); omega)
                          · exfalso; omega
                        · skip
                          refine z_iconst (0) dX6_isWord_54 rfl ?_
                          refine z_bret dX6_isWord_55 rfl (Or.inl rfl) ⟨rfl, ?_⟩
                          refine z_q0 kq ?_
                          first | (have q := tw_0 (T := T) (L := L) (p := p) (by omega); omega) | (have q := tw_apart (T := T) (L := L) (p := p) (by omega); omega)
                    · skip
                      refine z_iconst (0) dX6_isWord_54 rfl ?_
                      refine z_bret dX6_isWord_55 rfl (Or.inl rfl) ⟨rfl, ?_⟩
                      refine z_q0 kq ?_
                      first | (have q := tw_0 (T := T) (L := L) (p := p) (by omega); omega) | (have q := tw_apart (T := T) (L := L) (p := p) (by omega); omega)
                · skip
                  refine z_iconst (0) dX6_isWord_54 rfl ?_
                  refine z_bret dX6_isWord_55 rfl (Or.inl rfl) ⟨rfl, ?_⟩
                  refine z_q0 kq ?_
                  first | (have q := tw_0 (T := T) (L := L) (p := p) (by omega); omega) | (have q := tw_apart (T := T) (L := L) (p := p) (by omega); omega)
            · skip
              refine z_iconst (0) dX6_isWord_54 rfl ?_
              refine z_bret dX6_isWord_55 rfl (Or.inl rfl) ⟨rfl, ?_⟩
              refine z_q0 kq ?_
              first | (have q := tw_0 (T := T) (L := L) (p := p) (by omega); omega) | (have q := tw_apart (T := T) (L := L) (p := p) (by omega); omega)
        · skip
          refine z_iconst (0) dX6_isWord_54 rfl ?_
          refine z_bret dX6_isWord_55 rfl (Or.inl rfl) ⟨rfl, ?_⟩
          refine z_q0 kq ?_
          first | (have q := tw_0 (T := T) (L := L) (p := p) (by omega); omega) | (have q := tw_apart (T := T) (L := L) (p := p) (by omega); omega)
    · skip
      refine z_iconst (0) dX6_isWord_23 rfl ?_
      refine z_bret dX6_isWord_24 rfl (Or.inl rfl) ⟨rfl, ?_⟩
      refine z_q0 kq ?_
      first | (have q := tw_0 (T := T) (L := L) (p := p) (by omega); omega) | (have q := tw_apart (T := T) (L := L) (p := p) (by omega); omega)
set_option maxHeartbeats 1000000 in
theorem zp_X6_isWord_rough {ad : mA} {dd : Nat} {h : mH} {Q : mQ} {y : Nat} {T : Int → Int} {L p : Int} (hk : rdk h y) (HT : rdT h y T L) (HP : rdP h y T L p) (HA : adK ad)   (kq : Q (some (.int (zI (bZ (tkW T L p = 491496236904))))) h) : mCal TB0 ad (dd + 6) M_X6_isWord [.ref y, .ref (ad.1 18)] h 0 0 Q := by
  refine ⟨Nat.le_of_ble_eq_true rfl, ?_⟩
  show mEv TB0 ad M_X6_isWord (dd + 6) (0, 0) (mCal TB0 ad (dd + 5)) (fun v h' z => z.1 = 0 ∧ Q v h') 0 [some (.ref y), some (.ref (ad.1 18)), none] [] h (0, 0)
  have w1 := HT.1
  have w2 := tk_b (T := T) HP.1.1 HP.1.2
  have z0 : T (tkS T L p + 0) = T (tkS T L p) := by rw [Int.add_zero]
  refine e_aload_n dX6_isWord_0 rfl ?_
  refine z_get (tkK T L p) dX6_isWord_1 tf_6_53 (congrArg Prod.fst (rd_s0 hk)) (Or.inl rfl) HP.2.2.1 ?_
  have y1 := tk_b (T := T) HP.1.1 HP.1.2
  have y2 := HP.1
  refine z_if_ne 23 dX6_isWord_4 rfl ⟨by omega, by omega⟩ (fun c3 => ?_) (fun c3 => ?_)
  · skip
    refine z_iconst (0) dX6_isWord_23 rfl ?_
    refine z_bret dX6_isWord_24 rfl (Or.inl rfl) ⟨rfl, ?_⟩
    refine z_q0 kq ?_
    first | (have q := tw_0 (T := T) (L := L) (p := p) (by omega); omega) | (have q := tw_rough (T := T) (L := L) (p := p) (by omega); omega)
  · skip
    refine e_aload_n dX6_isWord_7 rfl ?_
    refine z_get (tkE T L p) dX6_isWord_8 tf_6_50 (congrArg Prod.fst (rd_s0 hk)) (Or.inl rfl) HP.2.1 ?_
    have y4 := tk_b (T := T) HP.1.1 HP.1.2
    have y5 := HP.1
    refine e_aload_n dX6_isWord_11 rfl ?_
    refine z_get (tkS T L p) dX6_isWord_12 tf_6_56 (congrArg Prod.fst (rd_s0 hk)) (Or.inl rfl) HP.2.2.2.1 ?_
    have y6 := tk_b (T := T) HP.1.1 HP.1.2
    have y7 := HP.1
    refine z_isub dX6_isWord_15 ?_
    refine e_aload_n dX6_isWord_16 rfl ?_
    refine z_slen 5 dX6_isWord_17 tm_6_245 (Nat.le_of_ble_eq_true rfl) (by decide) (HA 18 (by decide)).1 (by omega) (by decide) ?_
    refine z_icmp_eq 25 dX6_isWord_20 rfl ⟨by omega, by omega⟩ ⟨by omega, by omega⟩ (fun c8 => ?_) (fun c8 => ?_)
    · skip
      refine z_iconst (0) dX6_isWord_25 rfl ?_
      refine e_istore_n (L' := [_, _, _]) dX6_isWord_26 (Nat.le_of_ble_eq_true rfl) rfl ?_
      refine e_iload_n dX6_isWord_27 rfl ?_
      refine e_aload_n dX6_isWord_28 rfl ?_
      refine z_slen 5 dX6_isWord_29 tm_6_245 (Nat.le_of_ble_eq_true rfl) (by decide) (HA 18 (by decide)).1 (by omega) (by decide) ?_
      refine z_icmp_ge 62 dX6_isWord_32 rfl ⟨by omega, by omega⟩ ⟨by omega, by omega⟩ (fun c9 => ?_) (fun c9 => ?_)
      · exfalso; omega
      · skip
        refine e_aload_n dX6_isWord_35 rfl ?_
        refine e_get (.ref (y + 25)) dX6_isWord_36 tf_6_39 (congrArg Prod.fst (rd_s0 hk)) (congrArg va_rf (rd_r0_5 hk)) ?_
        refine e_aload_n dX6_isWord_39 rfl ?_
        refine z_get (tkS T L p) dX6_isWord_40 tf_6_56 (congrArg Prod.fst (rd_s0 hk)) (Or.inl rfl) HP.2.2.2.1 ?_
        have y10 := tk_b (T := T) HP.1.1 HP.1.2
        have y11 := HP.1
        refine e_iload_n dX6_isWord_43 rfl ?_
        refine z_iadd dX6_isWord_44 ?_
        refine z_bld (T ((tkS T L p) + 0)) dX6_isWord_45 (rd_s25 hk) (by decide) (by omega) (by omega) (HT.2.2.1 ((tkS T L p) + 0) (by omega) (by omega)) ?_
        have y12 := HT.2.2.2 ((tkS T L p) + 0) (by omega) (by omega)
        refine e_aload_n dX6_isWord_46 rfl ?_
        refine e_iload_n dX6_isWord_47 rfl ?_
        refine z_sat 114 dX6_isWord_48 tm_6_249 (Nat.le_of_ble_eq_true rfl) (by decide) (HA 18 (by decide)).1 (by decide) (by decide) (by decide) (by rw [(HA 18 (by decide)).2]; decide) (by omega) ?_
        refine z_icmp_eq 56 dX6_isWord_51 rfl ⟨by omega, by omega⟩ ⟨by omega, by omega⟩ (fun c13 => ?_) (fun c13 => ?_)
        · skip
          refine z_iinc (L' := [_, _, _]) dX6_isWord_56 rfl rfl ?_
          refine e_goto 27 dX6_isWord_59 rfl ?_
          refine e_iload_n dX6_isWord_27 rfl ?_
          refine e_aload_n dX6_isWord_28 rfl ?_
          refine z_slen 5 dX6_isWord_29 tm_6_245 (Nat.le_of_ble_eq_true rfl) (by decide) (HA 18 (by decide)).1 (by omega) (by decide) ?_
          refine z_icmp_ge 62 dX6_isWord_32 rfl ⟨by omega, by omega⟩ ⟨by omega, by omega⟩ (fun c14 => ?_) (fun c14 => ?_)
          · exfalso; omega
          · skip
            refine e_aload_n dX6_isWord_35 rfl ?_
            refine e_get (.ref (y + 25)) dX6_isWord_36 tf_6_39 (congrArg Prod.fst (rd_s0 hk)) (congrArg va_rf (rd_r0_5 hk)) ?_
            refine e_aload_n dX6_isWord_39 rfl ?_
            refine z_get (tkS T L p) dX6_isWord_40 tf_6_56 (congrArg Prod.fst (rd_s0 hk)) (Or.inl rfl) HP.2.2.2.1 ?_
            have y15 := tk_b (T := T) HP.1.1 HP.1.2
            have y16 := HP.1
            refine e_iload_n dX6_isWord_43 rfl ?_
            refine z_iadd dX6_isWord_44 ?_
            refine z_bld (T ((tkS T L p) + 1)) dX6_isWord_45 (rd_s25 hk) (by decide) (by omega) (by omega) (HT.2.2.1 ((tkS T L p) + 1) (by omega) (by omega)) ?_
            have y17 := HT.2.2.2 ((tkS T L p) + 1) (by omega) (by omega)
            refine e_aload_n dX6_isWord_46 rfl ?_
            refine e_iload_n dX6_isWord_47 rfl ?_
            refine z_sat 111 dX6_isWord_48 tm_6_249 (Nat.le_of_ble_eq_true rfl) (by decide) (HA 18 (by decide)).1 (by decide) (by decide) (by decide) (by rw [(HA 18 (by decide)).2]; decide) (by omega) ?_
            refine z_icmp_eq 56 dX6_isWord_51 rfl ⟨by omega, by omega⟩ ⟨by omega, by omega⟩ (fun c18 => ?_) (fun c18 => ?_)
            · skip
              refine z_iinc (L' := [_, _, _]) dX6_isWord_56 rfl rfl ?_
              refine e_goto 27 dX6_isWord_59 rfl ?_
              refine e_iload_n dX6_isWord_27 rfl ?_
              refine e_aload_n dX6_isWord_28 rfl ?_
              refine z_slen 5 dX6_isWord_29 tm_6_245 (Nat.le_of_ble_eq_true rfl) (by decide) (HA 18 (by decide)).1 (by omega) (by decide) ?_
              refine z_icmp_ge 62 dX6_isWord_32 rfl ⟨by omega, by omega⟩ ⟨by omega, by omega⟩ (fun c19 => ?_) (fun c19 => ?_)
              · exfalso; omega
              · skip
                refine e_aload_n dX6_isWord_35 rfl ?_
                refine e_get (.ref (y + 25)) dX6_isWord_36 tf_6_39 (congrArg Prod.fst (rd_s0 hk)) (congrArg va_rf (rd_r0_5 hk)) ?_
                refine e_aload_n dX6_isWord_39 rfl ?_
                refine z_get (tkS T L p) dX6_isWord_40 tf_6_56 (congrArg Prod.fst (rd_s0 hk)) (Or.inl rfl) HP.2.2.2.1 ?_
                have y20 := tk_b (T := T) HP.1.1 HP.1.2
                have y21 := HP.1
                refine e_iload_n dX6_isWord_43 rfl ?_
                refine z_iadd dX6_isWord_44 ?_
                refine z_bld (T ((tkS T L p) + 2)) dX6_isWord_45 (rd_s25 hk) (by decide) (by omega) (by omega) (HT.2.2.1 ((tkS T L p) + 2) (by omega) (by omega)) ?_
                have y22 := HT.2.2.2 ((tkS T L p) + 2) (by omega) (by omega)
                refine e_aload_n dX6_isWord_46 rfl ?_
                refine e_iload_n dX6_isWord_47 rfl ?_
                refine z_sat 117 dX6_isWord_48 tm_6_249 (Nat.le_of_ble_eq_true rfl) (by decide) (HA 18 (by decide)).1 (by decide) (by decide) (by decide) (by rw [(HA 18 (by decide)).2]; decide) (by omega) ?_
                refine z_icmp_eq 56 dX6_isWord_51 rfl ⟨by omega, by omega⟩ ⟨by omega, by omega⟩ (fun c23 => ?_) (fun c23 => ?_)
                · skip
                  refine z_iinc (L' := [_, _, _]) dX6_isWord_56 rfl rfl ?_
                  refine e_goto 27 dX6_isWord_59 rfl ?_
                  refine e_iload_n dX6_isWord_27 rfl ?_
                  refine e_aload_n dX6_isWord_28 rfl ?_
                  refine z_slen 5 dX6_isWord_29 tm_6_245 (Nat.le_of_ble_eq_true rfl) (by decide) (HA 18 (by decide)).1 (by omega) (by decide) ?_
                  refine z_icmp_ge 62 dX6_isWord_32 rfl ⟨by omega, by omega⟩ ⟨by omega, by omega⟩ (fun c24 => ?_) (fun c24 => ?_)
                  · exfalso; omega
                  · skip
                    refine e_aload_n dX6_isWord_35 rfl ?_
                    refine e_get (.ref (y + 25)) dX6_isWord_36 tf_6_39 (congrArg Prod.fst (rd_s0 hk)) (congrArg va_rf (rd_r0_5 hk)) ?_
                    refine e_aload_n dX6_isWord_39 rfl ?_
                    refine z_get (tkS T L p) dX6_isWord_40 tf_6_56 (congrArg Prod.fst (rd_s0 hk)) (Or.inl rfl) HP.2.2.2.1 ?_
                    have y25 := tk_b (T := T) HP.1.1 HP.1.2
                    have y26 := HP.1
                    refine e_iload_n dX6_isWord_43 rfl ?_
                    refine z_iadd dX6_isWord_44 ?_
                    refine z_bld (T ((tkS T L p) + 3)) dX6_isWord_45 (rd_s25 hk) (by decide) (by omega) (by omega) (HT.2.2.1 ((tkS T L p) + 3) (by omega) (by omega)) ?_
                    have y27 := HT.2.2.2 ((tkS T L p) + 3) (by omega) (by omega)
                    refine e_aload_n dX6_isWord_46 rfl ?_
                    refine e_iload_n dX6_isWord_47 rfl ?_
                    refine z_sat 103 dX6_isWord_48 tm_6_249 (Nat.le_of_ble_eq_true rfl) (by decide) (HA 18 (by decide)).1 (by decide) (by decide) (by decide) (by rw [(HA 18 (by decide)).2]; decide) (by omega) ?_
                    refine z_icmp_eq 56 dX6_isWord_51 rfl ⟨by omega, by omega⟩ ⟨by omega, by omega⟩ (fun c28 => ?_) (fun c28 => ?_)
                    · skip
                      refine z_iinc (L' := [_, _, _]) dX6_isWord_56 rfl rfl ?_
                      refine e_goto 27 dX6_isWord_59 rfl ?_
                      refine e_iload_n dX6_isWord_27 rfl ?_
                      refine e_aload_n dX6_isWord_28 rfl ?_
                      refine z_slen 5 dX6_isWord_29 tm_6_245 (Nat.le_of_ble_eq_true rfl) (by decide) (HA 18 (by decide)).1 (by omega) (by decide) ?_
                      refine z_icmp_ge 62 dX6_isWord_32 rfl ⟨by omega, by omega⟩ ⟨by omega, by omega⟩ (fun c29 => ?_) (fun c29 => ?_)
                      · exfalso; omega
                      · skip
                        refine e_aload_n dX6_isWord_35 rfl ?_
                        refine e_get (.ref (y + 25)) dX6_isWord_36 tf_6_39 (congrArg Prod.fst (rd_s0 hk)) (congrArg va_rf (rd_r0_5 hk)) ?_
                        refine e_aload_n dX6_isWord_39 rfl ?_
                        refine z_get (tkS T L p) dX6_isWord_40 tf_6_56 (congrArg Prod.fst (rd_s0 hk)) (Or.inl rfl) HP.2.2.2.1 ?_
                        have y30 := tk_b (T := T) HP.1.1 HP.1.2
                        have y31 := HP.1
                        refine e_iload_n dX6_isWord_43 rfl ?_
                        refine z_iadd dX6_isWord_44 ?_
                        refine z_bld (T ((tkS T L p) + 4)) dX6_isWord_45 (rd_s25 hk) (by decide) (by omega) (by omega) (HT.2.2.1 ((tkS T L p) + 4) (by omega) (by omega)) ?_
                        have y32 := HT.2.2.2 ((tkS T L p) + 4) (by omega) (by omega)
                        refine e_aload_n dX6_isWord_46 rfl ?_
                        refine e_iload_n dX6_isWord_47 rfl ?_
                        refine z_sat 104 dX6_isWord_48 tm_6_249 (Nat.le_of_ble_eq_true rfl) (by decide) (HA 18 (by decide)).1 (by decide) (by decide) (by decide) (by rw [(HA 18 (by decide)).2]; decide) (by omega) ?_
                        refine z_icmp_eq 56 dX6_isWord_51 rfl ⟨by omega, by omega⟩ ⟨by omega, by omega⟩ (fun c33 => ?_) (fun c33 => ?_)
                        · skip
                          refine z_iinc (L' := [_, _, _]) dX6_isWord_56 rfl rfl ?_
                          refine e_goto 27 dX6_isWord_59 rfl ?_
                          refine e_iload_n dX6_isWord_27 rfl ?_
                          refine e_aload_n dX6_isWord_28 rfl ?_
                          refine z_slen 5 dX6_isWord_29 tm_6_245 (Nat.le_of_ble_eq_true rfl) (by decide) (HA 18 (by decide)).1 (by omega) (by decide) ?_
                          refine z_icmp_ge 62 dX6_isWord_32 rfl ⟨by omega, by omega⟩ ⟨by omega, by omega⟩ (fun c34 => ?_) (fun c34 => ?_)
                          · skip
                            refine z_iconst (1) dX6_isWord_62 rfl ?_
                            refine z_bret dX6_isWord_63 rfl (Or.inr rfl) ⟨rfl, ?_⟩
                            refine z_q1 kq ?_
                            first | (have q := tw_0 (T := T) (L := L) (p := p) (by omega); omega) | (have q := tw_rough (T := T) (L := L) (p := p) (by omega); omega)
                          · exfalso; omega
                        · skip
                          refine z_iconst (0) dX6_isWord_54 rfl ?_
                          refine z_bret dX6_isWord_55 rfl (Or.inl rfl) ⟨rfl, ?_⟩
                          refine z_q0 kq ?_
                          first | (have q := tw_0 (T := T) (L := L) (p := p) (by omega); omega) | (have q := tw_rough (T := T) (L := L) (p := p) (by omega); omega)
                    · skip
                      refine z_iconst (0) dX6_isWord_54 rfl ?_
                      refine z_bret dX6_isWord_55 rfl (Or.inl rfl) ⟨rfl, ?_⟩
                      refine z_q0 kq ?_
                      first | (have q := tw_0 (T := T) (L := L) (p := p) (by omega); omega) | (have q := tw_rough (T := T) (L := L) (p := p) (by omega); omega)
                · skip
                  refine z_iconst (0) dX6_isWord_54 rfl ?_
                  refine z_bret dX6_isWord_55 rfl (Or.inl rfl) ⟨rfl, ?_⟩
                  refine z_q0 kq ?_
                  first | (have q := tw_0 (T := T) (L := L) (p := p) (by omega); omega) | (have q := tw_rough (T := T) (L := L) (p := p) (by omega); omega)
            · skip
              refine z_iconst (0) dX6_isWord_54 rfl ?_
              refine z_bret dX6_isWord_55 rfl (Or.inl rfl) ⟨rfl, ?_⟩
              refine z_q0 kq ?_
              first | (have q := tw_0 (T := T) (L := L) (p := p) (by omega); omega) | (have q := tw_rough (T := T) (L := L) (p := p) (by omega); omega)
        · skip
          refine z_iconst (0) dX6_isWord_54 rfl ?_
          refine z_bret dX6_isWord_55 rfl (Or.inl rfl) ⟨rfl, ?_⟩
          refine z_q0 kq ?_
          first | (have q := tw_0 (T := T) (L := L) (p := p) (by omega); omega) | (have q := tw_rough (T := T) (L := L) (p := p) (by omega); omega)
    · skip
      refine z_iconst (0) dX6_isWord_23 rfl ?_
      refine z_bret dX6_isWord_24 rfl (Or.inl rfl) ⟨rfl, ?_⟩
      refine z_q0 kq ?_
      first | (have q := tw_0 (T := T) (L := L) (p := p) (by omega); omega) | (have q := tw_rough (T := T) (L := L) (p := p) (by omega); omega)
set_option maxHeartbeats 1000000 in
theorem zp_X6_isWord_left {ad : mA} {dd : Nat} {h : mH} {Q : mQ} {y : Nat} {T : Int → Int} {L p : Int} (hk : rdk h y) (HT : rdT h y T L) (HP : rdP h y T L p) (HA : adK ad)   (kq : Q (some (.int (zI (bZ (tkW T L p = 1818584692))))) h) : mCal TB0 ad (dd + 6) M_X6_isWord [.ref y, .ref (ad.1 19)] h 0 0 Q := by
  refine ⟨Nat.le_of_ble_eq_true rfl, ?_⟩
  show mEv TB0 ad M_X6_isWord (dd + 6) (0, 0) (mCal TB0 ad (dd + 5)) (fun v h' z => z.1 = 0 ∧ Q v h') 0 [some (.ref y), some (.ref (ad.1 19)), none] [] h (0, 0)
  have w1 := HT.1
  have w2 := tk_b (T := T) HP.1.1 HP.1.2
  have z0 : T (tkS T L p + 0) = T (tkS T L p) := by rw [Int.add_zero]
  refine e_aload_n dX6_isWord_0 rfl ?_
  refine z_get (tkK T L p) dX6_isWord_1 tf_6_53 (congrArg Prod.fst (rd_s0 hk)) (Or.inl rfl) HP.2.2.1 ?_
  have y1 := tk_b (T := T) HP.1.1 HP.1.2
  have y2 := HP.1
  refine z_if_ne 23 dX6_isWord_4 rfl ⟨by omega, by omega⟩ (fun c3 => ?_) (fun c3 => ?_)
  · skip
    refine z_iconst (0) dX6_isWord_23 rfl ?_
    refine z_bret dX6_isWord_24 rfl (Or.inl rfl) ⟨rfl, ?_⟩
    refine z_q0 kq ?_
    first | (have q := tw_0 (T := T) (L := L) (p := p) (by omega); omega) | (have q := tw_left (T := T) (L := L) (p := p) (by omega); omega)
  · skip
    refine e_aload_n dX6_isWord_7 rfl ?_
    refine z_get (tkE T L p) dX6_isWord_8 tf_6_50 (congrArg Prod.fst (rd_s0 hk)) (Or.inl rfl) HP.2.1 ?_
    have y4 := tk_b (T := T) HP.1.1 HP.1.2
    have y5 := HP.1
    refine e_aload_n dX6_isWord_11 rfl ?_
    refine z_get (tkS T L p) dX6_isWord_12 tf_6_56 (congrArg Prod.fst (rd_s0 hk)) (Or.inl rfl) HP.2.2.2.1 ?_
    have y6 := tk_b (T := T) HP.1.1 HP.1.2
    have y7 := HP.1
    refine z_isub dX6_isWord_15 ?_
    refine e_aload_n dX6_isWord_16 rfl ?_
    refine z_slen 4 dX6_isWord_17 tm_6_245 (Nat.le_of_ble_eq_true rfl) (by decide) (HA 19 (by decide)).1 (by omega) (by decide) ?_
    refine z_icmp_eq 25 dX6_isWord_20 rfl ⟨by omega, by omega⟩ ⟨by omega, by omega⟩ (fun c8 => ?_) (fun c8 => ?_)
    · skip
      refine z_iconst (0) dX6_isWord_25 rfl ?_
      refine e_istore_n (L' := [_, _, _]) dX6_isWord_26 (Nat.le_of_ble_eq_true rfl) rfl ?_
      refine e_iload_n dX6_isWord_27 rfl ?_
      refine e_aload_n dX6_isWord_28 rfl ?_
      refine z_slen 4 dX6_isWord_29 tm_6_245 (Nat.le_of_ble_eq_true rfl) (by decide) (HA 19 (by decide)).1 (by omega) (by decide) ?_
      refine z_icmp_ge 62 dX6_isWord_32 rfl ⟨by omega, by omega⟩ ⟨by omega, by omega⟩ (fun c9 => ?_) (fun c9 => ?_)
      · exfalso; omega
      · skip
        refine e_aload_n dX6_isWord_35 rfl ?_
        refine e_get (.ref (y + 25)) dX6_isWord_36 tf_6_39 (congrArg Prod.fst (rd_s0 hk)) (congrArg va_rf (rd_r0_5 hk)) ?_
        refine e_aload_n dX6_isWord_39 rfl ?_
        refine z_get (tkS T L p) dX6_isWord_40 tf_6_56 (congrArg Prod.fst (rd_s0 hk)) (Or.inl rfl) HP.2.2.2.1 ?_
        have y10 := tk_b (T := T) HP.1.1 HP.1.2
        have y11 := HP.1
        refine e_iload_n dX6_isWord_43 rfl ?_
        refine z_iadd dX6_isWord_44 ?_
        refine z_bld (T ((tkS T L p) + 0)) dX6_isWord_45 (rd_s25 hk) (by decide) (by omega) (by omega) (HT.2.2.1 ((tkS T L p) + 0) (by omega) (by omega)) ?_
        have y12 := HT.2.2.2 ((tkS T L p) + 0) (by omega) (by omega)
        refine e_aload_n dX6_isWord_46 rfl ?_
        refine e_iload_n dX6_isWord_47 rfl ?_
        refine z_sat 108 dX6_isWord_48 tm_6_249 (Nat.le_of_ble_eq_true rfl) (by decide) (HA 19 (by decide)).1 (by decide) (by decide) (by decide) (by rw [(HA 19 (by decide)).2]; decide) (by omega) ?_
        refine z_icmp_eq 56 dX6_isWord_51 rfl ⟨by omega, by omega⟩ ⟨by omega, by omega⟩ (fun c13 => ?_) (fun c13 => ?_)
        · skip
          refine z_iinc (L' := [_, _, _]) dX6_isWord_56 rfl rfl ?_
          refine e_goto 27 dX6_isWord_59 rfl ?_
          refine e_iload_n dX6_isWord_27 rfl ?_
          refine e_aload_n dX6_isWord_28 rfl ?_
          refine z_slen 4 dX6_isWord_29 tm_6_245 (Nat.le_of_ble_eq_true rfl) (by decide) (HA 19 (by decide)).1 (by omega) (by decide) ?_
          refine z_icmp_ge 62 dX6_isWord_32 rfl ⟨by omega, by omega⟩ ⟨by omega, by omega⟩ (fun c14 => ?_) (fun c14 => ?_)
          · exfalso; omega
          · skip
            refine e_aload_n dX6_isWord_35 rfl ?_
            refine e_get (.ref (y + 25)) dX6_isWord_36 tf_6_39 (congrArg Prod.fst (rd_s0 hk)) (congrArg va_rf (rd_r0_5 hk)) ?_
            refine e_aload_n dX6_isWord_39 rfl ?_
            refine z_get (tkS T L p) dX6_isWord_40 tf_6_56 (congrArg Prod.fst (rd_s0 hk)) (Or.inl rfl) HP.2.2.2.1 ?_
            have y15 := tk_b (T := T) HP.1.1 HP.1.2
            have y16 := HP.1
            refine e_iload_n dX6_isWord_43 rfl ?_
            refine z_iadd dX6_isWord_44 ?_
            refine z_bld (T ((tkS T L p) + 1)) dX6_isWord_45 (rd_s25 hk) (by decide) (by omega) (by omega) (HT.2.2.1 ((tkS T L p) + 1) (by omega) (by omega)) ?_
            have y17 := HT.2.2.2 ((tkS T L p) + 1) (by omega) (by omega)
            refine e_aload_n dX6_isWord_46 rfl ?_
            refine e_iload_n dX6_isWord_47 rfl ?_
            refine z_sat 101 dX6_isWord_48 tm_6_249 (Nat.le_of_ble_eq_true rfl) (by decide) (HA 19 (by decide)).1 (by decide) (by decide) (by decide) (by rw [(HA 19 (by decide)).2]; decide) (by omega) ?_
            refine z_icmp_eq 56 dX6_isWord_51 rfl ⟨by omega, by omega⟩ ⟨by omega, by omega⟩ (fun c18 => ?_) (fun c18 => ?_)
            · skip
              refine z_iinc (L' := [_, _, _]) dX6_isWord_56 rfl rfl ?_
              refine e_goto 27 dX6_isWord_59 rfl ?_
              refine e_iload_n dX6_isWord_27 rfl ?_
              refine e_aload_n dX6_isWord_28 rfl ?_
              refine z_slen 4 dX6_isWord_29 tm_6_245 (Nat.le_of_ble_eq_true rfl) (by decide) (HA 19 (by decide)).1 (by omega) (by decide) ?_
              refine z_icmp_ge 62 dX6_isWord_32 rfl ⟨by omega, by omega⟩ ⟨by omega, by omega⟩ (fun c19 => ?_) (fun c19 => ?_)
              · exfalso; omega
              · skip
                refine e_aload_n dX6_isWord_35 rfl ?_
                refine e_get (.ref (y + 25)) dX6_isWord_36 tf_6_39 (congrArg Prod.fst (rd_s0 hk)) (congrArg va_rf (rd_r0_5 hk)) ?_
                refine e_aload_n dX6_isWord_39 rfl ?_
                refine z_get (tkS T L p) dX6_isWord_40 tf_6_56 (congrArg Prod.fst (rd_s0 hk)) (Or.inl rfl) HP.2.2.2.1 ?_
                have y20 := tk_b (T := T) HP.1.1 HP.1.2
                have y21 := HP.1
                refine e_iload_n dX6_isWord_43 rfl ?_
                refine z_iadd dX6_isWord_44 ?_
                refine z_bld (T ((tkS T L p) + 2)) dX6_isWord_45 (rd_s25 hk) (by decide) (by omega) (by omega) (HT.2.2.1 ((tkS T L p) + 2) (by omega) (by omega)) ?_
                have y22 := HT.2.2.2 ((tkS T L p) + 2) (by omega) (by omega)
                refine e_aload_n dX6_isWord_46 rfl ?_
                refine e_iload_n dX6_isWord_47 rfl ?_
                refine z_sat 102 dX6_isWord_48 tm_6_249 (Nat.le_of_ble_eq_true rfl) (by decide) (HA 19 (by decide)).1 (by decide) (by decide) (by decide) (by rw [(HA 19 (by decide)).2]; decide) (by omega) ?_
                refine z_icmp_eq 56 dX6_isWord_51 rfl ⟨by omega, by omega⟩ ⟨by omega, by omega⟩ (fun c23 => ?_) (fun c23 => ?_)
                · skip
                  refine z_iinc (L' := [_, _, _]) dX6_isWord_56 rfl rfl ?_
                  refine e_goto 27 dX6_isWord_59 rfl ?_
                  refine e_iload_n dX6_isWord_27 rfl ?_
                  refine e_aload_n dX6_isWord_28 rfl ?_
                  refine z_slen 4 dX6_isWord_29 tm_6_245 (Nat.le_of_ble_eq_true rfl) (by decide) (HA 19 (by decide)).1 (by omega) (by decide) ?_
                  refine z_icmp_ge 62 dX6_isWord_32 rfl ⟨by omega, by omega⟩ ⟨by omega, by omega⟩ (fun c24 => ?_) (fun c24 => ?_)
                  · exfalso; omega
                  · skip
                    refine e_aload_n dX6_isWord_35 rfl ?_
                    refine e_get (.ref (y + 25)) dX6_isWord_36 tf_6_39 (congrArg Prod.fst (rd_s0 hk)) (congrArg va_rf (rd_r0_5 hk)) ?_
                    refine e_aload_n dX6_isWord_39 rfl ?_
                    refine z_get (tkS T L p) dX6_isWord_40 tf_6_56 (congrArg Prod.fst (rd_s0 hk)) (Or.inl rfl) HP.2.2.2.1 ?_
                    have y25 := tk_b (T := T) HP.1.1 HP.1.2
                    have y26 := HP.1
                    refine e_iload_n dX6_isWord_43 rfl ?_
                    refine z_iadd dX6_isWord_44 ?_
                    refine z_bld (T ((tkS T L p) + 3)) dX6_isWord_45 (rd_s25 hk) (by decide) (by omega) (by omega) (HT.2.2.1 ((tkS T L p) + 3) (by omega) (by omega)) ?_
                    have y27 := HT.2.2.2 ((tkS T L p) + 3) (by omega) (by omega)
                    refine e_aload_n dX6_isWord_46 rfl ?_
                    refine e_iload_n dX6_isWord_47 rfl ?_
                    refine z_sat 116 dX6_isWord_48 tm_6_249 (Nat.le_of_ble_eq_true rfl) (by decide) (HA 19 (by decide)).1 (by decide) (by decide) (by decide) (by rw [(HA 19 (by decide)).2]; decide) (by omega) ?_
                    refine z_icmp_eq 56 dX6_isWord_51 rfl ⟨by omega, by omega⟩ ⟨by omega, by omega⟩ (fun c28 => ?_) (fun c28 => ?_)
                    · skip
                      refine z_iinc (L' := [_, _, _]) dX6_isWord_56 rfl rfl ?_
                      refine e_goto 27 dX6_isWord_59 rfl ?_
                      refine e_iload_n dX6_isWord_27 rfl ?_
                      refine e_aload_n dX6_isWord_28 rfl ?_
                      refine z_slen 4 dX6_isWord_29 tm_6_245 (Nat.le_of_ble_eq_true rfl) (by decide) (HA 19 (by decide)).1 (by omega) (by decide) ?_
                      refine z_icmp_ge 62 dX6_isWord_32 rfl ⟨by omega, by omega⟩ ⟨by omega, by omega⟩ (fun c29 => ?_) (fun c29 => ?_)
                      · skip
                        refine z_iconst (1) dX6_isWord_62 rfl ?_
                        refine z_bret dX6_isWord_63 rfl (Or.inr rfl) ⟨rfl, ?_⟩
                        refine z_q1 kq ?_
                        first | (have q := tw_0 (T := T) (L := L) (p := p) (by omega); omega) | (have q := tw_left (T := T) (L := L) (p := p) (by omega); omega)
                      · exfalso; omega
                    · skip
                      refine z_iconst (0) dX6_isWord_54 rfl ?_
                      refine z_bret dX6_isWord_55 rfl (Or.inl rfl) ⟨rfl, ?_⟩
                      refine z_q0 kq ?_
                      first | (have q := tw_0 (T := T) (L := L) (p := p) (by omega); omega) | (have q := tw_left (T := T) (L := L) (p := p) (by omega); omega)
                · skip
                  refine z_iconst (0) dX6_isWord_54 rfl ?_
                  refine z_bret dX6_isWord_55 rfl (Or.inl rfl) ⟨rfl, ?_⟩
                  refine z_q0 kq ?_
                  first | (have q := tw_0 (T := T) (L := L) (p := p) (by omega); omega) | (have q := tw_left (T := T) (L := L) (p := p) (by omega); omega)
            · skip
              refine z_iconst (0) dX6_isWord_54 rfl ?_
              refine z_bret dX6_isWord_55 rfl (Or.inl rfl) ⟨rfl, ?_⟩
              refine z_q0 kq ?_
              first | (have q := tw_0 (T := T) (L := L) (p := p) (by omega); omega) | (have q := tw_left (T := T) (L := L) (p := p) (by omega); omega)
        · skip
          refine z_iconst (0) dX6_isWord_54 rfl ?_
          refine z_bret dX6_isWord_55 rfl (Or.inl rfl) ⟨rfl, ?_⟩
          refine z_q0 kq ?_
          first | (have q := tw_0 (T := T) (L := L) (p := p) (by omega); omega) | (have q := tw_left (T := T) (L := L) (p := p) (by omega); omega)
    · skip
      refine z_iconst (0) dX6_isWord_23 rfl ?_
      refine z_bret dX6_isWord_24 rfl (Or.inl rfl) ⟨rfl, ?_⟩
      refine z_q0 kq ?_
      first | (have q := tw_0 (T := T) (L := L) (p := p) (by omega); omega) | (have q := tw_left (T := T) (L := L) (p := p) (by omega); omega)

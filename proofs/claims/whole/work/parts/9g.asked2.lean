/-! ASKED, SHE of the reference -/
theorem dX12_layAsked_0 : decode cX12_layAsked 0 = .ok (.iload_n 1, 1) := by decide +kernel
theorem dX12_layAsked_1 : decode cX12_layAsked 1 = .ok (.ifCond .eq 10, 3) := by decide +kernel
theorem dX12_layAsked_4 : decode cX12_layAsked 4 = .ok (.aload_n 0, 1) := by decide +kernel
theorem dX12_layAsked_5 : decode cX12_layAsked 5 = .ok (.getfield 274, 3) := by decide +kernel
theorem dX12_layAsked_8 : decode cX12_layAsked 8 = .ok (.goto 7, 3) := by decide +kernel
theorem dX12_layAsked_11 : decode cX12_layAsked 11 = .ok (.aload_n 0, 1) := by decide +kernel
theorem dX12_layAsked_12 : decode cX12_layAsked 12 = .ok (.getfield 271, 3) := by decide +kernel
theorem dX12_layAsked_15 : decode cX12_layAsked 15 = .ok (.istore_n 2, 1) := by decide +kernel
theorem dX12_layAsked_16 : decode cX12_layAsked 16 = .ok (.iload_n 1, 1) := by decide +kernel
theorem dX12_layAsked_17 : decode cX12_layAsked 17 = .ok (.ifCond .eq 10, 3) := by decide +kernel
theorem dX12_layAsked_20 : decode cX12_layAsked 20 = .ok (.aload_n 0, 1) := by decide +kernel
theorem dX12_layAsked_21 : decode cX12_layAsked 21 = .ok (.getfield 271, 3) := by decide +kernel
theorem dX12_layAsked_24 : decode cX12_layAsked 24 = .ok (.goto 7, 3) := by decide +kernel
theorem dX12_layAsked_27 : decode cX12_layAsked 27 = .ok (.aload_n 0, 1) := by decide +kernel
theorem dX12_layAsked_28 : decode cX12_layAsked 28 = .ok (.getfield 274, 3) := by decide +kernel
theorem dX12_layAsked_31 : decode cX12_layAsked 31 = .ok (.istore_n 3, 1) := by decide +kernel
theorem dX12_layAsked_32 : decode cX12_layAsked 32 = .ok (.iconst 0, 1) := by decide +kernel
theorem dX12_layAsked_33 : decode cX12_layAsked 33 = .ok (.istore 4, 2) := by decide +kernel
theorem dX12_layAsked_35 : decode cX12_layAsked 35 = .ok (.iload 4, 2) := by decide +kernel
theorem dX12_layAsked_37 : decode cX12_layAsked 37 = .ok (.bipush 6, 2) := by decide +kernel
theorem dX12_layAsked_39 : decode cX12_layAsked 39 = .ok (.if_icmp .ge 34, 3) := by decide +kernel
theorem dX12_layAsked_42 : decode cX12_layAsked 42 = .ok (.aload_n 0, 1) := by decide +kernel
theorem dX12_layAsked_43 : decode cX12_layAsked 43 = .ok (.getfield 65, 3) := by decide +kernel
theorem dX12_layAsked_46 : decode cX12_layAsked 46 = .ok (.iload 4, 2) := by decide +kernel
theorem dX12_layAsked_48 : decode cX12_layAsked 48 = .ok (.iconst 0, 1) := by decide +kernel
theorem dX12_layAsked_49 : decode cX12_layAsked 49 = .ok (.iastore, 1) := by decide +kernel
theorem dX12_layAsked_50 : decode cX12_layAsked 50 = .ok (.aload_n 0, 1) := by decide +kernel
theorem dX12_layAsked_51 : decode cX12_layAsked 51 = .ok (.getfield 68, 3) := by decide +kernel
theorem dX12_layAsked_54 : decode cX12_layAsked 54 = .ok (.iload 4, 2) := by decide +kernel
theorem dX12_layAsked_56 : decode cX12_layAsked 56 = .ok (.bipush 6, 2) := by decide +kernel
theorem dX12_layAsked_58 : decode cX12_layAsked 58 = .ok (.iastore, 1) := by decide +kernel
theorem dX12_layAsked_59 : decode cX12_layAsked 59 = .ok (.aload_n 0, 1) := by decide +kernel
theorem dX12_layAsked_60 : decode cX12_layAsked 60 = .ok (.getfield 71, 3) := by decide +kernel
theorem dX12_layAsked_63 : decode cX12_layAsked 63 = .ok (.iload 4, 2) := by decide +kernel
theorem dX12_layAsked_65 : decode cX12_layAsked 65 = .ok (.iconst 0, 1) := by decide +kernel
theorem dX12_layAsked_66 : decode cX12_layAsked 66 = .ok (.bastore, 1) := by decide +kernel
theorem dX12_layAsked_67 : decode cX12_layAsked 67 = .ok (.iinc 4 1, 3) := by decide +kernel
theorem dX12_layAsked_70 : decode cX12_layAsked 70 = .ok (.goto (-35), 3) := by decide +kernel
theorem dX12_layAsked_73 : decode cX12_layAsked 73 = .ok (.iconst 1, 1) := by decide +kernel
theorem dX12_layAsked_74 : decode cX12_layAsked 74 = .ok (.istore 4, 2) := by decide +kernel
theorem dX12_layAsked_76 : decode cX12_layAsked 76 = .ok (.iload 4, 2) := by decide +kernel
theorem dX12_layAsked_78 : decode cX12_layAsked 78 = .ok (.ifCond .eq 80, 3) := by decide +kernel
theorem dX12_layAsked_81 : decode cX12_layAsked 81 = .ok (.iconst 0, 1) := by decide +kernel
theorem dX12_layAsked_82 : decode cX12_layAsked 82 = .ok (.istore 4, 2) := by decide +kernel
theorem dX12_layAsked_84 : decode cX12_layAsked 84 = .ok (.iconst 0, 1) := by decide +kernel
theorem dX12_layAsked_85 : decode cX12_layAsked 85 = .ok (.istore 5, 2) := by decide +kernel
theorem dX12_layAsked_87 : decode cX12_layAsked 87 = .ok (.iload 5, 2) := by decide +kernel
theorem dX12_layAsked_89 : decode cX12_layAsked 89 = .ok (.iload_n 2, 1) := by decide +kernel
theorem dX12_layAsked_90 : decode cX12_layAsked 90 = .ok (.if_icmp .ge 65, 3) := by decide +kernel
theorem dX12_layAsked_93 : decode cX12_layAsked 93 = .ok (.aload_n 0, 1) := by decide +kernel
theorem dX12_layAsked_94 : decode cX12_layAsked 94 = .ok (.getfield 71, 3) := by decide +kernel
theorem dX12_layAsked_97 : decode cX12_layAsked 97 = .ok (.iload 5, 2) := by decide +kernel
theorem dX12_layAsked_99 : decode cX12_layAsked 99 = .ok (.baload, 1) := by decide +kernel
theorem dX12_layAsked_100 : decode cX12_layAsked 100 = .ok (.ifCond .eq 7, 3) := by decide +kernel
theorem dX12_layAsked_103 : decode cX12_layAsked 103 = .ok (.iconst (-1), 1) := by decide +kernel
theorem dX12_layAsked_104 : decode cX12_layAsked 104 = .ok (.goto 11, 3) := by decide +kernel
theorem dX12_layAsked_107 : decode cX12_layAsked 107 = .ok (.aload_n 0, 1) := by decide +kernel
theorem dX12_layAsked_108 : decode cX12_layAsked 108 = .ok (.iload 5, 2) := by decide +kernel
theorem dX12_layAsked_110 : decode cX12_layAsked 110 = .ok (.iload_n 3, 1) := by decide +kernel
theorem dX12_layAsked_111 : decode cX12_layAsked 111 = .ok (.iload_n 1, 1) := by decide +kernel
theorem dX12_layAsked_112 : decode cX12_layAsked 112 = .ok (.invokevirtual 394, 3) := by decide +kernel
theorem dX12_layAsked_115 : decode cX12_layAsked 115 = .ok (.istore 6, 2) := by decide +kernel
theorem dX12_layAsked_117 : decode cX12_layAsked 117 = .ok (.iload 6, 2) := by decide +kernel
theorem dX12_layAsked_119 : decode cX12_layAsked 119 = .ok (.iconst (-1), 1) := by decide +kernel
theorem dX12_layAsked_120 : decode cX12_layAsked 120 = .ok (.if_icmp .eq 29, 3) := by decide +kernel
theorem dX12_layAsked_123 : decode cX12_layAsked 123 = .ok (.iconst 1, 1) := by decide +kernel
theorem dX12_layAsked_124 : decode cX12_layAsked 124 = .ok (.istore 4, 2) := by decide +kernel
theorem dX12_layAsked_126 : decode cX12_layAsked 126 = .ok (.aload_n 0, 1) := by decide +kernel
theorem dX12_layAsked_127 : decode cX12_layAsked 127 = .ok (.getfield 65, 3) := by decide +kernel
theorem dX12_layAsked_130 : decode cX12_layAsked 130 = .ok (.iload 5, 2) := by decide +kernel
theorem dX12_layAsked_132 : decode cX12_layAsked 132 = .ok (.dup2, 1) := by decide +kernel
theorem dX12_layAsked_133 : decode cX12_layAsked 133 = .ok (.iaload, 1) := by decide +kernel
theorem dX12_layAsked_134 : decode cX12_layAsked 134 = .ok (.iconst 1, 1) := by decide +kernel
theorem dX12_layAsked_135 : decode cX12_layAsked 135 = .ok (.iload 6, 2) := by decide +kernel
theorem dX12_layAsked_137 : decode cX12_layAsked 137 = .ok (.ishl, 1) := by decide +kernel
theorem dX12_layAsked_138 : decode cX12_layAsked 138 = .ok (.ior, 1) := by decide +kernel
theorem dX12_layAsked_139 : decode cX12_layAsked 139 = .ok (.iastore, 1) := by decide +kernel
theorem dX12_layAsked_140 : decode cX12_layAsked 140 = .ok (.aload_n 0, 1) := by decide +kernel
theorem dX12_layAsked_141 : decode cX12_layAsked 141 = .ok (.iload 5, 2) := by decide +kernel
theorem dX12_layAsked_143 : decode cX12_layAsked 143 = .ok (.iload 6, 2) := by decide +kernel
theorem dX12_layAsked_145 : decode cX12_layAsked 145 = .ok (.iload_n 1, 1) := by decide +kernel
theorem dX12_layAsked_146 : decode cX12_layAsked 146 = .ok (.invokevirtual 398, 3) := by decide +kernel
theorem dX12_layAsked_149 : decode cX12_layAsked 149 = .ok (.iinc 5 1, 3) := by decide +kernel
theorem dX12_layAsked_152 : decode cX12_layAsked 152 = .ok (.goto (-65), 3) := by decide +kernel
theorem dX12_layAsked_155 : decode cX12_layAsked 155 = .ok (.goto (-79), 3) := by decide +kernel
theorem dX12_layAsked_158 : decode cX12_layAsked 158 = .ok (.iconst 0, 1) := by decide +kernel
theorem dX12_layAsked_159 : decode cX12_layAsked 159 = .ok (.istore 5, 2) := by decide +kernel
theorem dX12_layAsked_161 : decode cX12_layAsked 161 = .ok (.iload 5, 2) := by decide +kernel
theorem dX12_layAsked_163 : decode cX12_layAsked 163 = .ok (.bipush 6, 2) := by decide +kernel
theorem dX12_layAsked_165 : decode cX12_layAsked 165 = .ok (.if_icmp .ge 32, 3) := by decide +kernel
theorem dX12_layAsked_168 : decode cX12_layAsked 168 = .ok (.aload_n 0, 1) := by decide +kernel
theorem dX12_layAsked_169 : decode cX12_layAsked 169 = .ok (.getfield 56, 3) := by decide +kernel
theorem dX12_layAsked_172 : decode cX12_layAsked 172 = .ok (.iload 5, 2) := by decide +kernel
theorem dX12_layAsked_174 : decode cX12_layAsked 174 = .ok (.iload_n 1, 1) := by decide +kernel
theorem dX12_layAsked_175 : decode cX12_layAsked 175 = .ok (.ifCond .eq 13, 3) := by decide +kernel
theorem dX12_layAsked_178 : decode cX12_layAsked 178 = .ok (.aload_n 0, 1) := by decide +kernel
theorem dX12_layAsked_179 : decode cX12_layAsked 179 = .ok (.getfield 68, 3) := by decide +kernel
theorem dX12_layAsked_182 : decode cX12_layAsked 182 = .ok (.iload 5, 2) := by decide +kernel
theorem dX12_layAsked_184 : decode cX12_layAsked 184 = .ok (.iaload, 1) := by decide +kernel
theorem dX12_layAsked_185 : decode cX12_layAsked 185 = .ok (.goto 5, 3) := by decide +kernel
theorem dX12_layAsked_188 : decode cX12_layAsked 188 = .ok (.bipush 6, 2) := by decide +kernel
theorem dX12_layAsked_190 : decode cX12_layAsked 190 = .ok (.iastore, 1) := by decide +kernel
theorem dX12_layAsked_191 : decode cX12_layAsked 191 = .ok (.iinc 5 1, 3) := by decide +kernel
theorem dX12_layAsked_194 : decode cX12_layAsked 194 = .ok (.goto (-33), 3) := by decide +kernel
theorem dX12_layAsked_197 : decode cX12_layAsked 197 = .ok (.iconst 0, 1) := by decide +kernel
theorem dX12_layAsked_198 : decode cX12_layAsked 198 = .ok (.istore 5, 2) := by decide +kernel
theorem dX12_layAsked_200 : decode cX12_layAsked 200 = .ok (.iload 5, 2) := by decide +kernel
theorem dX12_layAsked_202 : decode cX12_layAsked 202 = .ok (.aload_n 0, 1) := by decide +kernel
theorem dX12_layAsked_203 : decode cX12_layAsked 203 = .ok (.getfield 274, 3) := by decide +kernel
theorem dX12_layAsked_206 : decode cX12_layAsked 206 = .ok (.if_icmp .ge 39, 3) := by decide +kernel
theorem dX12_layAsked_209 : decode cX12_layAsked 209 = .ok (.iload_n 1, 1) := by decide +kernel
theorem dX12_layAsked_210 : decode cX12_layAsked 210 = .ok (.ifCond .ne 35, 3) := by decide +kernel
theorem dX12_layAsked_213 : decode cX12_layAsked 213 = .ok (.aload_n 0, 1) := by decide +kernel
theorem dX12_layAsked_214 : decode cX12_layAsked 214 = .ok (.getfield 68, 3) := by decide +kernel
theorem dX12_layAsked_217 : decode cX12_layAsked 217 = .ok (.iload 5, 2) := by decide +kernel
theorem dX12_layAsked_219 : decode cX12_layAsked 219 = .ok (.iaload, 1) := by decide +kernel
theorem dX12_layAsked_220 : decode cX12_layAsked 220 = .ok (.bipush 6, 2) := by decide +kernel
theorem dX12_layAsked_222 : decode cX12_layAsked 222 = .ok (.if_icmp .ge 17, 3) := by decide +kernel
theorem dX12_layAsked_225 : decode cX12_layAsked 225 = .ok (.aload_n 0, 1) := by decide +kernel
theorem dX12_layAsked_226 : decode cX12_layAsked 226 = .ok (.getfield 56, 3) := by decide +kernel
theorem dX12_layAsked_229 : decode cX12_layAsked 229 = .ok (.aload_n 0, 1) := by decide +kernel
theorem dX12_layAsked_230 : decode cX12_layAsked 230 = .ok (.getfield 68, 3) := by decide +kernel
theorem dX12_layAsked_233 : decode cX12_layAsked 233 = .ok (.iload 5, 2) := by decide +kernel
theorem dX12_layAsked_235 : decode cX12_layAsked 235 = .ok (.iaload, 1) := by decide +kernel
theorem dX12_layAsked_236 : decode cX12_layAsked 236 = .ok (.iload 5, 2) := by decide +kernel
theorem dX12_layAsked_238 : decode cX12_layAsked 238 = .ok (.iastore, 1) := by decide +kernel
theorem dX12_layAsked_239 : decode cX12_layAsked 239 = .ok (.iinc 5 1, 3) := by decide +kernel
theorem dX12_layAsked_242 : decode cX12_layAsked 242 = .ok (.goto (-42), 3) := by decide +kernel
theorem dX12_layAsked_245 : decode cX12_layAsked 245 = .ok (.return_, 1) := by decide +kernel
theorem dX12_nextFor_0 : decode cX12_nextFor 0 = .ok (.iconst (-1), 1) := by decide +kernel
theorem dX12_nextFor_1 : decode cX12_nextFor 1 = .ok (.istore 4, 2) := by decide +kernel
theorem dX12_nextFor_3 : decode cX12_nextFor 3 = .ok (.iconst 0, 1) := by decide +kernel
theorem dX12_nextFor_4 : decode cX12_nextFor 4 = .ok (.istore 5, 2) := by decide +kernel
theorem dX12_nextFor_6 : decode cX12_nextFor 6 = .ok (.iload 5, 2) := by decide +kernel
theorem dX12_nextFor_8 : decode cX12_nextFor 8 = .ok (.iload_n 2, 1) := by decide +kernel
theorem dX12_nextFor_9 : decode cX12_nextFor 9 = .ok (.if_icmp .ge 81, 3) := by decide +kernel
theorem dX12_nextFor_12 : decode cX12_nextFor 12 = .ok (.iload 4, 2) := by decide +kernel
theorem dX12_nextFor_14 : decode cX12_nextFor 14 = .ok (.iconst (-1), 1) := by decide +kernel
theorem dX12_nextFor_15 : decode cX12_nextFor 15 = .ok (.if_icmp .eq 34, 3) := by decide +kernel
theorem dX12_nextFor_18 : decode cX12_nextFor 18 = .ok (.iload_n 3, 1) := by decide +kernel
theorem dX12_nextFor_19 : decode cX12_nextFor 19 = .ok (.ifCond .eq 18, 3) := by decide +kernel
theorem dX12_nextFor_22 : decode cX12_nextFor 22 = .ok (.aload_n 0, 1) := by decide +kernel
theorem dX12_nextFor_23 : decode cX12_nextFor 23 = .ok (.iload_n 1, 1) := by decide +kernel
theorem dX12_nextFor_24 : decode cX12_nextFor 24 = .ok (.iload 5, 2) := by decide +kernel
theorem dX12_nextFor_26 : decode cX12_nextFor 26 = .ok (.iload 4, 2) := by decide +kernel
theorem dX12_nextFor_28 : decode cX12_nextFor 28 = .ok (.invokevirtual 385, 3) := by decide +kernel
theorem dX12_nextFor_31 : decode cX12_nextFor 31 = .ok (.ifCond .eq 22, 3) := by decide +kernel
theorem dX12_nextFor_34 : decode cX12_nextFor 34 = .ok (.goto 15, 3) := by decide +kernel
theorem dX12_nextFor_37 : decode cX12_nextFor 37 = .ok (.aload_n 0, 1) := by decide +kernel
theorem dX12_nextFor_38 : decode cX12_nextFor 38 = .ok (.iload_n 1, 1) := by decide +kernel
theorem dX12_nextFor_39 : decode cX12_nextFor 39 = .ok (.iload 5, 2) := by decide +kernel
theorem dX12_nextFor_41 : decode cX12_nextFor 41 = .ok (.iload 4, 2) := by decide +kernel
theorem dX12_nextFor_43 : decode cX12_nextFor 43 = .ok (.invokevirtual 382, 3) := by decide +kernel
theorem dX12_nextFor_46 : decode cX12_nextFor 46 = .ok (.ifCond .eq 7, 3) := by decide +kernel
theorem dX12_nextFor_49 : decode cX12_nextFor 49 = .ok (.iconst 1, 1) := by decide +kernel
theorem dX12_nextFor_50 : decode cX12_nextFor 50 = .ok (.goto 4, 3) := by decide +kernel
theorem dX12_nextFor_53 : decode cX12_nextFor 53 = .ok (.iconst 0, 1) := by decide +kernel
theorem dX12_nextFor_54 : decode cX12_nextFor 54 = .ok (.istore 6, 2) := by decide +kernel
theorem dX12_nextFor_56 : decode cX12_nextFor 56 = .ok (.aload_n 0, 1) := by decide +kernel
theorem dX12_nextFor_57 : decode cX12_nextFor 57 = .ok (.getfield 65, 3) := by decide +kernel
theorem dX12_nextFor_60 : decode cX12_nextFor 60 = .ok (.iload_n 1, 1) := by decide +kernel
theorem dX12_nextFor_61 : decode cX12_nextFor 61 = .ok (.iaload, 1) := by decide +kernel
theorem dX12_nextFor_62 : decode cX12_nextFor 62 = .ok (.iload 5, 2) := by decide +kernel
theorem dX12_nextFor_64 : decode cX12_nextFor 64 = .ok (.invokestatic 107, 3) := by decide +kernel
theorem dX12_nextFor_67 : decode cX12_nextFor 67 = .ok (.ifCond .ne 13, 3) := by decide +kernel
theorem dX12_nextFor_70 : decode cX12_nextFor 70 = .ok (.iload 6, 2) := by decide +kernel
theorem dX12_nextFor_72 : decode cX12_nextFor 72 = .ok (.ifCond .eq 8, 3) := by decide +kernel
theorem dX12_nextFor_75 : decode cX12_nextFor 75 = .ok (.iload 5, 2) := by decide +kernel
theorem dX12_nextFor_77 : decode cX12_nextFor 77 = .ok (.goto 5, 3) := by decide +kernel
theorem dX12_nextFor_80 : decode cX12_nextFor 80 = .ok (.iload 4, 2) := by decide +kernel
theorem dX12_nextFor_82 : decode cX12_nextFor 82 = .ok (.istore 4, 2) := by decide +kernel
theorem dX12_nextFor_84 : decode cX12_nextFor 84 = .ok (.iinc 5 1, 3) := by decide +kernel
theorem dX12_nextFor_87 : decode cX12_nextFor 87 = .ok (.goto (-81), 3) := by decide +kernel
theorem dX12_nextFor_90 : decode cX12_nextFor 90 = .ok (.iload 4, 2) := by decide +kernel
theorem dX12_nextFor_92 : decode cX12_nextFor 92 = .ok (.ireturn, 1) := by decide +kernel
theorem dX12_asksFor_0 : decode cX12_asksFor 0 = .ok (.aload_n 0, 1) := by decide +kernel
theorem dX12_asksFor_1 : decode cX12_asksFor 1 = .ok (.getfield 68, 3) := by decide +kernel
theorem dX12_asksFor_4 : decode cX12_asksFor 4 = .ok (.iload_n 2, 1) := by decide +kernel
theorem dX12_asksFor_5 : decode cX12_asksFor 5 = .ok (.iaload, 1) := by decide +kernel
theorem dX12_asksFor_6 : decode cX12_asksFor 6 = .ok (.istore 4, 2) := by decide +kernel
theorem dX12_asksFor_8 : decode cX12_asksFor 8 = .ok (.iload_n 3, 1) := by decide +kernel
theorem dX12_asksFor_9 : decode cX12_asksFor 9 = .ok (.ifCond .eq 14, 3) := by decide +kernel
theorem dX12_asksFor_12 : decode cX12_asksFor 12 = .ok (.aload_n 0, 1) := by decide +kernel
theorem dX12_asksFor_13 : decode cX12_asksFor 13 = .ok (.iload_n 2, 1) := by decide +kernel
theorem dX12_asksFor_14 : decode cX12_asksFor 14 = .ok (.iload_n 1, 1) := by decide +kernel
theorem dX12_asksFor_15 : decode cX12_asksFor 15 = .ok (.iload 4, 2) := by decide +kernel
theorem dX12_asksFor_17 : decode cX12_asksFor 17 = .ok (.invokevirtual 382, 3) := by decide +kernel
theorem dX12_asksFor_20 : decode cX12_asksFor 20 = .ok (.goto 11, 3) := by decide +kernel
theorem dX12_asksFor_23 : decode cX12_asksFor 23 = .ok (.aload_n 0, 1) := by decide +kernel
theorem dX12_asksFor_24 : decode cX12_asksFor 24 = .ok (.iload_n 2, 1) := by decide +kernel
theorem dX12_asksFor_25 : decode cX12_asksFor 25 = .ok (.iload_n 1, 1) := by decide +kernel
theorem dX12_asksFor_26 : decode cX12_asksFor 26 = .ok (.iload 4, 2) := by decide +kernel
theorem dX12_asksFor_28 : decode cX12_asksFor 28 = .ok (.invokevirtual 385, 3) := by decide +kernel
theorem dX12_asksFor_31 : decode cX12_asksFor 31 = .ok (.istore 5, 2) := by decide +kernel
theorem dX12_asksFor_33 : decode cX12_asksFor 33 = .ok (.iload 5, 2) := by decide +kernel
theorem dX12_asksFor_35 : decode cX12_asksFor 35 = .ok (.ifCond .eq 32, 3) := by decide +kernel
theorem dX12_asksFor_38 : decode cX12_asksFor 38 = .ok (.iload 4, 2) := by decide +kernel
theorem dX12_asksFor_40 : decode cX12_asksFor 40 = .ok (.bipush 6, 2) := by decide +kernel
theorem dX12_asksFor_42 : decode cX12_asksFor 42 = .ok (.if_icmp .ge 11, 3) := by decide +kernel
theorem dX12_asksFor_45 : decode cX12_asksFor 45 = .ok (.aload_n 0, 1) := by decide +kernel
theorem dX12_asksFor_46 : decode cX12_asksFor 46 = .ok (.getfield 71, 3) := by decide +kernel
theorem dX12_asksFor_49 : decode cX12_asksFor 49 = .ok (.iload 4, 2) := by decide +kernel
theorem dX12_asksFor_51 : decode cX12_asksFor 51 = .ok (.iconst 0, 1) := by decide +kernel
theorem dX12_asksFor_52 : decode cX12_asksFor 52 = .ok (.bastore, 1) := by decide +kernel
theorem dX12_asksFor_53 : decode cX12_asksFor 53 = .ok (.aload_n 0, 1) := by decide +kernel
theorem dX12_asksFor_54 : decode cX12_asksFor 54 = .ok (.getfield 68, 3) := by decide +kernel
theorem dX12_asksFor_57 : decode cX12_asksFor 57 = .ok (.iload_n 2, 1) := by decide +kernel
theorem dX12_asksFor_58 : decode cX12_asksFor 58 = .ok (.iload_n 1, 1) := by decide +kernel
theorem dX12_asksFor_59 : decode cX12_asksFor 59 = .ok (.iastore, 1) := by decide +kernel
theorem dX12_asksFor_60 : decode cX12_asksFor 60 = .ok (.aload_n 0, 1) := by decide +kernel
theorem dX12_asksFor_61 : decode cX12_asksFor 61 = .ok (.getfield 71, 3) := by decide +kernel
theorem dX12_asksFor_64 : decode cX12_asksFor 64 = .ok (.iload_n 1, 1) := by decide +kernel
theorem dX12_asksFor_65 : decode cX12_asksFor 65 = .ok (.iconst 1, 1) := by decide +kernel
theorem dX12_asksFor_66 : decode cX12_asksFor 66 = .ok (.bastore, 1) := by decide +kernel
theorem dX12_asksFor_67 : decode cX12_asksFor 67 = .ok (.return_, 1) := by decide +kernel
set_option maxRecDepth 20000 in
theorem tm_12_394 : tMet TB0 12 394 = some (0, M_X12_nextFor) := rfl
set_option maxRecDepth 20000 in
theorem tm_12_398 : tMet TB0 12 398 = some (0, M_X12_asksFor) := rfl
def stE (h : mH) (m : Nat) (g : Int → Int) : Prop := ∃ r, rRw h m g r ∧ stn g r
theorem da_Hb {K : Int → Int → Int} {na no : Int} {A H L : Int → Int} (I : daI K na no A H L) {b : Int} (b0 : 0 ≤ b) (b1 : b < 6) : H b = 6 ∨ ((0 ≤ H b ∧ H b < 6) ∧ H b < na) := by
  rcases I.2.1 b b0 b1 with q | q
  · exact Or.inl q
  · exact Or.inr ⟨q.1.2.1, q.1.2.2.1⟩
theorem da_Lb {K : Int → Int → Int} {na no : Int} {A H L : Int → Int} (I : daI K na no A H L) {a : Int} (a0 : 0 ≤ a) (a1 : a < 6) : L a = 0 ∨ L a = 1 := by
  rcases I.2.2.1 a a0 a1 with q | q
  · exact Or.inl q.1
  · exact Or.inr q.1
theorem da_nh {K : Int → Int → Int} {na no : Int} {A H L : Int → Int} (I : daI K na no A H L) {a : Int} (a0 : 0 ≤ a) (a1 : a < 6) (z : L a = 0) : ∀ x, 0 ≤ x → x < 6 → H x ≠ a := by
  rcases I.2.2.1 a a0 a1 with q | q
  · exact q.2
  · omega
theorem da_e {K : Int → Int → Int} {na no : Int} {A H L A' H' L' : Int → Int} (I : daI K na no A H L) (e1 : A' = A) (e2 : H' = H) (e3 : L' = L) : daI K na no A' H' L' := by rw [e1, e2, e3]; exact I
theorem nf_best {K : Int → Int} {M no v : Int} (f : fmax (fun k => ¬ hasZ M k) K no v) (hv : v ≠ -1) : ¬ hasZ M v ∧ ∀ x, 0 ≤ x → x < no → K v < K x → hasZ M x := by
  rcases f with q | ⟨q1, q2, q3⟩
  · exact absurd q.1 hv
  · refine ⟨q2, fun x a b l => Decidable.byContradiction (fun z => ?_)⟩
    have := q3 x a b z
    omega
theorem nf_none {K : Int → Int} {M no v : Int} (f : fmax (fun k => ¬ hasZ M k) K no v) (hv : v = -1) : ∀ x, 0 ≤ x → x < no → hasZ M x := by
  rcases f with q | ⟨q1, q2, q3⟩
  · exact fun x a b => Decidable.byContradiction (fun z => q.2 x a b z)
  · omega
set_option maxHeartbeats 1000000 in
theorem zp_X12_nextFor_0 {ad : mA} {dd : Nat} {h : mH} {Q : mQ} {m : Nat} {g : Int → Int} {M : Int} (hk : rk h m) (HB : rB h m g)  (a : Int) (a_r : -2147483648 ≤ a ∧ a < 2147483648) (no : Int) (no_r : -2147483648 ≤ no ∧ no < 2147483648) (p1 : 0 ≤ a ∧ a < nd g) (pno : no = nu g) (hM : rI h (m + 19) a = M) (hM2 : 0 ≤ M ∧ M < 64) (kq : ∀ v : Int, (fmax (fun k => ¬ hasZ M k) (fun k => KY g a k) no v) → Q (some (.int (zI v))) h) : mCal TB0 ad (dd + 4) M_X12_nextFor [.ref m, .int (zI a), .int (zI no), .int (zI 0)] h 0 0 Q := by
  refine ⟨Nat.le_of_ble_eq_true rfl, ?_⟩
  show mEv TB0 ad M_X12_nextFor (dd + 4) (0, 0) (mCal TB0 ad (dd + 3)) (fun v h' z => z.1 = 0 ∧ Q v h') 0 [some (.ref m), some (.int (zI a)), some (.int (zI no)), some (.int (zI 0)), none, none, none] [] h (0, 0)
  have w1 := rB_n HB
  have w2 := rB_nd HB
  have w3 := rB_nu HB
  refine z_iconst (-1) dX12_nextFor_0 rfl ?_
  refine e_istore (L' := [_, _, _, _, _, _, _]) dX12_nextFor_1 (Nat.le_of_ble_eq_true rfl) rfl ?_
  refine z_iconst (0) dX12_nextFor_3 rfl ?_
  refine e_istore (L' := [_, _, _, _, _, _, _]) dX12_nextFor_4 (Nat.le_of_ble_eq_true rfl) rfl ?_
  have lp1 : ∀ (n1 : Nat) (v k : Int), (no - k).toNat = n1 → (0 ≤ k ∧ k ≤ no) → (fmax (fun k => ¬ hasZ M k) (fun k => KY g a k) k v) → mEv TB0 ad M_X12_nextFor (dd + 4) (0, 0) (mCal TB0 ad (dd + 3)) (fun v h' z => z.1 = 0 ∧ Q v h') 6 [some (.ref m), some (.int (zI a)), some (.int (zI no)), some (.int (zI 0)), some (.int (zI v)), some (.int (zI k)), none] [] h (0, 0) := by
    intro n1
    induction n1 using Nat.strongRecOn with
    | ind n1 ih1 =>
    intro v k  hn1  I1 I3
    refine e_iload dX12_nextFor_6 rfl ?_
    have qb := fmax_b I3
    refine e_iload_n dX12_nextFor_8 rfl ?_
    refine z_icmp_ge 90 dX12_nextFor_9 rfl ⟨by omega, by omega⟩ ⟨by omega, by omega⟩ (fun c2 => ?_) (fun c2 => ?_)
    · skip
      refine e_iload dX12_nextFor_90 rfl ?_
      refine z_iret dX12_nextFor_92 rfl ⟨rfl, ?_⟩
      refine kq _ ?_
      rw [show no = k by omega]; exact I3
    · skip
      refine e_iload dX12_nextFor_12 rfl ?_
      refine z_iconst (-1) dX12_nextFor_14 rfl ?_
      refine z_icmp_eq 49 dX12_nextFor_15 rfl ⟨by omega, by omega⟩ ⟨by omega, by omega⟩ (fun c3 => ?_) (fun c3 => ?_)
      · skip
        refine z_iconst (1) dX12_nextFor_49 rfl ?_
        refine e_goto 54 dX12_nextFor_50 rfl ?_
        refine e_istore (L' := [_, _, _, _, _, _, _]) dX12_nextFor_54 (Nat.le_of_ble_eq_true rfl) rfl ?_
        refine e_aload_n dX12_nextFor_56 rfl ?_
        refine e_get (.ref (m + 19)) dX12_nextFor_57 tf_12_65 (rk_s hk) (congrArg va_rf (rk_r19 hk)) ?_
        refine e_iload_n dX12_nextFor_60 rfl ?_
        refine z_ild M dX12_nextFor_61 (rk_a19 hk) (by decide) (by omega) (by omega) hM ?_
        refine e_iload dX12_nextFor_62 rfl ?_
        refine e_callS [.int _, .int _] dX12_nextFor_64 tm_12_107 rfl (Nat.le_of_ble_eq_true rfl) (Nat.le_refl _) (Nat.le_refl _) rfl (zp_X12_has M ⟨by omega, by omega⟩ k ⟨by omega, by omega⟩ (by omega) (by omega) (by omega) ?_)
        refine z_ifb_ne 80 dX12_nextFor_67 rfl (fun c4 => ?_) (fun c4 => ?_)
        · skip
          refine e_iload dX12_nextFor_80 rfl ?_
          refine e_istore (L' := [_, _, _, _, _, _, _]) dX12_nextFor_82 (Nat.le_of_ble_eq_true rfl) rfl ?_
          refine z_iinc (L' := [_, _, _, _, _, _, _]) dX12_nextFor_84 rfl rfl ?_
          refine e_goto 6 dX12_nextFor_87 rfl ?_
          exact mEv_wk (by exact ⟨Or.inr rfl, Or.inr rfl, Or.inr rfl, Or.inr rfl, Or.inr rfl, Or.inr rfl, Or.inl rfl, trivial⟩) (ih1 _ (by omega) v (k + 1)  rfl  (by omega) (by first | exact fmax_no I3 (fun z => z (by assumption)) | exact fmax_new I3 (by omega) (by assumption) (Or.inl (by omega)) | exact fmax_new I3 (by omega) (by assumption) (Or.inr (by rcases (by assumption : v = 6 ∨ KY g a v < KY g a k) with q | q; omega; exact q)) | exact fmax_keep I3 (by omega) (by show KY g a k ≤ KY g a v; have z : ¬ (v = 6 ∨ KY g a v < KY g a k) := (by assumption); omega)))
        · skip
          refine e_iload dX12_nextFor_70 rfl ?_
          refine z_if_eq 80 dX12_nextFor_72 rfl ⟨by omega, by omega⟩ (fun c5 => ?_) (fun c5 => ?_)
          · exfalso; omega
          · skip
            refine e_iload dX12_nextFor_75 rfl ?_
            refine e_goto 82 dX12_nextFor_77 rfl ?_
            refine e_istore (L' := [_, _, _, _, _, _, _]) dX12_nextFor_82 (Nat.le_of_ble_eq_true rfl) rfl ?_
            refine z_iinc (L' := [_, _, _, _, _, _, _]) dX12_nextFor_84 rfl rfl ?_
            refine e_goto 6 dX12_nextFor_87 rfl ?_
            exact mEv_wk (by exact ⟨Or.inr rfl, Or.inr rfl, Or.inr rfl, Or.inr rfl, Or.inr rfl, Or.inr rfl, Or.inl rfl, trivial⟩) (ih1 _ (by omega) k (k + 1)  rfl  (by omega) (by first | exact fmax_no I3 (fun z => z (by assumption)) | exact fmax_new I3 (by omega) (by assumption) (Or.inl (by omega)) | exact fmax_new I3 (by omega) (by assumption) (Or.inr (by rcases (by assumption : v = 6 ∨ KY g a v < KY g a k) with q | q; omega; exact q)) | exact fmax_keep I3 (by omega) (by show KY g a k ≤ KY g a v; have z : ¬ (v = 6 ∨ KY g a v < KY g a k) := (by assumption); omega)))
      · skip
        refine e_iload_n dX12_nextFor_18 rfl ?_
        refine z_if_eq 37 dX12_nextFor_19 rfl ⟨by omega, by omega⟩ (fun c6 => ?_) (fun c6 => ?_)
        · skip
          refine e_aload_n dX12_nextFor_37 rfl ?_
          refine e_iload_n dX12_nextFor_38 rfl ?_
          refine e_iload dX12_nextFor_39 rfl ?_
          refine e_iload dX12_nextFor_41 rfl ?_
          refine e_callV [.int _, .int _, .int _] dX12_nextFor_43 tm_12_382 rfl (Nat.le_of_ble_eq_true rfl) (rk_s hk) (Nat.le_of_ble_eq_true rfl) (Nat.le_refl _) (Nat.le_refl _) rfl (zp_X12_likesK hk HB a ⟨by omega, by omega⟩ k ⟨by omega, by omega⟩ v ⟨by omega, by omega⟩ (by omega) (by omega) (by omega) ?_)
          refine z_ifb_eq 53 dX12_nextFor_46 rfl (fun c7 => ?_) (fun c7 => ?_)
          · skip
            refine z_iconst (0) dX12_nextFor_53 rfl ?_
            refine e_istore (L' := [_, _, _, _, _, _, _]) dX12_nextFor_54 (Nat.le_of_ble_eq_true rfl) rfl ?_
            refine e_aload_n dX12_nextFor_56 rfl ?_
            refine e_get (.ref (m + 19)) dX12_nextFor_57 tf_12_65 (rk_s hk) (congrArg va_rf (rk_r19 hk)) ?_
            refine e_iload_n dX12_nextFor_60 rfl ?_
            refine z_ild M dX12_nextFor_61 (rk_a19 hk) (by decide) (by omega) (by omega) hM ?_
            refine e_iload dX12_nextFor_62 rfl ?_
            refine e_callS [.int _, .int _] dX12_nextFor_64 tm_12_107 rfl (Nat.le_of_ble_eq_true rfl) (Nat.le_refl _) (Nat.le_refl _) rfl (zp_X12_has M ⟨by omega, by omega⟩ k ⟨by omega, by omega⟩ (by omega) (by omega) (by omega) ?_)
            refine z_ifb_ne 80 dX12_nextFor_67 rfl (fun c8 => ?_) (fun c8 => ?_)
            · skip
              refine e_iload dX12_nextFor_80 rfl ?_
              refine e_istore (L' := [_, _, _, _, _, _, _]) dX12_nextFor_82 (Nat.le_of_ble_eq_true rfl) rfl ?_
              refine z_iinc (L' := [_, _, _, _, _, _, _]) dX12_nextFor_84 rfl rfl ?_
              refine e_goto 6 dX12_nextFor_87 rfl ?_
              exact mEv_wk (by exact ⟨Or.inr rfl, Or.inr rfl, Or.inr rfl, Or.inr rfl, Or.inr rfl, Or.inr rfl, Or.inl rfl, trivial⟩) (ih1 _ (by omega) v (k + 1)  rfl  (by omega) (by first | exact fmax_no I3 (fun z => z (by assumption)) | exact fmax_new I3 (by omega) (by assumption) (Or.inl (by omega)) | exact fmax_new I3 (by omega) (by assumption) (Or.inr (by rcases (by assumption : v = 6 ∨ KY g a v < KY g a k) with q | q; omega; exact q)) | exact fmax_keep I3 (by omega) (by show KY g a k ≤ KY g a v; have z : ¬ (v = 6 ∨ KY g a v < KY g a k) := (by assumption); omega)))
            · skip
              refine e_iload dX12_nextFor_70 rfl ?_
              refine z_if_eq 80 dX12_nextFor_72 rfl ⟨by omega, by omega⟩ (fun c9 => ?_) (fun c9 => ?_)
              · skip
                refine e_iload dX12_nextFor_80 rfl ?_
                refine e_istore (L' := [_, _, _, _, _, _, _]) dX12_nextFor_82 (Nat.le_of_ble_eq_true rfl) rfl ?_
                refine z_iinc (L' := [_, _, _, _, _, _, _]) dX12_nextFor_84 rfl rfl ?_
                refine e_goto 6 dX12_nextFor_87 rfl ?_
                exact mEv_wk (by exact ⟨Or.inr rfl, Or.inr rfl, Or.inr rfl, Or.inr rfl, Or.inr rfl, Or.inr rfl, Or.inl rfl, trivial⟩) (ih1 _ (by omega) v (k + 1)  rfl  (by omega) (by first | exact fmax_no I3 (fun z => z (by assumption)) | exact fmax_new I3 (by omega) (by assumption) (Or.inl (by omega)) | exact fmax_new I3 (by omega) (by assumption) (Or.inr (by rcases (by assumption : v = 6 ∨ KY g a v < KY g a k) with q | q; omega; exact q)) | exact fmax_keep I3 (by omega) (by show KY g a k ≤ KY g a v; have z : ¬ (v = 6 ∨ KY g a v < KY g a k) := (by assumption); omega)))
              · exfalso; omega
          · skip
            refine z_iconst (1) dX12_nextFor_49 rfl ?_
            refine e_goto 54 dX12_nextFor_50 rfl ?_
            refine e_istore (L' := [_, _, _, _, _, _, _]) dX12_nextFor_54 (Nat.le_of_ble_eq_true rfl) rfl ?_
            refine e_aload_n dX12_nextFor_56 rfl ?_
            refine e_get (.ref (m + 19)) dX12_nextFor_57 tf_12_65 (rk_s hk) (congrArg va_rf (rk_r19 hk)) ?_
            refine e_iload_n dX12_nextFor_60 rfl ?_
            refine z_ild M dX12_nextFor_61 (rk_a19 hk) (by decide) (by omega) (by omega) hM ?_
            refine e_iload dX12_nextFor_62 rfl ?_
            refine e_callS [.int _, .int _] dX12_nextFor_64 tm_12_107 rfl (Nat.le_of_ble_eq_true rfl) (Nat.le_refl _) (Nat.le_refl _) rfl (zp_X12_has M ⟨by omega, by omega⟩ k ⟨by omega, by omega⟩ (by omega) (by omega) (by omega) ?_)
            refine z_ifb_ne 80 dX12_nextFor_67 rfl (fun c10 => ?_) (fun c10 => ?_)
            · skip
              refine e_iload dX12_nextFor_80 rfl ?_
              refine e_istore (L' := [_, _, _, _, _, _, _]) dX12_nextFor_82 (Nat.le_of_ble_eq_true rfl) rfl ?_
              refine z_iinc (L' := [_, _, _, _, _, _, _]) dX12_nextFor_84 rfl rfl ?_
              refine e_goto 6 dX12_nextFor_87 rfl ?_
              exact mEv_wk (by exact ⟨Or.inr rfl, Or.inr rfl, Or.inr rfl, Or.inr rfl, Or.inr rfl, Or.inr rfl, Or.inl rfl, trivial⟩) (ih1 _ (by omega) v (k + 1)  rfl  (by omega) (by first | exact fmax_no I3 (fun z => z (by assumption)) | exact fmax_new I3 (by omega) (by assumption) (Or.inl (by omega)) | exact fmax_new I3 (by omega) (by assumption) (Or.inr (by rcases (by assumption : v = 6 ∨ KY g a v < KY g a k) with q | q; omega; exact q)) | exact fmax_keep I3 (by omega) (by show KY g a k ≤ KY g a v; have z : ¬ (v = 6 ∨ KY g a v < KY g a k) := (by assumption); omega)))
            · skip
              refine e_iload dX12_nextFor_70 rfl ?_
              refine z_if_eq 80 dX12_nextFor_72 rfl ⟨by omega, by omega⟩ (fun c11 => ?_) (fun c11 => ?_)
              · exfalso; omega
              · skip
                refine e_iload dX12_nextFor_75 rfl ?_
                refine e_goto 82 dX12_nextFor_77 rfl ?_
                refine e_istore (L' := [_, _, _, _, _, _, _]) dX12_nextFor_82 (Nat.le_of_ble_eq_true rfl) rfl ?_
                refine z_iinc (L' := [_, _, _, _, _, _, _]) dX12_nextFor_84 rfl rfl ?_
                refine e_goto 6 dX12_nextFor_87 rfl ?_
                exact mEv_wk (by exact ⟨Or.inr rfl, Or.inr rfl, Or.inr rfl, Or.inr rfl, Or.inr rfl, Or.inr rfl, Or.inl rfl, trivial⟩) (ih1 _ (by omega) k (k + 1)  rfl  (by omega) (by first | exact fmax_no I3 (fun z => z (by assumption)) | exact fmax_new I3 (by omega) (by assumption) (Or.inl (by omega)) | exact fmax_new I3 (by omega) (by assumption) (Or.inr (by rcases (by assumption : v = 6 ∨ KY g a v < KY g a k) with q | q; omega; exact q)) | exact fmax_keep I3 (by omega) (by show KY g a k ≤ KY g a v; have z : ¬ (v = 6 ∨ KY g a v < KY g a k) := (by assumption); omega)))
        · exfalso; omega
  exact lp1 _ (-1) 0  rfl  (by omega) (fmax_0 _ _ (by omega))
set_option maxHeartbeats 1000000 in
theorem zp_X12_asksFor_0 {ad : mA} {dd : Nat} {h : mH} {Q : mQ} {m : Nat} {g : Int → Int} (hk : rk h m) (HB : rB h m g)  (a : Int) (a_r : -2147483648 ≤ a ∧ a < 2147483648) (c : Int) (c_r : -2147483648 ≤ c ∧ c < 2147483648) (p1 : 0 ≤ a ∧ a < nd g) (p2 : 0 ≤ c ∧ c < nu g) (p3 : rI h (m + 20) c = 6 ∨ ((0 ≤ rI h (m + 20) c ∧ rI h (m + 20) c < 6) ∧ rI h (m + 20) c < nd g)) (p4 : a ≠ rI h (m + 20) c) (kq : ∀ h1, frm (fun a k => a = m + 20 ∨ a = m + 21) h h1 → (((rI h (m + 20) c = 6 ∨ KY g (rI h (m + 20) c) c < KY g a c) ∧ rI h1 (m + 20) c = a ∧ (∀ x : Int, 0 ≤ x → x < 6 → x ≠ c → rI h1 (m + 20) x = rI h (m + 20) x) ∧ rI h1 (m + 21) a = 1 ∧ (∀ x : Int, 0 ≤ x → x < 6 → x ≠ a → x = rI h (m + 20) c → rI h1 (m + 21) x = 0) ∧ ∀ x : Int, 0 ≤ x → x < 6 → x ≠ a → x ≠ rI h (m + 20) c → rI h1 (m + 21) x = rI h (m + 21) x) ∨ (¬ (rI h (m + 20) c = 6 ∨ KY g (rI h (m + 20) c) c < KY g a c) ∧ (∀ x : Int, 0 ≤ x → x < 6 → rI h1 (m + 20) x = rI h (m + 20) x) ∧ ∀ x : Int, 0 ≤ x → x < 6 → rI h1 (m + 21) x = rI h (m + 21) x)) → Q none h1) : mCal TB0 ad (dd + 4) M_X12_asksFor [.ref m, .int (zI a), .int (zI c), .int (zI 0)] h 0 0 Q := by
  refine ⟨Nat.le_of_ble_eq_true rfl, ?_⟩
  show mEv TB0 ad M_X12_asksFor (dd + 4) (0, 0) (mCal TB0 ad (dd + 3)) (fun v h' z => z.1 = 0 ∧ Q v h') 0 [some (.ref m), some (.int (zI a)), some (.int (zI c)), some (.int (zI 0)), none, none] [] h (0, 0)
  have FR0 : frm (fun a k => a = m + 20 ∨ a = m + 21) h h := frm_0 h
  have w1 := rB_n HB
  have w2 := rB_nd HB
  have w3 := rB_nu HB
  refine e_aload_n dX12_asksFor_0 rfl ?_
  refine e_get (.ref (m + 20)) dX12_asksFor_1 tf_12_68 (rk_s hk) (congrArg va_rf (rk_r20 hk)) ?_
  refine e_iload_n dX12_asksFor_4 rfl ?_
  refine z_ild (rI h (m + 20) c) dX12_asksFor_5 (rk_a20 hk) (by decide) (by omega) (by omega) rfl ?_
  have y1 := rI_i h (m + 20) c
  refine e_istore (L' := [_, _, _, _, _, _]) dX12_asksFor_6 (Nat.le_of_ble_eq_true rfl) rfl ?_
  refine e_iload_n dX12_asksFor_8 rfl ?_
  refine z_if_eq 23 dX12_asksFor_9 rfl ⟨by omega, by omega⟩ (fun c2 => ?_) (fun c2 => ?_)
  · skip
    refine e_aload_n dX12_asksFor_23 rfl ?_
    refine e_iload_n dX12_asksFor_24 rfl ?_
    refine e_iload_n dX12_asksFor_25 rfl ?_
    refine e_iload dX12_asksFor_26 rfl ?_
    refine e_callV [.int _, .int _, .int _] dX12_asksFor_28 tm_12_385 rfl (Nat.le_of_ble_eq_true rfl) (rk_s hk) (Nat.le_of_ble_eq_true rfl) (Nat.le_refl _) (Nat.le_refl _) rfl (zp_X12_isLikedK hk HB c ⟨by omega, by omega⟩ a ⟨by omega, by omega⟩ (rI h (m + 20) c) ⟨by omega, by omega⟩ (by omega) (by omega) (by omega) ?_)
    refine e_istore (L' := [_, _, _, _, _, _]) dX12_asksFor_31 (Nat.le_of_ble_eq_true rfl) rfl ?_
    refine e_iload dX12_asksFor_33 rfl ?_
    refine z_ifb_eq 67 dX12_asksFor_35 rfl (fun c3 => ?_) (fun c3 => ?_)
    · skip
      refine e_vret dX12_asksFor_67 rfl ⟨rfl, ?_⟩
      exact kq _ FR0 (Or.inr ⟨by assumption, fun x a b => rfl, fun x a b => rfl⟩)
    · skip
      refine e_iload dX12_asksFor_38 rfl ?_
      refine z_bipush (6) dX12_asksFor_40 rfl ?_
      refine z_icmp_ge 53 dX12_asksFor_42 rfl ⟨by omega, by omega⟩ ⟨by omega, by omega⟩ (fun c4 => ?_) (fun c4 => ?_)
      · skip
        refine e_aload_n dX12_asksFor_53 rfl ?_
        refine e_get (.ref (m + 20)) dX12_asksFor_54 tf_12_68 (rk_s hk) (congrArg va_rf (rk_r20 hk)) ?_
        refine e_iload_n dX12_asksFor_57 rfl ?_
        refine e_iload_n dX12_asksFor_58 rfl ?_
        refine z_ist dX12_asksFor_59 (rk_a20 hk) (by decide) (by omega) (by omega) (fun h5 e6 => ?_)
        have f7 := frm_1 e6
        have k8 := rk_q (frm_s f7) hk
        have H9 := rB_c f7 (fun a k q => by omega) HB
        have FR10 := frm_t FR0 (frm_m (S' := (fun a k => a = m + 20 ∨ a = m + 21)) f7 (fun a k q => by omega))
        refine e_aload_n dX12_asksFor_60 rfl ?_
        refine e_get (.ref (m + 21)) dX12_asksFor_61 tf_12_71 (rk_s k8) (congrArg va_rf (rk_r21 k8)) ?_
        refine e_iload_n dX12_asksFor_64 rfl ?_
        refine z_iconst (1) dX12_asksFor_65 rfl ?_
        refine z_zst dX12_asksFor_66 (rk_a21 k8) (by decide) (by omega) (by omega) (Or.inr rfl) (fun h11 e12 => ?_)
        have f13 := frm_1 e12
        have k14 := rk_q (frm_s f13) k8
        have H15 := rB_c f13 (fun a k q => by omega) H9
        have FR16 := frm_t FR10 (frm_m (S' := (fun a k => a = m + 20 ∨ a = m + 21)) f13 (fun a k q => by omega))
        refine e_vret dX12_asksFor_67 rfl ⟨rfl, ?_⟩
        exact kq _ FR16 (Or.inl ⟨by assumption, by exact ((frm_r f13 (by omega)).trans (rI_eq e6 ⟨by omega, by omega⟩)), fun x a0 b0 n0 => ((frm_r f13 (by omega)).trans (frm_r f7 (by omega))), by exact (rI_eq e12 ⟨by omega, by omega⟩), (fun x a0 b0 n0 e0 => by omega), fun x a0 b0 n0 e0 => ((frm_r f13 (by omega)).trans (frm_r f7 (by omega)))⟩)
      · skip
        refine e_aload_n dX12_asksFor_45 rfl ?_
        refine e_get (.ref (m + 21)) dX12_asksFor_46 tf_12_71 (rk_s hk) (congrArg va_rf (rk_r21 hk)) ?_
        refine e_iload dX12_asksFor_49 rfl ?_
        refine z_iconst (0) dX12_asksFor_51 rfl ?_
        refine z_zst dX12_asksFor_52 (rk_a21 hk) (by decide) (by omega) (by omega) (Or.inl rfl) (fun h17 e18 => ?_)
        have f19 := frm_1 e18
        have k20 := rk_q (frm_s f19) hk
        have H21 := rB_c f19 (fun a k q => by omega) HB
        have FR22 := frm_t FR0 (frm_m (S' := (fun a k => a = m + 20 ∨ a = m + 21)) f19 (fun a k q => by omega))
        refine e_aload_n dX12_asksFor_53 rfl ?_
        refine e_get (.ref (m + 20)) dX12_asksFor_54 tf_12_68 (rk_s k20) (congrArg va_rf (rk_r20 k20)) ?_
        refine e_iload_n dX12_asksFor_57 rfl ?_
        refine e_iload_n dX12_asksFor_58 rfl ?_
        refine z_ist dX12_asksFor_59 (rk_a20 k20) (by decide) (by omega) (by omega) (fun h23 e24 => ?_)
        have f25 := frm_1 e24
        have k26 := rk_q (frm_s f25) k20
        have H27 := rB_c f25 (fun a k q => by omega) H21
        have FR28 := frm_t FR22 (frm_m (S' := (fun a k => a = m + 20 ∨ a = m + 21)) f25 (fun a k q => by omega))
        refine e_aload_n dX12_asksFor_60 rfl ?_
        refine e_get (.ref (m + 21)) dX12_asksFor_61 tf_12_71 (rk_s k26) (congrArg va_rf (rk_r21 k26)) ?_
        refine e_iload_n dX12_asksFor_64 rfl ?_
        refine z_iconst (1) dX12_asksFor_65 rfl ?_
        refine z_zst dX12_asksFor_66 (rk_a21 k26) (by decide) (by omega) (by omega) (Or.inr rfl) (fun h29 e30 => ?_)
        have f31 := frm_1 e30
        have k32 := rk_q (frm_s f31) k26
        have H33 := rB_c f31 (fun a k q => by omega) H27
        have FR34 := frm_t FR28 (frm_m (S' := (fun a k => a = m + 20 ∨ a = m + 21)) f31 (fun a k q => by omega))
        refine e_vret dX12_asksFor_67 rfl ⟨rfl, ?_⟩
        exact kq _ FR34 (Or.inl ⟨by assumption, by exact ((frm_r f31 (by omega)).trans (rI_eq e24 ⟨by omega, by omega⟩)), fun x a0 b0 n0 => ((frm_r f31 (by omega)).trans ((frm_r f25 (by omega)).trans (frm_r f19 (by omega)))), by exact (rI_eq e30 ⟨by omega, by omega⟩), (fun x a0 b0 n0 e0 => by rw [e0]; exact (((frm_r f31 (by omega)).trans (frm_r f25 (by omega))).trans (rI_eq e18 ⟨by omega, by omega⟩))), fun x a0 b0 n0 e0 => ((frm_r f31 (by omega)).trans ((frm_r f25 (by omega)).trans (frm_r f19 (by omega))))⟩)
  · exfalso; omega
set_option maxHeartbeats 6000000 in
theorem zp_X12_layAsked_0 {ad : mA} {dd : Nat} {h : mH} {Q : mQ} {m : Nat} {g : Int → Int} (hk : rk h m) (HB : rB h m g)    (kq : ∀ h1, frm (fun a k => a = m + 16 ∨ (m + 19 ≤ a ∧ a ≤ m + 21)) h h1 → (stE h1 m g) → Q none h1) : mCal TB0 ad (dd + 5) M_X12_layAsked [.ref m, .int (zI 0)] h 0 0 Q := by
  refine ⟨Nat.le_of_ble_eq_true rfl, ?_⟩
  show mEv TB0 ad M_X12_layAsked (dd + 5) (0, 0) (mCal TB0 ad (dd + 4)) (fun v h' z => z.1 = 0 ∧ Q v h') 0 [some (.ref m), some (.int (zI 0)), none, none, none, none, none] [] h (0, 0)
  have FR0 : frm (fun a k => a = m + 16 ∨ (m + 19 ≤ a ∧ a ≤ m + 21)) h h := frm_0 h
  have w1 := rB_n HB
  have w2 := rB_nd HB
  have w3 := rB_nu HB
  refine e_iload_n dX12_layAsked_0 rfl ?_
  refine z_if_eq 11 dX12_layAsked_1 rfl ⟨by omega, by omega⟩ (fun c1 => ?_) (fun c1 => ?_)
  · skip
    refine e_aload_n dX12_layAsked_11 rfl ?_
    refine z_get (nd g) dX12_layAsked_12 tf_12_271 (rk_s hk) (Or.inl rfl) (rB_nd HB) ?_
    have y2 := rB_n HB
    refine e_istore_n (L' := [_, _, _, _, _, _, _]) dX12_layAsked_15 (Nat.le_of_ble_eq_true rfl) rfl ?_
    refine e_iload_n dX12_layAsked_16 rfl ?_
    refine z_if_eq 27 dX12_layAsked_17 rfl ⟨by omega, by omega⟩ (fun c3 => ?_) (fun c3 => ?_)
    · skip
      refine e_aload_n dX12_layAsked_27 rfl ?_
      refine z_get (nu g) dX12_layAsked_28 tf_12_274 (rk_s hk) (Or.inl rfl) (rB_nu HB) ?_
      have y4 := rB_n HB
      refine e_istore_n (L' := [_, _, _, _, _, _, _]) dX12_layAsked_31 (Nat.le_of_ble_eq_true rfl) rfl ?_
      refine z_iconst (0) dX12_layAsked_32 rfl ?_
      refine e_istore (L' := [_, _, _, _, _, _, _]) dX12_layAsked_33 (Nat.le_of_ble_eq_true rfl) rfl ?_
      have lp5 : ∀ (n5 : Nat) (i : Int) (h5 : mH), (6 - i).toNat = n5 → (rk h5 m) → (rB h5 m g) → (frm (fun a k => a = m + 16 ∨ (m + 19 ≤ a ∧ a ≤ m + 21)) h h5) → (0 ≤ i ∧ i ≤ 6) → (∀ x : Int, 0 ≤ x → x < i → rI h5 (m + 19) x = 0 ∧ rI h5 (m + 20) x = 6 ∧ rI h5 (m + 21) x = 0) → mEv TB0 ad M_X12_layAsked (dd + 5) (0, 0) (mCal TB0 ad (dd + 4)) (fun v h' z => z.1 = 0 ∧ Q v h') 35 [some (.ref m), some (.int (zI 0)), some (.int (zI (nd g))), some (.int (zI (nu g))), some (.int (zI i)), none, none] [] h5 (0, 0) := by
        intro n5
        induction n5 using Nat.strongRecOn with
        | ind n5 ih5 =>
        intro i h5 hn5 k6 H7 FR8 I1 I2
        refine e_iload dX12_layAsked_35 rfl ?_
        refine z_bipush (6) dX12_layAsked_37 rfl ?_
        refine z_icmp_ge 73 dX12_layAsked_39 rfl ⟨by omega, by omega⟩ ⟨by omega, by omega⟩ (fun c9 => ?_) (fun c9 => ?_)
        · skip
          refine z_iconst (1) dX12_layAsked_73 rfl ?_
          refine e_istore (L' := [_, _, _, _, _, _, _]) dX12_layAsked_74 (Nat.le_of_ble_eq_true rfl) rfl ?_
          have lp10 : ∀ (n10 : Nat) (mo : Int) (h10 : mH), (2 * (36 - smA (fun x => rI h10 (m + 19) x)) + mo).toNat = n10 → (rk h10 m) → (rB h10 m g) → (frm (fun a k => a = m + 16 ∨ (m + 19 ≤ a ∧ a ≤ m + 21)) h h10) → (mo = 0 ∨ mo = 1) → (daI (fun a b => KY g a b) (nd g) (nu g) (fun x => rI h10 (m + 19) x) (fun x => rI h10 (m + 20) x) (fun x => rI h10 (m + 21) x)) → (mo = 0 → dnA (nd g) (nu g) (fun x => rI h10 (m + 19) x) (fun x => rI h10 (m + 21) x) 6) → mEv TB0 ad M_X12_layAsked (dd + 5) (0, 0) (mCal TB0 ad (dd + 4)) (fun v h' z => z.1 = 0 ∧ Q v h') 76 [some (.ref m), some (.int (zI 0)), some (.int (zI (nd g))), some (.int (zI (nu g))), some (.int (zI mo)), none, none] [] h10 (0, 0) := by
            intro n10
            induction n10 using Nat.strongRecOn with
            | ind n10 ih10 =>
            intro mo h10 hn10 k11 H12 FR13 M1 DA DD
            refine e_iload dX12_layAsked_76 rfl ?_
            have sb := smA_b (fun x => rI h10 (m + 19) x)
            refine z_if_eq 158 dX12_layAsked_78 rfl ⟨by omega, by omega⟩ (fun c14 => ?_) (fun c14 => ?_)
            · skip
              refine z_iconst (0) dX12_layAsked_158 rfl ?_
              refine e_istore (L' := [_, _, _, _, _, _, _]) dX12_layAsked_159 (Nat.le_of_ble_eq_true rfl) rfl ?_
              have lp15 : ∀ (n15 : Nat) (d : Int) (h15 : mH), (6 - d).toNat = n15 → (rk h15 m) → (rB h15 m g) → (frm (fun a k => a = m + 16 ∨ (m + 19 ≤ a ∧ a ≤ m + 21)) h h15) → (0 ≤ d ∧ d ≤ 6) → (∀ x : Int, 0 ≤ x → x < d → rI h15 (m + 16) x = 6) → (daI (fun a b => KY g a b) (nd g) (nu g) (fun x => rI h15 (m + 19) x) (fun x => rI h15 (m + 20) x) (fun x => rI h15 (m + 21) x)) → (dnA (nd g) (nu g) (fun x => rI h15 (m + 19) x) (fun x => rI h15 (m + 21) x) 6) → mEv TB0 ad M_X12_layAsked (dd + 5) (0, 0) (mCal TB0 ad (dd + 4)) (fun v h' z => z.1 = 0 ∧ Q v h') 161 [some (.ref m), some (.int (zI 0)), some (.int (zI (nd g))), some (.int (zI (nu g))), some (.int (zI mo)), some (.int (zI d)), none] [] h15 (0, 0) := by
                intro n15
                induction n15 using Nat.strongRecOn with
                | ind n15 ih15 =>
                intro d h15 hn15 k16 H17 FR18 R0 R1 DA DD
                refine e_iload dX12_layAsked_161 rfl ?_
                refine z_bipush (6) dX12_layAsked_163 rfl ?_
                refine z_icmp_ge 197 dX12_layAsked_165 rfl ⟨by omega, by omega⟩ ⟨by omega, by omega⟩ (fun c19 => ?_) (fun c19 => ?_)
                · skip
                  refine z_iconst (0) dX12_layAsked_197 rfl ?_
                  refine e_istore (L' := [_, _, _, _, _, _, _]) dX12_layAsked_198 (Nat.le_of_ble_eq_true rfl) rfl ?_
                  have lp20 : ∀ (n20 : Nat) (d2 : Int) (h20 : mH), (nu g - d2).toNat = n20 → (rk h20 m) → (rB h20 m g) → (frm (fun a k => a = m + 16 ∨ (m + 19 ≤ a ∧ a ≤ m + 21)) h h20) → (0 ≤ d2 ∧ d2 ≤ nu g) → (∀ x : Int, 0 ≤ x → x < 6 → (rI h20 (m + 16) x = 6 ∧ ∀ u : Int, 0 ≤ u → u < d2 → rI h20 (m + 20) u ≠ x) ∨ ((0 ≤ rI h20 (m + 16) x ∧ rI h20 (m + 16) x < 6) ∧ rI h20 (m + 20) (rI h20 (m + 16) x) = x)) → (daI (fun a b => KY g a b) (nd g) (nu g) (fun x => rI h20 (m + 19) x) (fun x => rI h20 (m + 20) x) (fun x => rI h20 (m + 21) x)) → (dnA (nd g) (nu g) (fun x => rI h20 (m + 19) x) (fun x => rI h20 (m + 21) x) 6) → mEv TB0 ad M_X12_layAsked (dd + 5) (0, 0) (mCal TB0 ad (dd + 4)) (fun v h' z => z.1 = 0 ∧ Q v h') 200 [some (.ref m), some (.int (zI 0)), some (.int (zI (nd g))), some (.int (zI (nu g))), some (.int (zI mo)), some (.int (zI d2)), none] [] h20 (0, 0) := by
                    intro n20
                    induction n20 using Nat.strongRecOn with
                    | ind n20 ih20 =>
                    intro d2 h20 hn20 k21 H22 FR23 R3 R2 DA DD
                    refine e_iload dX12_layAsked_200 rfl ?_
                    skip
                    refine e_aload_n dX12_layAsked_202 rfl ?_
                    refine z_get (nu g) dX12_layAsked_203 tf_12_274 (rk_s k21) (Or.inl rfl) (rB_nu H22) ?_
                    have y24 := rB_n H22
                    refine z_icmp_ge 245 dX12_layAsked_206 rfl ⟨by omega, by omega⟩ ⟨by omega, by omega⟩ (fun c25 => ?_) (fun c25 => ?_)
                    · skip
                      refine e_vret dX12_layAsked_245 rfl ⟨rfl, ?_⟩
                      have nn : (0 ≤ nd g ∧ nd g ≤ 6) ∧ (0 ≤ nu g ∧ nu g ≤ 6) := by omega
                      have fin := da_down (r := fun x => rI h20 (m + 16) x) nn DA DD (fun x u v => by
                        rcases R2 x u v with q | q
                        · refine Or.inl ⟨q.1, fun y y0 y1 => ?_⟩
                          by_cases z : y < d2
                          · exact q.2 y y0 z
                          · intro w
                            rcases DA.2.1 y y0 y1 with t | t
                            · have t : rI h20 (m + 20) y = 6 := t
                              omega
                            · have := t.1.1; omega
                        · exact Or.inr q)
                      exact kq _ FR23 ⟨fun x => rI h20 (m + 16) x, ⟨⟨fin.1, isRw_b (by omega) fin.1⟩, fun x u v => rfl⟩, fin.2⟩
                    · skip
                      refine e_iload_n dX12_layAsked_209 rfl ?_
                      refine z_if_ne 245 dX12_layAsked_210 rfl ⟨by omega, by omega⟩ (fun c26 => ?_) (fun c26 => ?_)
                      · exfalso; omega
                      · skip
                        have hb4 := da_Hb DA (b := d2) (by omega) (by omega)
                        refine e_aload_n dX12_layAsked_213 rfl ?_
                        refine e_get (.ref (m + 20)) dX12_layAsked_214 tf_12_68 (rk_s k21) (congrArg va_rf (rk_r20 k21)) ?_
                        refine e_iload dX12_layAsked_217 rfl ?_
                        refine z_ild (rI h20 (m + 20) d2) dX12_layAsked_219 (rk_a20 k21) (by decide) (by omega) (by omega) rfl ?_
                        have y27 := rI_i h20 (m + 20) d2
                        refine z_bipush (6) dX12_layAsked_220 rfl ?_
                        refine z_icmp_ge 239 dX12_layAsked_222 rfl ⟨by omega, by omega⟩ ⟨by omega, by omega⟩ (fun c28 => ?_) (fun c28 => ?_)
                        · skip
                          refine z_iinc (L' := [_, _, _, _, _, _, _]) dX12_layAsked_239 rfl rfl ?_
                          refine e_goto 200 dX12_layAsked_242 rfl ?_
                          exact ih20 _ (by omega) (d2 + 1) h20 rfl k21 H22 FR23 (by omega) (fun x u v => by
                                    rcases R2 x u v with q | q
                                    · exact Or.inl ⟨q.1, fun y y0 y1 => by
                                        by_cases z : y = d2
                                        · rw [z]; omega
                                        · exact q.2 y y0 (by omega)⟩
                                    · exact Or.inr q) (da_e DA (funext (fun x => rfl)) (funext (fun x => rfl)) (funext (fun x => rfl))) (fun x u v w => by rw [show (fun x => rI h20 (m + 19) x) = _ from funext (fun x => rfl), show (fun x => rI h20 (m + 21) x) = _ from funext (fun x => rfl)]; exact DD x u v w)
                        · skip
                          refine e_aload_n dX12_layAsked_225 rfl ?_
                          refine e_get (.ref (m + 16)) dX12_layAsked_226 tf_12_56 (rk_s k21) (congrArg va_rf (rk_r16 k21)) ?_
                          refine e_aload_n dX12_layAsked_229 rfl ?_
                          refine e_get (.ref (m + 20)) dX12_layAsked_230 tf_12_68 (rk_s k21) (congrArg va_rf (rk_r20 k21)) ?_
                          refine e_iload dX12_layAsked_233 rfl ?_
                          refine z_ild (rI h20 (m + 20) d2) dX12_layAsked_235 (rk_a20 k21) (by decide) (by omega) (by omega) rfl ?_
                          have y29 := rI_i h20 (m + 20) d2
                          refine e_iload dX12_layAsked_236 rfl ?_
                          refine z_ist dX12_layAsked_238 (rk_a16 k21) (by decide) (by omega) (by omega) (fun h30 e31 => ?_)
                          have f32 := frm_1 e31
                          have k33 := rk_q (frm_s f32) k21
                          have H34 := rB_c f32 (fun a k q => by omega) H22
                          have FR35 := frm_t FR23 (frm_m (S' := (fun a k => a = m + 16 ∨ (m + 19 ≤ a ∧ a ≤ m + 21))) f32 (fun a k q => by omega))
                          refine z_iinc (L' := [_, _, _, _, _, _, _]) dX12_layAsked_239 rfl rfl ?_
                          refine e_goto 200 dX12_layAsked_242 rfl ?_
                          exact ih20 _ (by omega) (d2 + 1) h30 rfl k33 H34 FR35 (by omega) (fun x u v => by
                                    have eH : ∀ y : Int, rI h30 (m + 20) y = _ := fun y => (frm_r f32 (by omega))
                                    by_cases q : x = rI h20 (m + 20) d2
                                    · have hh : rI h30 (m + 16) x = d2 := (by rw [q]; exact (rI_eq e31 ⟨by omega, by omega⟩))
                                      rw [hh]; exact Or.inr ⟨by omega, by rw [eH]; exact q.symm⟩
                                    · have hh : rI h30 (m + 16) x = rI h20 (m + 16) x := (frm_r f32 (by omega))
                                      rw [hh]
                                      rcases R2 x u v with z | z
                                      · exact Or.inl ⟨z.1, fun y y0 y1 => by
                                          rw [eH]
                                          by_cases w : y = d2
                                          · rw [w]; exact fun t => q t.symm
                                          · exact z.2 y y0 (by omega)⟩
                                      · exact Or.inr ⟨z.1, by rw [eH]; exact z.2⟩) (da_e DA (funext (fun x => (frm_r f32 (by omega)))) (funext (fun x => (frm_r f32 (by omega)))) (funext (fun x => (frm_r f32 (by omega))))) (fun x u v w => by rw [show (fun x => rI h30 (m + 19) x) = _ from funext (fun x => (frm_r f32 (by omega))), show (fun x => rI h30 (m + 21) x) = _ from funext (fun x => (frm_r f32 (by omega)))]; exact DD x u v w)
                  exact lp20 _ 0 h15 rfl k16 H17 FR18 (by omega) (fun x u v => Or.inl ⟨R1 x u (by omega), fun y y0 y1 => by omega⟩) DA DD
                · skip
                  refine e_aload_n dX12_layAsked_168 rfl ?_
                  refine e_get (.ref (m + 16)) dX12_layAsked_169 tf_12_56 (rk_s k16) (congrArg va_rf (rk_r16 k16)) ?_
                  refine e_iload dX12_layAsked_172 rfl ?_
                  refine e_iload_n dX12_layAsked_174 rfl ?_
                  refine z_if_eq 188 dX12_layAsked_175 rfl ⟨by omega, by omega⟩ (fun c36 => ?_) (fun c36 => ?_)
                  · skip
                    refine z_bipush (6) dX12_layAsked_188 rfl ?_
                    refine z_ist dX12_layAsked_190 (rk_a16 k16) (by decide) (by omega) (by omega) (fun h37 e38 => ?_)
                    have f39 := frm_1 e38
                    have k40 := rk_q (frm_s f39) k16
                    have H41 := rB_c f39 (fun a k q => by omega) H17
                    have FR42 := frm_t FR18 (frm_m (S' := (fun a k => a = m + 16 ∨ (m + 19 ≤ a ∧ a ≤ m + 21))) f39 (fun a k q => by omega))
                    refine z_iinc (L' := [_, _, _, _, _, _, _]) dX12_layAsked_191 rfl rfl ?_
                    refine e_goto 161 dX12_layAsked_194 rfl ?_
                    exact ih15 _ (by omega) (d + 1) h37 rfl k40 H41 FR42 (by omega) (fun x u v => by
                              by_cases q : x = d
                              · rw [q]; exact (rI_eq e38 ⟨by omega, by omega⟩)
                              · exact ((frm_r f39 (by omega))).trans (R1 x u (by omega))) (da_e DA (funext (fun x => (frm_r f39 (by omega)))) (funext (fun x => (frm_r f39 (by omega)))) (funext (fun x => (frm_r f39 (by omega))))) (fun x u v w => by rw [show (fun x => rI h37 (m + 19) x) = _ from funext (fun x => (frm_r f39 (by omega))), show (fun x => rI h37 (m + 21) x) = _ from funext (fun x => (frm_r f39 (by omega)))]; exact DD x u v w)
                  · exfalso; omega
              exact lp15 _ 0 h10 rfl k11 H12 FR13 (by omega) (fun x u v => by omega) DA (DD (by omega))
            · skip
              refine z_iconst (0) dX12_layAsked_81 rfl ?_
              refine e_istore (L' := [_, _, _, _, _, _, _]) dX12_layAsked_82 (Nat.le_of_ble_eq_true rfl) rfl ?_
              refine z_iconst (0) dX12_layAsked_84 rfl ?_
              refine e_istore (L' := [_, _, _, _, _, _, _]) dX12_layAsked_85 (Nat.le_of_ble_eq_true rfl) rfl ?_
              have lp43 : ∀ (n43 : Nat) (mo a : Int) (h43 : mH), (nd g - a).toNat = n43 → (rk h43 m) → (rB h43 m g) → (frm (fun a k => a = m + 16 ∨ (m + 19 ≤ a ∧ a ≤ m + 21)) h h43) → (0 ≤ a ∧ a ≤ nd g) → (mo = 0 ∨ mo = 1) → (daI (fun a b => KY g a b) (nd g) (nu g) (fun x => rI h43 (m + 19) x) (fun x => rI h43 (m + 20) x) (fun x => rI h43 (m + 21) x)) → (mo = 0 → dnA (nd g) (nu g) (fun x => rI h43 (m + 19) x) (fun x => rI h43 (m + 21) x) a) → (smA (fun x => rI h10 (m + 19) x) ≤ smA (fun x => rI h43 (m + 19) x) ∧ (mo = 1 → smA (fun x => rI h10 (m + 19) x) < smA (fun x => rI h43 (m + 19) x))) → mEv TB0 ad M_X12_layAsked (dd + 5) (0, 0) (mCal TB0 ad (dd + 4)) (fun v h' z => z.1 = 0 ∧ Q v h') 87 [some (.ref m), some (.int (zI 0)), some (.int (zI (nd g))), some (.int (zI (nu g))), some (.int (zI mo)), some (.int (zI a)), none] [] h43 (0, 0) := by
                intro n43
                induction n43 using Nat.strongRecOn with
                | ind n43 ih43 =>
                intro mo a h43 hn43 k44 H45 FR46 N1 N2 DJ DN SS
                refine e_iload dX12_layAsked_87 rfl ?_
                have sb2 := smA_b (fun x => rI h43 (m + 19) x)
                refine e_iload_n dX12_layAsked_89 rfl ?_
                refine z_icmp_ge 155 dX12_layAsked_90 rfl ⟨by omega, by omega⟩ ⟨by omega, by omega⟩ (fun c47 => ?_) (fun c47 => ?_)
                · skip
                  refine e_goto 76 dX12_layAsked_155 rfl ?_
                  exact mEv_wk (by exact ⟨Or.inr rfl, Or.inr rfl, Or.inr rfl, Or.inr rfl, Or.inr rfl, Or.inl rfl, Or.inl rfl, trivial⟩) (ih10 _ (by omega) mo h43 rfl k44 H45 FR46 (by omega) DJ (fun z x u v w => DN z x u (by omega) w))
                · skip
                  have lb : rI h43 (m + 21) a = 0 ∨ rI h43 (m + 21) a = 1 := da_Lb DJ (by omega) (by omega)
                  have mb : 0 ≤ rI h43 (m + 19) a ∧ rI h43 (m + 19) a < 64 := DJ.1 a (by omega) (by omega)
                  refine e_aload_n dX12_layAsked_93 rfl ?_
                  refine e_get (.ref (m + 21)) dX12_layAsked_94 tf_12_71 (rk_s k44) (congrArg va_rf (rk_r21 k44)) ?_
                  refine e_iload dX12_layAsked_97 rfl ?_
                  refine z_zld (rI h43 (m + 21) a) dX12_layAsked_99 (rk_a21 k44) (by decide) (by omega) (by omega) rfl ?_
                  refine z_if_eq 107 dX12_layAsked_100 rfl ⟨by omega, by omega⟩ (fun c48 => ?_) (fun c48 => ?_)
                  · skip
                    refine e_aload_n dX12_layAsked_107 rfl ?_
                    refine e_iload dX12_layAsked_108 rfl ?_
                    refine e_iload_n dX12_layAsked_110 rfl ?_
                    refine e_iload_n dX12_layAsked_111 rfl ?_
                    refine e_callV [.int _, .int _, .int _] dX12_layAsked_112 tm_12_394 rfl (Nat.le_of_ble_eq_true rfl) (rk_s k44) (Nat.le_of_ble_eq_true rfl) (Nat.le_refl _) (Nat.le_refl _) rfl (zp_X12_nextFor_0 k44 H45 a ⟨by omega, by omega⟩ (nu g) ⟨by omega, by omega⟩ (by omega) (by omega) rfl (by omega) (fun v49 p50 => ?_))
                    have nf : fmax (fun k => ¬ hasZ (rI h43 (m + 19) a) k) (fun k => KY g a k) (nu g) v49 := by have q := (by assumption : fmax (fun k => ¬ hasZ (rI h43 (m + 19) a) k) (fun k => KY g a k) _ v49); exact q
                    have nfb := fmax_b nf
                    refine e_istore (L' := [_, _, _, _, _, _, _]) dX12_layAsked_115 (Nat.le_of_ble_eq_true rfl) rfl ?_
                    refine e_iload dX12_layAsked_117 rfl ?_
                    refine z_iconst (-1) dX12_layAsked_119 rfl ?_
                    refine z_icmp_eq 149 dX12_layAsked_120 rfl ⟨by omega, by omega⟩ ⟨by omega, by omega⟩ (fun c51 => ?_) (fun c51 => ?_)
                    · skip
                      refine z_iinc (L' := [_, _, _, _, _, _, _]) dX12_layAsked_149 rfl rfl ?_
                      refine e_goto 87 dX12_layAsked_152 rfl ?_
                      exact mEv_wk (by exact ⟨Or.inr rfl, Or.inr rfl, Or.inr rfl, Or.inr rfl, Or.inr rfl, Or.inr rfl, Or.inl rfl, trivial⟩) (ih43 _ (by omega) mo (a + 1) h43 rfl k44 H45 FR46 (by omega) (by omega) DJ (fun z x u v w => by
                                by_cases q : x = a
                                · rw [q]; first | exact Or.inl (by show rI h43 (m + 21) a = 1; omega) | exact Or.inr (nf_none nf (by omega))
                                · exact DN z x u (by omega) w) (by omega))
                    · skip
                      refine z_iconst (1) dX12_layAsked_123 rfl ?_
                      refine e_istore (L' := [_, _, _, _, _, _, _]) dX12_layAsked_124 (Nat.le_of_ble_eq_true rfl) rfl ?_
                      have nb := nf_best nf (by omega)
                      have nh := da_nh DJ (a := a) (by omega) (by omega) (by omega)
                      have hb3 := da_Hb DJ (b := v49) (by omega) (by omega)
                      have nha := nh v49 (by omega) (by omega)
                      refine e_aload_n dX12_layAsked_126 rfl ?_
                      refine e_get (.ref (m + 19)) dX12_layAsked_127 tf_12_65 (rk_s k44) (congrArg va_rf (rk_r19 k44)) ?_
                      refine e_iload dX12_layAsked_130 rfl ?_
                      refine e_dup2 dX12_layAsked_132 rfl rfl ?_
                      refine z_ild (rI h43 (m + 19) a) dX12_layAsked_133 (rk_a19 k44) (by decide) (by omega) (by omega) rfl ?_
                      refine z_iconst (1) dX12_layAsked_134 rfl ?_
                      refine e_iload dX12_layAsked_135 rfl ?_
                      refine z_ishl dX12_layAsked_137 (by omega) (by omega) (by omega) (by omega) ?_
                      have y52 := shlZ_b 1 v49
                      refine z_ior dX12_layAsked_138 (by omega) (by omega) (by omega) (by omega) ?_
                      have y53 := orZ_b (rI h43 (m + 19) a) (shlZ 1 v49)
                      refine z_ist dX12_layAsked_139 (rk_a19 k44) (by decide) (by omega) (by omega) (fun h54 e55 => ?_)
                      have f56 := frm_1 e55
                      have k57 := rk_q (frm_s f56) k44
                      have H58 := rB_c f56 (fun a k q => by omega) H45
                      have FR59 := frm_t FR46 (frm_m (S' := (fun a k => a = m + 16 ∨ (m + 19 ≤ a ∧ a ≤ m + 21))) f56 (fun a k q => by omega))
                      have e20 : rI h54 (m + 20) v49 = rI h43 (m + 20) v49 := (frm_r f56 (by omega))
                      have hb3 : rI h43 (m + 20) v49 = 6 ∨ ((0 ≤ rI h43 (m + 20) v49 ∧ rI h43 (m + 20) v49 < 6) ∧ rI h43 (m + 20) v49 < nd g) := hb3
                      have nha : rI h43 (m + 20) v49 ≠ a := nha
                      refine e_aload_n dX12_layAsked_140 rfl ?_
                      refine e_iload dX12_layAsked_141 rfl ?_
                      refine e_iload dX12_layAsked_143 rfl ?_
                      refine e_iload_n dX12_layAsked_145 rfl ?_
                      refine e_callV [.int _, .int _, .int _] dX12_layAsked_146 tm_12_398 rfl (Nat.le_of_ble_eq_true rfl) (rk_s k57) (Nat.le_of_ble_eq_true rfl) (Nat.le_refl _) (Nat.le_refl _) rfl (zp_X12_asksFor_0 k57 H58 a ⟨by omega, by omega⟩ v49 ⟨by omega, by omega⟩ (by omega) (by omega) (by omega) (by omega) (fun  h60 f61 p62 => ?_))
                      have k63 := rk_q (frm_s f61) k57
                      have H64 := rB_c f61 (fun a k q => by omega) H58
                      have FR65 := frm_t FR59 (frm_m (S' := (fun a k => a = m + 16 ∨ (m + 19 ≤ a ∧ a ≤ m + 21))) f61 (fun a k q => by omega))
                      have eA : rI h60 (m + 19) a = orZ (rI h43 (m + 19) a) (shlZ 1 v49) := ((frm_r f61 (by omega)).trans (rI_eq e55 ⟨by omega, by omega⟩))
                      have oA : ∀ x : Int, 0 ≤ x → x < 6 → x ≠ a → rI h60 (m + 19) x = rI h43 (m + 19) x := fun x u v n => ((frm_r f61 (by omega)).trans (frm_r f56 (by omega)))
                      have k20 : ∀ x : Int, rI h54 (m + 20) x = rI h43 (m + 20) x := fun x => (frm_r f56 (by omega))
                      have k21 : ∀ x : Int, rI h54 (m + 21) x = rI h43 (m + 21) x := fun x => (frm_r f56 (by omega))
                      have DK : daI (fun a b => KY g a b) (nd g) (nu g) (fun x => rI h60 (m + 19) x) (fun x => rI h60 (m + 20) x) (fun x => rI h60 (m + 21) x) := daI_ask (by omega) DJ (a := a) (b := v49) (by omega) (by omega) (by omega) (by omega) nh nb.1 nb.2 eA oA (by
                        rcases p62 with ⟨q1, q2, q3, q4, q5, q6⟩ | ⟨q1, q2, q3⟩
                        · rw [k20] at q1 q5 q6
                          exact Or.inl ⟨q1, q2, fun x u v n => (q3 x u v n).trans (k20 x), q4, q5, fun x u v n e => (q6 x u v n e).trans (k21 x)⟩
                        · rw [k20] at q1
                          exact Or.inr ⟨q1, fun x u v => (q2 x u v).trans (k20 x), fun x u v => (q3 x u v).trans (k21 x)⟩)
                      have sA : smA (fun x => rI h60 (m + 19) x) = smA (fun x => rI h43 (m + 19) x) + 1 := smA_ask (a := a) (b := v49) (by omega) (by omega) (by omega) (by omega) nb.1 eA oA
                      refine z_iinc (L' := [_, _, _, _, _, _, _]) dX12_layAsked_149 rfl rfl ?_
                      refine e_goto 87 dX12_layAsked_152 rfl ?_
                      exact mEv_wk (by exact ⟨Or.inr rfl, Or.inr rfl, Or.inr rfl, Or.inr rfl, Or.inr rfl, Or.inr rfl, Or.inl rfl, trivial⟩) (ih43 _ (by omega) 1 (a + 1) h60 rfl k63 H64 FR65 (by omega) (by omega) DK (fun z => by omega) (by omega))
                  · skip
                    refine z_iconst (-1) dX12_layAsked_103 rfl ?_
                    refine e_goto 115 dX12_layAsked_104 rfl ?_
                    refine e_istore (L' := [_, _, _, _, _, _, _]) dX12_layAsked_115 (Nat.le_of_ble_eq_true rfl) rfl ?_
                    refine e_iload dX12_layAsked_117 rfl ?_
                    refine z_iconst (-1) dX12_layAsked_119 rfl ?_
                    refine z_icmp_eq 149 dX12_layAsked_120 rfl ⟨by omega, by omega⟩ ⟨by omega, by omega⟩ (fun c66 => ?_) (fun c66 => ?_)
                    · skip
                      refine z_iinc (L' := [_, _, _, _, _, _, _]) dX12_layAsked_149 rfl rfl ?_
                      refine e_goto 87 dX12_layAsked_152 rfl ?_
                      exact mEv_wk (by exact ⟨Or.inr rfl, Or.inr rfl, Or.inr rfl, Or.inr rfl, Or.inr rfl, Or.inr rfl, Or.inl rfl, trivial⟩) (ih43 _ (by omega) mo (a + 1) h43 rfl k44 H45 FR46 (by omega) (by omega) DJ (fun z x u v w => by
                                by_cases q : x = a
                                · rw [q]; first | exact Or.inl (by show rI h43 (m + 21) a = 1; omega) | exact Or.inr (nf_none nf (by omega))
                                · exact DN z x u (by omega) w) (by omega))
                    · exfalso; omega
              exact lp43 _ 0 0 h10 rfl k11 H12 FR13 (by omega) (by omega) DA (fun z x u v w => by omega) (⟨Int.le_refl _, fun z => by omega⟩)
          exact lp10 _ 1 h5 rfl k6 H7 FR8 (by omega) (daI_0 _ _ _ (fun x u v => I2 x u (by omega)) (by omega)) (fun z => by omega)
        · skip
          refine e_aload_n dX12_layAsked_42 rfl ?_
          refine e_get (.ref (m + 19)) dX12_layAsked_43 tf_12_65 (rk_s k6) (congrArg va_rf (rk_r19 k6)) ?_
          refine e_iload dX12_layAsked_46 rfl ?_
          refine z_iconst (0) dX12_layAsked_48 rfl ?_
          refine z_ist dX12_layAsked_49 (rk_a19 k6) (by decide) (by omega) (by omega) (fun h67 e68 => ?_)
          have f69 := frm_1 e68
          have k70 := rk_q (frm_s f69) k6
          have H71 := rB_c f69 (fun a k q => by omega) H7
          have FR72 := frm_t FR8 (frm_m (S' := (fun a k => a = m + 16 ∨ (m + 19 ≤ a ∧ a ≤ m + 21))) f69 (fun a k q => by omega))
          refine e_aload_n dX12_layAsked_50 rfl ?_
          refine e_get (.ref (m + 20)) dX12_layAsked_51 tf_12_68 (rk_s k70) (congrArg va_rf (rk_r20 k70)) ?_
          refine e_iload dX12_layAsked_54 rfl ?_
          refine z_bipush (6) dX12_layAsked_56 rfl ?_
          refine z_ist dX12_layAsked_58 (rk_a20 k70) (by decide) (by omega) (by omega) (fun h73 e74 => ?_)
          have f75 := frm_1 e74
          have k76 := rk_q (frm_s f75) k70
          have H77 := rB_c f75 (fun a k q => by omega) H71
          have FR78 := frm_t FR72 (frm_m (S' := (fun a k => a = m + 16 ∨ (m + 19 ≤ a ∧ a ≤ m + 21))) f75 (fun a k q => by omega))
          refine e_aload_n dX12_layAsked_59 rfl ?_
          refine e_get (.ref (m + 21)) dX12_layAsked_60 tf_12_71 (rk_s k76) (congrArg va_rf (rk_r21 k76)) ?_
          refine e_iload dX12_layAsked_63 rfl ?_
          refine z_iconst (0) dX12_layAsked_65 rfl ?_
          refine z_zst dX12_layAsked_66 (rk_a21 k76) (by decide) (by omega) (by omega) (Or.inl rfl) (fun h79 e80 => ?_)
          have f81 := frm_1 e80
          have k82 := rk_q (frm_s f81) k76
          have H83 := rB_c f81 (fun a k q => by omega) H77
          have FR84 := frm_t FR78 (frm_m (S' := (fun a k => a = m + 16 ∨ (m + 19 ≤ a ∧ a ≤ m + 21))) f81 (fun a k q => by omega))
          refine z_iinc (L' := [_, _, _, _, _, _, _]) dX12_layAsked_67 rfl rfl ?_
          refine e_goto 35 dX12_layAsked_70 rfl ?_
          exact ih5 _ (by omega) (i + 1) h79 rfl k82 H83 FR84 (by omega) (fun x u v => by
                    by_cases q : x = i
                    · rw [q]; exact ⟨(((frm_r f81 (by omega)).trans (frm_r f75 (by omega))).trans (rI_eq e68 ⟨by omega, by omega⟩)), ((frm_r f81 (by omega)).trans (rI_eq e74 ⟨by omega, by omega⟩)), (rI_eq e80 ⟨by omega, by omega⟩)⟩
                    · obtain ⟨z1, z2, z3⟩ := I2 x u (by omega)
                      exact ⟨(((frm_r f81 (by omega)).trans ((frm_r f75 (by omega)).trans (frm_r f69 (by omega))))).trans z1, (((frm_r f81 (by omega)).trans ((frm_r f75 (by omega)).trans (frm_r f69 (by omega))))).trans z2, (((frm_r f81 (by omega)).trans ((frm_r f75 (by omega)).trans (frm_r f69 (by omega))))).trans z3⟩)
      exact lp5 _ 0 h rfl hk HB FR0 (by omega) (fun x u v => by omega)
    · exfalso; omega
  · exfalso; omega
set_option maxHeartbeats 1000000 in
theorem zp_X12_nextFor_1 {ad : mA} {dd : Nat} {h : mH} {Q : mQ} {m : Nat} {g : Int → Int} {M : Int} (hk : rk h m) (HB : rB h m g)  (a : Int) (a_r : -2147483648 ≤ a ∧ a < 2147483648) (no : Int) (no_r : -2147483648 ≤ no ∧ no < 2147483648) (p1 : 0 ≤ a ∧ a < nu g) (pno : no = nd g) (hM : rI h (m + 19) a = M) (hM2 : 0 ≤ M ∧ M < 64) (kq : ∀ v : Int, (fmax (fun k => ¬ hasZ M k) (fun k => KY g k a) no v) → Q (some (.int (zI v))) h) : mCal TB0 ad (dd + 4) M_X12_nextFor [.ref m, .int (zI a), .int (zI no), .int (zI 1)] h 0 0 Q := by
  refine ⟨Nat.le_of_ble_eq_true rfl, ?_⟩
  show mEv TB0 ad M_X12_nextFor (dd + 4) (0, 0) (mCal TB0 ad (dd + 3)) (fun v h' z => z.1 = 0 ∧ Q v h') 0 [some (.ref m), some (.int (zI a)), some (.int (zI no)), some (.int (zI 1)), none, none, none] [] h (0, 0)
  have w1 := rB_n HB
  have w2 := rB_nd HB
  have w3 := rB_nu HB
  refine z_iconst (-1) dX12_nextFor_0 rfl ?_
  refine e_istore (L' := [_, _, _, _, _, _, _]) dX12_nextFor_1 (Nat.le_of_ble_eq_true rfl) rfl ?_
  refine z_iconst (0) dX12_nextFor_3 rfl ?_
  refine e_istore (L' := [_, _, _, _, _, _, _]) dX12_nextFor_4 (Nat.le_of_ble_eq_true rfl) rfl ?_
  have lp1 : ∀ (n1 : Nat) (v k : Int), (no - k).toNat = n1 → (0 ≤ k ∧ k ≤ no) → (fmax (fun k => ¬ hasZ M k) (fun k => KY g k a) k v) → mEv TB0 ad M_X12_nextFor (dd + 4) (0, 0) (mCal TB0 ad (dd + 3)) (fun v h' z => z.1 = 0 ∧ Q v h') 6 [some (.ref m), some (.int (zI a)), some (.int (zI no)), some (.int (zI 1)), some (.int (zI v)), some (.int (zI k)), none] [] h (0, 0) := by
    intro n1
    induction n1 using Nat.strongRecOn with
    | ind n1 ih1 =>
    intro v k  hn1  I1 I3
    refine e_iload dX12_nextFor_6 rfl ?_
    have qb := fmax_b I3
    refine e_iload_n dX12_nextFor_8 rfl ?_
    refine z_icmp_ge 90 dX12_nextFor_9 rfl ⟨by omega, by omega⟩ ⟨by omega, by omega⟩ (fun c2 => ?_) (fun c2 => ?_)
    · skip
      refine e_iload dX12_nextFor_90 rfl ?_
      refine z_iret dX12_nextFor_92 rfl ⟨rfl, ?_⟩
      refine kq _ ?_
      rw [show no = k by omega]; exact I3
    · skip
      refine e_iload dX12_nextFor_12 rfl ?_
      refine z_iconst (-1) dX12_nextFor_14 rfl ?_
      refine z_icmp_eq 49 dX12_nextFor_15 rfl ⟨by omega, by omega⟩ ⟨by omega, by omega⟩ (fun c3 => ?_) (fun c3 => ?_)
      · skip
        refine z_iconst (1) dX12_nextFor_49 rfl ?_
        refine e_goto 54 dX12_nextFor_50 rfl ?_
        refine e_istore (L' := [_, _, _, _, _, _, _]) dX12_nextFor_54 (Nat.le_of_ble_eq_true rfl) rfl ?_
        refine e_aload_n dX12_nextFor_56 rfl ?_
        refine e_get (.ref (m + 19)) dX12_nextFor_57 tf_12_65 (rk_s hk) (congrArg va_rf (rk_r19 hk)) ?_
        refine e_iload_n dX12_nextFor_60 rfl ?_
        refine z_ild M dX12_nextFor_61 (rk_a19 hk) (by decide) (by omega) (by omega) hM ?_
        refine e_iload dX12_nextFor_62 rfl ?_
        refine e_callS [.int _, .int _] dX12_nextFor_64 tm_12_107 rfl (Nat.le_of_ble_eq_true rfl) (Nat.le_refl _) (Nat.le_refl _) rfl (zp_X12_has M ⟨by omega, by omega⟩ k ⟨by omega, by omega⟩ (by omega) (by omega) (by omega) ?_)
        refine z_ifb_ne 80 dX12_nextFor_67 rfl (fun c4 => ?_) (fun c4 => ?_)
        · skip
          refine e_iload dX12_nextFor_80 rfl ?_
          refine e_istore (L' := [_, _, _, _, _, _, _]) dX12_nextFor_82 (Nat.le_of_ble_eq_true rfl) rfl ?_
          refine z_iinc (L' := [_, _, _, _, _, _, _]) dX12_nextFor_84 rfl rfl ?_
          refine e_goto 6 dX12_nextFor_87 rfl ?_
          exact mEv_wk (by exact ⟨Or.inr rfl, Or.inr rfl, Or.inr rfl, Or.inr rfl, Or.inr rfl, Or.inr rfl, Or.inl rfl, trivial⟩) (ih1 _ (by omega) v (k + 1)  rfl  (by omega) (by first | exact fmax_no I3 (fun z => z (by assumption)) | exact fmax_new I3 (by omega) (by assumption) (Or.inl (by omega)) | exact fmax_new I3 (by omega) (by assumption) (Or.inr (by rcases (by assumption : v = 6 ∨ KY g v a < KY g k a) with q | q; omega; exact q)) | exact fmax_keep I3 (by omega) (by show KY g k a ≤ KY g v a; have z : ¬ (v = 6 ∨ KY g v a < KY g k a) := (by assumption); omega)))
        · skip
          refine e_iload dX12_nextFor_70 rfl ?_
          refine z_if_eq 80 dX12_nextFor_72 rfl ⟨by omega, by omega⟩ (fun c5 => ?_) (fun c5 => ?_)
          · exfalso; omega
          · skip
            refine e_iload dX12_nextFor_75 rfl ?_
            refine e_goto 82 dX12_nextFor_77 rfl ?_
            refine e_istore (L' := [_, _, _, _, _, _, _]) dX12_nextFor_82 (Nat.le_of_ble_eq_true rfl) rfl ?_
            refine z_iinc (L' := [_, _, _, _, _, _, _]) dX12_nextFor_84 rfl rfl ?_
            refine e_goto 6 dX12_nextFor_87 rfl ?_
            exact mEv_wk (by exact ⟨Or.inr rfl, Or.inr rfl, Or.inr rfl, Or.inr rfl, Or.inr rfl, Or.inr rfl, Or.inl rfl, trivial⟩) (ih1 _ (by omega) k (k + 1)  rfl  (by omega) (by first | exact fmax_no I3 (fun z => z (by assumption)) | exact fmax_new I3 (by omega) (by assumption) (Or.inl (by omega)) | exact fmax_new I3 (by omega) (by assumption) (Or.inr (by rcases (by assumption : v = 6 ∨ KY g v a < KY g k a) with q | q; omega; exact q)) | exact fmax_keep I3 (by omega) (by show KY g k a ≤ KY g v a; have z : ¬ (v = 6 ∨ KY g v a < KY g k a) := (by assumption); omega)))
      · skip
        refine e_iload_n dX12_nextFor_18 rfl ?_
        refine z_if_eq 37 dX12_nextFor_19 rfl ⟨by omega, by omega⟩ (fun c6 => ?_) (fun c6 => ?_)
        · exfalso; omega
        · skip
          refine e_aload_n dX12_nextFor_22 rfl ?_
          refine e_iload_n dX12_nextFor_23 rfl ?_
          refine e_iload dX12_nextFor_24 rfl ?_
          refine e_iload dX12_nextFor_26 rfl ?_
          refine e_callV [.int _, .int _, .int _] dX12_nextFor_28 tm_12_385 rfl (Nat.le_of_ble_eq_true rfl) (rk_s hk) (Nat.le_of_ble_eq_true rfl) (Nat.le_refl _) (Nat.le_refl _) rfl (zp_X12_isLikedK hk HB a ⟨by omega, by omega⟩ k ⟨by omega, by omega⟩ v ⟨by omega, by omega⟩ (by omega) (by omega) (by omega) ?_)
          refine z_ifb_eq 53 dX12_nextFor_31 rfl (fun c7 => ?_) (fun c7 => ?_)
          · skip
            refine z_iconst (0) dX12_nextFor_53 rfl ?_
            refine e_istore (L' := [_, _, _, _, _, _, _]) dX12_nextFor_54 (Nat.le_of_ble_eq_true rfl) rfl ?_
            refine e_aload_n dX12_nextFor_56 rfl ?_
            refine e_get (.ref (m + 19)) dX12_nextFor_57 tf_12_65 (rk_s hk) (congrArg va_rf (rk_r19 hk)) ?_
            refine e_iload_n dX12_nextFor_60 rfl ?_
            refine z_ild M dX12_nextFor_61 (rk_a19 hk) (by decide) (by omega) (by omega) hM ?_
            refine e_iload dX12_nextFor_62 rfl ?_
            refine e_callS [.int _, .int _] dX12_nextFor_64 tm_12_107 rfl (Nat.le_of_ble_eq_true rfl) (Nat.le_refl _) (Nat.le_refl _) rfl (zp_X12_has M ⟨by omega, by omega⟩ k ⟨by omega, by omega⟩ (by omega) (by omega) (by omega) ?_)
            refine z_ifb_ne 80 dX12_nextFor_67 rfl (fun c8 => ?_) (fun c8 => ?_)
            · skip
              refine e_iload dX12_nextFor_80 rfl ?_
              refine e_istore (L' := [_, _, _, _, _, _, _]) dX12_nextFor_82 (Nat.le_of_ble_eq_true rfl) rfl ?_
              refine z_iinc (L' := [_, _, _, _, _, _, _]) dX12_nextFor_84 rfl rfl ?_
              refine e_goto 6 dX12_nextFor_87 rfl ?_
              exact mEv_wk (by exact ⟨Or.inr rfl, Or.inr rfl, Or.inr rfl, Or.inr rfl, Or.inr rfl, Or.inr rfl, Or.inl rfl, trivial⟩) (ih1 _ (by omega) v (k + 1)  rfl  (by omega) (by first | exact fmax_no I3 (fun z => z (by assumption)) | exact fmax_new I3 (by omega) (by assumption) (Or.inl (by omega)) | exact fmax_new I3 (by omega) (by assumption) (Or.inr (by rcases (by assumption : v = 6 ∨ KY g v a < KY g k a) with q | q; omega; exact q)) | exact fmax_keep I3 (by omega) (by show KY g k a ≤ KY g v a; have z : ¬ (v = 6 ∨ KY g v a < KY g k a) := (by assumption); omega)))
            · skip
              refine e_iload dX12_nextFor_70 rfl ?_
              refine z_if_eq 80 dX12_nextFor_72 rfl ⟨by omega, by omega⟩ (fun c9 => ?_) (fun c9 => ?_)
              · skip
                refine e_iload dX12_nextFor_80 rfl ?_
                refine e_istore (L' := [_, _, _, _, _, _, _]) dX12_nextFor_82 (Nat.le_of_ble_eq_true rfl) rfl ?_
                refine z_iinc (L' := [_, _, _, _, _, _, _]) dX12_nextFor_84 rfl rfl ?_
                refine e_goto 6 dX12_nextFor_87 rfl ?_
                exact mEv_wk (by exact ⟨Or.inr rfl, Or.inr rfl, Or.inr rfl, Or.inr rfl, Or.inr rfl, Or.inr rfl, Or.inl rfl, trivial⟩) (ih1 _ (by omega) v (k + 1)  rfl  (by omega) (by first | exact fmax_no I3 (fun z => z (by assumption)) | exact fmax_new I3 (by omega) (by assumption) (Or.inl (by omega)) | exact fmax_new I3 (by omega) (by assumption) (Or.inr (by rcases (by assumption : v = 6 ∨ KY g v a < KY g k a) with q | q; omega; exact q)) | exact fmax_keep I3 (by omega) (by show KY g k a ≤ KY g v a; have z : ¬ (v = 6 ∨ KY g v a < KY g k a) := (by assumption); omega)))
              · exfalso; omega
          · skip
            refine e_goto 49 dX12_nextFor_34 rfl ?_
            refine z_iconst (1) dX12_nextFor_49 rfl ?_
            refine e_goto 54 dX12_nextFor_50 rfl ?_
            refine e_istore (L' := [_, _, _, _, _, _, _]) dX12_nextFor_54 (Nat.le_of_ble_eq_true rfl) rfl ?_
            refine e_aload_n dX12_nextFor_56 rfl ?_
            refine e_get (.ref (m + 19)) dX12_nextFor_57 tf_12_65 (rk_s hk) (congrArg va_rf (rk_r19 hk)) ?_
            refine e_iload_n dX12_nextFor_60 rfl ?_
            refine z_ild M dX12_nextFor_61 (rk_a19 hk) (by decide) (by omega) (by omega) hM ?_
            refine e_iload dX12_nextFor_62 rfl ?_
            refine e_callS [.int _, .int _] dX12_nextFor_64 tm_12_107 rfl (Nat.le_of_ble_eq_true rfl) (Nat.le_refl _) (Nat.le_refl _) rfl (zp_X12_has M ⟨by omega, by omega⟩ k ⟨by omega, by omega⟩ (by omega) (by omega) (by omega) ?_)
            refine z_ifb_ne 80 dX12_nextFor_67 rfl (fun c10 => ?_) (fun c10 => ?_)
            · skip
              refine e_iload dX12_nextFor_80 rfl ?_
              refine e_istore (L' := [_, _, _, _, _, _, _]) dX12_nextFor_82 (Nat.le_of_ble_eq_true rfl) rfl ?_
              refine z_iinc (L' := [_, _, _, _, _, _, _]) dX12_nextFor_84 rfl rfl ?_
              refine e_goto 6 dX12_nextFor_87 rfl ?_
              exact mEv_wk (by exact ⟨Or.inr rfl, Or.inr rfl, Or.inr rfl, Or.inr rfl, Or.inr rfl, Or.inr rfl, Or.inl rfl, trivial⟩) (ih1 _ (by omega) v (k + 1)  rfl  (by omega) (by first | exact fmax_no I3 (fun z => z (by assumption)) | exact fmax_new I3 (by omega) (by assumption) (Or.inl (by omega)) | exact fmax_new I3 (by omega) (by assumption) (Or.inr (by rcases (by assumption : v = 6 ∨ KY g v a < KY g k a) with q | q; omega; exact q)) | exact fmax_keep I3 (by omega) (by show KY g k a ≤ KY g v a; have z : ¬ (v = 6 ∨ KY g v a < KY g k a) := (by assumption); omega)))
            · skip
              refine e_iload dX12_nextFor_70 rfl ?_
              refine z_if_eq 80 dX12_nextFor_72 rfl ⟨by omega, by omega⟩ (fun c11 => ?_) (fun c11 => ?_)
              · exfalso; omega
              · skip
                refine e_iload dX12_nextFor_75 rfl ?_
                refine e_goto 82 dX12_nextFor_77 rfl ?_
                refine e_istore (L' := [_, _, _, _, _, _, _]) dX12_nextFor_82 (Nat.le_of_ble_eq_true rfl) rfl ?_
                refine z_iinc (L' := [_, _, _, _, _, _, _]) dX12_nextFor_84 rfl rfl ?_
                refine e_goto 6 dX12_nextFor_87 rfl ?_
                exact mEv_wk (by exact ⟨Or.inr rfl, Or.inr rfl, Or.inr rfl, Or.inr rfl, Or.inr rfl, Or.inr rfl, Or.inl rfl, trivial⟩) (ih1 _ (by omega) k (k + 1)  rfl  (by omega) (by first | exact fmax_no I3 (fun z => z (by assumption)) | exact fmax_new I3 (by omega) (by assumption) (Or.inl (by omega)) | exact fmax_new I3 (by omega) (by assumption) (Or.inr (by rcases (by assumption : v = 6 ∨ KY g v a < KY g k a) with q | q; omega; exact q)) | exact fmax_keep I3 (by omega) (by show KY g k a ≤ KY g v a; have z : ¬ (v = 6 ∨ KY g v a < KY g k a) := (by assumption); omega)))
  exact lp1 _ (-1) 0  rfl  (by omega) (fmax_0 _ _ (by omega))
set_option maxHeartbeats 1000000 in
theorem zp_X12_asksFor_1 {ad : mA} {dd : Nat} {h : mH} {Q : mQ} {m : Nat} {g : Int → Int} (hk : rk h m) (HB : rB h m g)  (a : Int) (a_r : -2147483648 ≤ a ∧ a < 2147483648) (c : Int) (c_r : -2147483648 ≤ c ∧ c < 2147483648) (p1 : 0 ≤ a ∧ a < nu g) (p2 : 0 ≤ c ∧ c < nd g) (p3 : rI h (m + 20) c = 6 ∨ ((0 ≤ rI h (m + 20) c ∧ rI h (m + 20) c < 6) ∧ rI h (m + 20) c < nu g)) (p4 : a ≠ rI h (m + 20) c) (kq : ∀ h1, frm (fun a k => a = m + 20 ∨ a = m + 21) h h1 → (((rI h (m + 20) c = 6 ∨ KY g c (rI h (m + 20) c) < KY g c a) ∧ rI h1 (m + 20) c = a ∧ (∀ x : Int, 0 ≤ x → x < 6 → x ≠ c → rI h1 (m + 20) x = rI h (m + 20) x) ∧ rI h1 (m + 21) a = 1 ∧ (∀ x : Int, 0 ≤ x → x < 6 → x ≠ a → x = rI h (m + 20) c → rI h1 (m + 21) x = 0) ∧ ∀ x : Int, 0 ≤ x → x < 6 → x ≠ a → x ≠ rI h (m + 20) c → rI h1 (m + 21) x = rI h (m + 21) x) ∨ (¬ (rI h (m + 20) c = 6 ∨ KY g c (rI h (m + 20) c) < KY g c a) ∧ (∀ x : Int, 0 ≤ x → x < 6 → rI h1 (m + 20) x = rI h (m + 20) x) ∧ ∀ x : Int, 0 ≤ x → x < 6 → rI h1 (m + 21) x = rI h (m + 21) x)) → Q none h1) : mCal TB0 ad (dd + 4) M_X12_asksFor [.ref m, .int (zI a), .int (zI c), .int (zI 1)] h 0 0 Q := by
  refine ⟨Nat.le_of_ble_eq_true rfl, ?_⟩
  show mEv TB0 ad M_X12_asksFor (dd + 4) (0, 0) (mCal TB0 ad (dd + 3)) (fun v h' z => z.1 = 0 ∧ Q v h') 0 [some (.ref m), some (.int (zI a)), some (.int (zI c)), some (.int (zI 1)), none, none] [] h (0, 0)
  have FR0 : frm (fun a k => a = m + 20 ∨ a = m + 21) h h := frm_0 h
  have w1 := rB_n HB
  have w2 := rB_nd HB
  have w3 := rB_nu HB
  refine e_aload_n dX12_asksFor_0 rfl ?_
  refine e_get (.ref (m + 20)) dX12_asksFor_1 tf_12_68 (rk_s hk) (congrArg va_rf (rk_r20 hk)) ?_
  refine e_iload_n dX12_asksFor_4 rfl ?_
  refine z_ild (rI h (m + 20) c) dX12_asksFor_5 (rk_a20 hk) (by decide) (by omega) (by omega) rfl ?_
  have y1 := rI_i h (m + 20) c
  refine e_istore (L' := [_, _, _, _, _, _]) dX12_asksFor_6 (Nat.le_of_ble_eq_true rfl) rfl ?_
  refine e_iload_n dX12_asksFor_8 rfl ?_
  refine z_if_eq 23 dX12_asksFor_9 rfl ⟨by omega, by omega⟩ (fun c2 => ?_) (fun c2 => ?_)
  · exfalso; omega
  · skip
    refine e_aload_n dX12_asksFor_12 rfl ?_
    refine e_iload_n dX12_asksFor_13 rfl ?_
    refine e_iload_n dX12_asksFor_14 rfl ?_
    refine e_iload dX12_asksFor_15 rfl ?_
    refine e_callV [.int _, .int _, .int _] dX12_asksFor_17 tm_12_382 rfl (Nat.le_of_ble_eq_true rfl) (rk_s hk) (Nat.le_of_ble_eq_true rfl) (Nat.le_refl _) (Nat.le_refl _) rfl (zp_X12_likesK hk HB c ⟨by omega, by omega⟩ a ⟨by omega, by omega⟩ (rI h (m + 20) c) ⟨by omega, by omega⟩ (by omega) (by omega) (by omega) ?_)
    refine e_goto 31 dX12_asksFor_20 rfl ?_
    refine e_istore (L' := [_, _, _, _, _, _]) dX12_asksFor_31 (Nat.le_of_ble_eq_true rfl) rfl ?_
    refine e_iload dX12_asksFor_33 rfl ?_
    refine z_ifb_eq 67 dX12_asksFor_35 rfl (fun c3 => ?_) (fun c3 => ?_)
    · skip
      refine e_vret dX12_asksFor_67 rfl ⟨rfl, ?_⟩
      exact kq _ FR0 (Or.inr ⟨by assumption, fun x a b => rfl, fun x a b => rfl⟩)
    · skip
      refine e_iload dX12_asksFor_38 rfl ?_
      refine z_bipush (6) dX12_asksFor_40 rfl ?_
      refine z_icmp_ge 53 dX12_asksFor_42 rfl ⟨by omega, by omega⟩ ⟨by omega, by omega⟩ (fun c4 => ?_) (fun c4 => ?_)
      · skip
        refine e_aload_n dX12_asksFor_53 rfl ?_
        refine e_get (.ref (m + 20)) dX12_asksFor_54 tf_12_68 (rk_s hk) (congrArg va_rf (rk_r20 hk)) ?_
        refine e_iload_n dX12_asksFor_57 rfl ?_
        refine e_iload_n dX12_asksFor_58 rfl ?_
        refine z_ist dX12_asksFor_59 (rk_a20 hk) (by decide) (by omega) (by omega) (fun h5 e6 => ?_)
        have f7 := frm_1 e6
        have k8 := rk_q (frm_s f7) hk
        have H9 := rB_c f7 (fun a k q => by omega) HB
        have FR10 := frm_t FR0 (frm_m (S' := (fun a k => a = m + 20 ∨ a = m + 21)) f7 (fun a k q => by omega))
        refine e_aload_n dX12_asksFor_60 rfl ?_
        refine e_get (.ref (m + 21)) dX12_asksFor_61 tf_12_71 (rk_s k8) (congrArg va_rf (rk_r21 k8)) ?_
        refine e_iload_n dX12_asksFor_64 rfl ?_
        refine z_iconst (1) dX12_asksFor_65 rfl ?_
        refine z_zst dX12_asksFor_66 (rk_a21 k8) (by decide) (by omega) (by omega) (Or.inr rfl) (fun h11 e12 => ?_)
        have f13 := frm_1 e12
        have k14 := rk_q (frm_s f13) k8
        have H15 := rB_c f13 (fun a k q => by omega) H9
        have FR16 := frm_t FR10 (frm_m (S' := (fun a k => a = m + 20 ∨ a = m + 21)) f13 (fun a k q => by omega))
        refine e_vret dX12_asksFor_67 rfl ⟨rfl, ?_⟩
        exact kq _ FR16 (Or.inl ⟨by assumption, by exact ((frm_r f13 (by omega)).trans (rI_eq e6 ⟨by omega, by omega⟩)), fun x a0 b0 n0 => ((frm_r f13 (by omega)).trans (frm_r f7 (by omega))), by exact (rI_eq e12 ⟨by omega, by omega⟩), (fun x a0 b0 n0 e0 => by omega), fun x a0 b0 n0 e0 => ((frm_r f13 (by omega)).trans (frm_r f7 (by omega)))⟩)
      · skip
        refine e_aload_n dX12_asksFor_45 rfl ?_
        refine e_get (.ref (m + 21)) dX12_asksFor_46 tf_12_71 (rk_s hk) (congrArg va_rf (rk_r21 hk)) ?_
        refine e_iload dX12_asksFor_49 rfl ?_
        refine z_iconst (0) dX12_asksFor_51 rfl ?_
        refine z_zst dX12_asksFor_52 (rk_a21 hk) (by decide) (by omega) (by omega) (Or.inl rfl) (fun h17 e18 => ?_)
        have f19 := frm_1 e18
        have k20 := rk_q (frm_s f19) hk
        have H21 := rB_c f19 (fun a k q => by omega) HB
        have FR22 := frm_t FR0 (frm_m (S' := (fun a k => a = m + 20 ∨ a = m + 21)) f19 (fun a k q => by omega))
        refine e_aload_n dX12_asksFor_53 rfl ?_
        refine e_get (.ref (m + 20)) dX12_asksFor_54 tf_12_68 (rk_s k20) (congrArg va_rf (rk_r20 k20)) ?_
        refine e_iload_n dX12_asksFor_57 rfl ?_
        refine e_iload_n dX12_asksFor_58 rfl ?_
        refine z_ist dX12_asksFor_59 (rk_a20 k20) (by decide) (by omega) (by omega) (fun h23 e24 => ?_)
        have f25 := frm_1 e24
        have k26 := rk_q (frm_s f25) k20
        have H27 := rB_c f25 (fun a k q => by omega) H21
        have FR28 := frm_t FR22 (frm_m (S' := (fun a k => a = m + 20 ∨ a = m + 21)) f25 (fun a k q => by omega))
        refine e_aload_n dX12_asksFor_60 rfl ?_
        refine e_get (.ref (m + 21)) dX12_asksFor_61 tf_12_71 (rk_s k26) (congrArg va_rf (rk_r21 k26)) ?_
        refine e_iload_n dX12_asksFor_64 rfl ?_
        refine z_iconst (1) dX12_asksFor_65 rfl ?_
        refine z_zst dX12_asksFor_66 (rk_a21 k26) (by decide) (by omega) (by omega) (Or.inr rfl) (fun h29 e30 => ?_)
        have f31 := frm_1 e30
        have k32 := rk_q (frm_s f31) k26
        have H33 := rB_c f31 (fun a k q => by omega) H27
        have FR34 := frm_t FR28 (frm_m (S' := (fun a k => a = m + 20 ∨ a = m + 21)) f31 (fun a k q => by omega))
        refine e_vret dX12_asksFor_67 rfl ⟨rfl, ?_⟩
        exact kq _ FR34 (Or.inl ⟨by assumption, by exact ((frm_r f31 (by omega)).trans (rI_eq e24 ⟨by omega, by omega⟩)), fun x a0 b0 n0 => ((frm_r f31 (by omega)).trans ((frm_r f25 (by omega)).trans (frm_r f19 (by omega)))), by exact (rI_eq e30 ⟨by omega, by omega⟩), (fun x a0 b0 n0 e0 => by rw [e0]; exact (((frm_r f31 (by omega)).trans (frm_r f25 (by omega))).trans (rI_eq e18 ⟨by omega, by omega⟩))), fun x a0 b0 n0 e0 => ((frm_r f31 (by omega)).trans ((frm_r f25 (by omega)).trans (frm_r f19 (by omega))))⟩)
set_option maxHeartbeats 6000000 in
theorem zp_X12_layAsked_1 {ad : mA} {dd : Nat} {h : mH} {Q : mQ} {m : Nat} {g : Int → Int} (hk : rk h m) (HB : rB h m g)    (kq : ∀ h1, frm (fun a k => a = m + 16 ∨ (m + 19 ≤ a ∧ a ≤ m + 21)) h h1 → (stE h1 m g) → Q none h1) : mCal TB0 ad (dd + 5) M_X12_layAsked [.ref m, .int (zI 1)] h 0 0 Q := by
  refine ⟨Nat.le_of_ble_eq_true rfl, ?_⟩
  show mEv TB0 ad M_X12_layAsked (dd + 5) (0, 0) (mCal TB0 ad (dd + 4)) (fun v h' z => z.1 = 0 ∧ Q v h') 0 [some (.ref m), some (.int (zI 1)), none, none, none, none, none] [] h (0, 0)
  have FR0 : frm (fun a k => a = m + 16 ∨ (m + 19 ≤ a ∧ a ≤ m + 21)) h h := frm_0 h
  have w1 := rB_n HB
  have w2 := rB_nd HB
  have w3 := rB_nu HB
  refine e_iload_n dX12_layAsked_0 rfl ?_
  refine z_if_eq 11 dX12_layAsked_1 rfl ⟨by omega, by omega⟩ (fun c1 => ?_) (fun c1 => ?_)
  · exfalso; omega
  · skip
    refine e_aload_n dX12_layAsked_4 rfl ?_
    refine z_get (nu g) dX12_layAsked_5 tf_12_274 (rk_s hk) (Or.inl rfl) (rB_nu HB) ?_
    have y2 := rB_n HB
    refine e_goto 15 dX12_layAsked_8 rfl ?_
    refine e_istore_n (L' := [_, _, _, _, _, _, _]) dX12_layAsked_15 (Nat.le_of_ble_eq_true rfl) rfl ?_
    refine e_iload_n dX12_layAsked_16 rfl ?_
    refine z_if_eq 27 dX12_layAsked_17 rfl ⟨by omega, by omega⟩ (fun c3 => ?_) (fun c3 => ?_)
    · exfalso; omega
    · skip
      refine e_aload_n dX12_layAsked_20 rfl ?_
      refine z_get (nd g) dX12_layAsked_21 tf_12_271 (rk_s hk) (Or.inl rfl) (rB_nd HB) ?_
      have y4 := rB_n HB
      refine e_goto 31 dX12_layAsked_24 rfl ?_
      refine e_istore_n (L' := [_, _, _, _, _, _, _]) dX12_layAsked_31 (Nat.le_of_ble_eq_true rfl) rfl ?_
      refine z_iconst (0) dX12_layAsked_32 rfl ?_
      refine e_istore (L' := [_, _, _, _, _, _, _]) dX12_layAsked_33 (Nat.le_of_ble_eq_true rfl) rfl ?_
      have lp5 : ∀ (n5 : Nat) (i : Int) (h5 : mH), (6 - i).toNat = n5 → (rk h5 m) → (rB h5 m g) → (frm (fun a k => a = m + 16 ∨ (m + 19 ≤ a ∧ a ≤ m + 21)) h h5) → (0 ≤ i ∧ i ≤ 6) → (∀ x : Int, 0 ≤ x → x < i → rI h5 (m + 19) x = 0 ∧ rI h5 (m + 20) x = 6 ∧ rI h5 (m + 21) x = 0) → mEv TB0 ad M_X12_layAsked (dd + 5) (0, 0) (mCal TB0 ad (dd + 4)) (fun v h' z => z.1 = 0 ∧ Q v h') 35 [some (.ref m), some (.int (zI 1)), some (.int (zI (nu g))), some (.int (zI (nd g))), some (.int (zI i)), none, none] [] h5 (0, 0) := by
        intro n5
        induction n5 using Nat.strongRecOn with
        | ind n5 ih5 =>
        intro i h5 hn5 k6 H7 FR8 I1 I2
        refine e_iload dX12_layAsked_35 rfl ?_
        refine z_bipush (6) dX12_layAsked_37 rfl ?_
        refine z_icmp_ge 73 dX12_layAsked_39 rfl ⟨by omega, by omega⟩ ⟨by omega, by omega⟩ (fun c9 => ?_) (fun c9 => ?_)
        · skip
          refine z_iconst (1) dX12_layAsked_73 rfl ?_
          refine e_istore (L' := [_, _, _, _, _, _, _]) dX12_layAsked_74 (Nat.le_of_ble_eq_true rfl) rfl ?_
          have lp10 : ∀ (n10 : Nat) (mo : Int) (h10 : mH), (2 * (36 - smA (fun x => rI h10 (m + 19) x)) + mo).toNat = n10 → (rk h10 m) → (rB h10 m g) → (frm (fun a k => a = m + 16 ∨ (m + 19 ≤ a ∧ a ≤ m + 21)) h h10) → (mo = 0 ∨ mo = 1) → (daI (fun a b => KY g b a) (nu g) (nd g) (fun x => rI h10 (m + 19) x) (fun x => rI h10 (m + 20) x) (fun x => rI h10 (m + 21) x)) → (mo = 0 → dnA (nu g) (nd g) (fun x => rI h10 (m + 19) x) (fun x => rI h10 (m + 21) x) 6) → mEv TB0 ad M_X12_layAsked (dd + 5) (0, 0) (mCal TB0 ad (dd + 4)) (fun v h' z => z.1 = 0 ∧ Q v h') 76 [some (.ref m), some (.int (zI 1)), some (.int (zI (nu g))), some (.int (zI (nd g))), some (.int (zI mo)), none, none] [] h10 (0, 0) := by
            intro n10
            induction n10 using Nat.strongRecOn with
            | ind n10 ih10 =>
            intro mo h10 hn10 k11 H12 FR13 M1 DA DD
            refine e_iload dX12_layAsked_76 rfl ?_
            have sb := smA_b (fun x => rI h10 (m + 19) x)
            refine z_if_eq 158 dX12_layAsked_78 rfl ⟨by omega, by omega⟩ (fun c14 => ?_) (fun c14 => ?_)
            · skip
              refine z_iconst (0) dX12_layAsked_158 rfl ?_
              refine e_istore (L' := [_, _, _, _, _, _, _]) dX12_layAsked_159 (Nat.le_of_ble_eq_true rfl) rfl ?_
              have lp15 : ∀ (n15 : Nat) (d : Int) (h15 : mH), (6 - d).toNat = n15 → (rk h15 m) → (rB h15 m g) → (frm (fun a k => a = m + 16 ∨ (m + 19 ≤ a ∧ a ≤ m + 21)) h h15) → (0 ≤ d ∧ d ≤ 6) → (∀ x : Int, 0 ≤ x → x < d → rI h15 (m + 16) x = rI h15 (m + 20) x) → (daI (fun a b => KY g b a) (nu g) (nd g) (fun x => rI h15 (m + 19) x) (fun x => rI h15 (m + 20) x) (fun x => rI h15 (m + 21) x)) → (dnA (nu g) (nd g) (fun x => rI h15 (m + 19) x) (fun x => rI h15 (m + 21) x) 6) → mEv TB0 ad M_X12_layAsked (dd + 5) (0, 0) (mCal TB0 ad (dd + 4)) (fun v h' z => z.1 = 0 ∧ Q v h') 161 [some (.ref m), some (.int (zI 1)), some (.int (zI (nu g))), some (.int (zI (nd g))), some (.int (zI mo)), some (.int (zI d)), none] [] h15 (0, 0) := by
                intro n15
                induction n15 using Nat.strongRecOn with
                | ind n15 ih15 =>
                intro d h15 hn15 k16 H17 FR18 R0 R1 DA DD
                refine e_iload dX12_layAsked_161 rfl ?_
                refine z_bipush (6) dX12_layAsked_163 rfl ?_
                refine z_icmp_ge 197 dX12_layAsked_165 rfl ⟨by omega, by omega⟩ ⟨by omega, by omega⟩ (fun c19 => ?_) (fun c19 => ?_)
                · skip
                  refine z_iconst (0) dX12_layAsked_197 rfl ?_
                  refine e_istore (L' := [_, _, _, _, _, _, _]) dX12_layAsked_198 (Nat.le_of_ble_eq_true rfl) rfl ?_
                  refine e_iload dX12_layAsked_200 rfl ?_
                  skip
                  refine e_aload_n dX12_layAsked_202 rfl ?_
                  refine z_get (nu g) dX12_layAsked_203 tf_12_274 (rk_s k16) (Or.inl rfl) (rB_nu H17) ?_
                  have y20 := rB_n H17
                  refine z_icmp_ge 245 dX12_layAsked_206 rfl ⟨by omega, by omega⟩ ⟨by omega, by omega⟩ (fun c21 => ?_) (fun c21 => ?_)
                  · skip
                    refine e_vret dX12_layAsked_245 rfl ⟨rfl, ?_⟩
                    have nn : (0 ≤ nd g ∧ nd g ≤ 6) ∧ (0 ≤ nu g ∧ nu g ≤ 6) := by omega
                    have fin := da_up (r := fun x => rI h15 (m + 16) x) nn DA DD (fun x u v => R1 x u (by omega))
                    exact kq _ FR18 ⟨fun x => rI h15 (m + 16) x, ⟨⟨fin.1, isRw_b (by omega) fin.1⟩, fun x u v => rfl⟩, fin.2⟩
                  · skip
                    refine e_iload_n dX12_layAsked_209 rfl ?_
                    refine z_if_ne 245 dX12_layAsked_210 rfl ⟨by omega, by omega⟩ (fun c22 => ?_) (fun c22 => ?_)
                    · skip
                      refine e_vret dX12_layAsked_245 rfl ⟨rfl, ?_⟩
                      have nn : (0 ≤ nd g ∧ nd g ≤ 6) ∧ (0 ≤ nu g ∧ nu g ≤ 6) := by omega
                      have fin := da_up (r := fun x => rI h15 (m + 16) x) nn DA DD (fun x u v => R1 x u (by omega))
                      exact kq _ FR18 ⟨fun x => rI h15 (m + 16) x, ⟨⟨fin.1, isRw_b (by omega) fin.1⟩, fun x u v => rfl⟩, fin.2⟩
                    · exfalso; omega
                · skip
                  refine e_aload_n dX12_layAsked_168 rfl ?_
                  refine e_get (.ref (m + 16)) dX12_layAsked_169 tf_12_56 (rk_s k16) (congrArg va_rf (rk_r16 k16)) ?_
                  refine e_iload dX12_layAsked_172 rfl ?_
                  refine e_iload_n dX12_layAsked_174 rfl ?_
                  refine z_if_eq 188 dX12_layAsked_175 rfl ⟨by omega, by omega⟩ (fun c23 => ?_) (fun c23 => ?_)
                  · exfalso; omega
                  · skip
                    have hb4 := da_Hb DA (b := d) (by omega) (by omega)
                    refine e_aload_n dX12_layAsked_178 rfl ?_
                    refine e_get (.ref (m + 20)) dX12_layAsked_179 tf_12_68 (rk_s k16) (congrArg va_rf (rk_r20 k16)) ?_
                    refine e_iload dX12_layAsked_182 rfl ?_
                    refine z_ild (rI h15 (m + 20) d) dX12_layAsked_184 (rk_a20 k16) (by decide) (by omega) (by omega) rfl ?_
                    have y24 := rI_i h15 (m + 20) d
                    refine e_goto 190 dX12_layAsked_185 rfl ?_
                    refine z_ist dX12_layAsked_190 (rk_a16 k16) (by decide) (by omega) (by omega) (fun h25 e26 => ?_)
                    have f27 := frm_1 e26
                    have k28 := rk_q (frm_s f27) k16
                    have H29 := rB_c f27 (fun a k q => by omega) H17
                    have FR30 := frm_t FR18 (frm_m (S' := (fun a k => a = m + 16 ∨ (m + 19 ≤ a ∧ a ≤ m + 21))) f27 (fun a k q => by omega))
                    refine z_iinc (L' := [_, _, _, _, _, _, _]) dX12_layAsked_191 rfl rfl ?_
                    refine e_goto 161 dX12_layAsked_194 rfl ?_
                    exact ih15 _ (by omega) (d + 1) h25 rfl k28 H29 FR30 (by omega) (fun x u v => by
                              have e : rI h25 (m + 20) x = _ := (frm_r f27 (by omega))
                              by_cases q : x = d
                              · rw [e, q]; exact (rI_eq e26 ⟨by omega, by omega⟩)
                              · rw [e]; exact ((frm_r f27 (by omega))).trans (R1 x u (by omega))) (da_e DA (funext (fun x => (frm_r f27 (by omega)))) (funext (fun x => (frm_r f27 (by omega)))) (funext (fun x => (frm_r f27 (by omega))))) (fun x u v w => by rw [show (fun x => rI h25 (m + 19) x) = _ from funext (fun x => (frm_r f27 (by omega))), show (fun x => rI h25 (m + 21) x) = _ from funext (fun x => (frm_r f27 (by omega)))]; exact DD x u v w)
              exact lp15 _ 0 h10 rfl k11 H12 FR13 (by omega) (fun x u v => by omega) DA (DD (by omega))
            · skip
              refine z_iconst (0) dX12_layAsked_81 rfl ?_
              refine e_istore (L' := [_, _, _, _, _, _, _]) dX12_layAsked_82 (Nat.le_of_ble_eq_true rfl) rfl ?_
              refine z_iconst (0) dX12_layAsked_84 rfl ?_
              refine e_istore (L' := [_, _, _, _, _, _, _]) dX12_layAsked_85 (Nat.le_of_ble_eq_true rfl) rfl ?_
              have lp31 : ∀ (n31 : Nat) (mo a : Int) (h31 : mH), (nu g - a).toNat = n31 → (rk h31 m) → (rB h31 m g) → (frm (fun a k => a = m + 16 ∨ (m + 19 ≤ a ∧ a ≤ m + 21)) h h31) → (0 ≤ a ∧ a ≤ nu g) → (mo = 0 ∨ mo = 1) → (daI (fun a b => KY g b a) (nu g) (nd g) (fun x => rI h31 (m + 19) x) (fun x => rI h31 (m + 20) x) (fun x => rI h31 (m + 21) x)) → (mo = 0 → dnA (nu g) (nd g) (fun x => rI h31 (m + 19) x) (fun x => rI h31 (m + 21) x) a) → (smA (fun x => rI h10 (m + 19) x) ≤ smA (fun x => rI h31 (m + 19) x) ∧ (mo = 1 → smA (fun x => rI h10 (m + 19) x) < smA (fun x => rI h31 (m + 19) x))) → mEv TB0 ad M_X12_layAsked (dd + 5) (0, 0) (mCal TB0 ad (dd + 4)) (fun v h' z => z.1 = 0 ∧ Q v h') 87 [some (.ref m), some (.int (zI 1)), some (.int (zI (nu g))), some (.int (zI (nd g))), some (.int (zI mo)), some (.int (zI a)), none] [] h31 (0, 0) := by
                intro n31
                induction n31 using Nat.strongRecOn with
                | ind n31 ih31 =>
                intro mo a h31 hn31 k32 H33 FR34 N1 N2 DJ DN SS
                refine e_iload dX12_layAsked_87 rfl ?_
                have sb2 := smA_b (fun x => rI h31 (m + 19) x)
                refine e_iload_n dX12_layAsked_89 rfl ?_
                refine z_icmp_ge 155 dX12_layAsked_90 rfl ⟨by omega, by omega⟩ ⟨by omega, by omega⟩ (fun c35 => ?_) (fun c35 => ?_)
                · skip
                  refine e_goto 76 dX12_layAsked_155 rfl ?_
                  exact mEv_wk (by exact ⟨Or.inr rfl, Or.inr rfl, Or.inr rfl, Or.inr rfl, Or.inr rfl, Or.inl rfl, Or.inl rfl, trivial⟩) (ih10 _ (by omega) mo h31 rfl k32 H33 FR34 (by omega) DJ (fun z x u v w => DN z x u (by omega) w))
                · skip
                  have lb : rI h31 (m + 21) a = 0 ∨ rI h31 (m + 21) a = 1 := da_Lb DJ (by omega) (by omega)
                  have mb : 0 ≤ rI h31 (m + 19) a ∧ rI h31 (m + 19) a < 64 := DJ.1 a (by omega) (by omega)
                  refine e_aload_n dX12_layAsked_93 rfl ?_
                  refine e_get (.ref (m + 21)) dX12_layAsked_94 tf_12_71 (rk_s k32) (congrArg va_rf (rk_r21 k32)) ?_
                  refine e_iload dX12_layAsked_97 rfl ?_
                  refine z_zld (rI h31 (m + 21) a) dX12_layAsked_99 (rk_a21 k32) (by decide) (by omega) (by omega) rfl ?_
                  refine z_if_eq 107 dX12_layAsked_100 rfl ⟨by omega, by omega⟩ (fun c36 => ?_) (fun c36 => ?_)
                  · skip
                    refine e_aload_n dX12_layAsked_107 rfl ?_
                    refine e_iload dX12_layAsked_108 rfl ?_
                    refine e_iload_n dX12_layAsked_110 rfl ?_
                    refine e_iload_n dX12_layAsked_111 rfl ?_
                    refine e_callV [.int _, .int _, .int _] dX12_layAsked_112 tm_12_394 rfl (Nat.le_of_ble_eq_true rfl) (rk_s k32) (Nat.le_of_ble_eq_true rfl) (Nat.le_refl _) (Nat.le_refl _) rfl (zp_X12_nextFor_1 k32 H33 a ⟨by omega, by omega⟩ (nd g) ⟨by omega, by omega⟩ (by omega) (by omega) rfl (by omega) (fun v37 p38 => ?_))
                    have nf : fmax (fun k => ¬ hasZ (rI h31 (m + 19) a) k) (fun k => KY g k a) (nd g) v37 := by have q := (by assumption : fmax (fun k => ¬ hasZ (rI h31 (m + 19) a) k) (fun k => KY g k a) _ v37); exact q
                    have nfb := fmax_b nf
                    refine e_istore (L' := [_, _, _, _, _, _, _]) dX12_layAsked_115 (Nat.le_of_ble_eq_true rfl) rfl ?_
                    refine e_iload dX12_layAsked_117 rfl ?_
                    refine z_iconst (-1) dX12_layAsked_119 rfl ?_
                    refine z_icmp_eq 149 dX12_layAsked_120 rfl ⟨by omega, by omega⟩ ⟨by omega, by omega⟩ (fun c39 => ?_) (fun c39 => ?_)
                    · skip
                      refine z_iinc (L' := [_, _, _, _, _, _, _]) dX12_layAsked_149 rfl rfl ?_
                      refine e_goto 87 dX12_layAsked_152 rfl ?_
                      exact mEv_wk (by exact ⟨Or.inr rfl, Or.inr rfl, Or.inr rfl, Or.inr rfl, Or.inr rfl, Or.inr rfl, Or.inl rfl, trivial⟩) (ih31 _ (by omega) mo (a + 1) h31 rfl k32 H33 FR34 (by omega) (by omega) DJ (fun z x u v w => by
                                by_cases q : x = a
                                · rw [q]; first | exact Or.inl (by show rI h31 (m + 21) a = 1; omega) | exact Or.inr (nf_none nf (by omega))
                                · exact DN z x u (by omega) w) (by omega))
                    · skip
                      refine z_iconst (1) dX12_layAsked_123 rfl ?_
                      refine e_istore (L' := [_, _, _, _, _, _, _]) dX12_layAsked_124 (Nat.le_of_ble_eq_true rfl) rfl ?_
                      have nb := nf_best nf (by omega)
                      have nh := da_nh DJ (a := a) (by omega) (by omega) (by omega)
                      have hb3 := da_Hb DJ (b := v37) (by omega) (by omega)
                      have nha := nh v37 (by omega) (by omega)
                      refine e_aload_n dX12_layAsked_126 rfl ?_
                      refine e_get (.ref (m + 19)) dX12_layAsked_127 tf_12_65 (rk_s k32) (congrArg va_rf (rk_r19 k32)) ?_
                      refine e_iload dX12_layAsked_130 rfl ?_
                      refine e_dup2 dX12_layAsked_132 rfl rfl ?_
                      refine z_ild (rI h31 (m + 19) a) dX12_layAsked_133 (rk_a19 k32) (by decide) (by omega) (by omega) rfl ?_
                      refine z_iconst (1) dX12_layAsked_134 rfl ?_
                      refine e_iload dX12_layAsked_135 rfl ?_
                      refine z_ishl dX12_layAsked_137 (by omega) (by omega) (by omega) (by omega) ?_
                      have y40 := shlZ_b 1 v37
                      refine z_ior dX12_layAsked_138 (by omega) (by omega) (by omega) (by omega) ?_
                      have y41 := orZ_b (rI h31 (m + 19) a) (shlZ 1 v37)
                      refine z_ist dX12_layAsked_139 (rk_a19 k32) (by decide) (by omega) (by omega) (fun h42 e43 => ?_)
                      have f44 := frm_1 e43
                      have k45 := rk_q (frm_s f44) k32
                      have H46 := rB_c f44 (fun a k q => by omega) H33
                      have FR47 := frm_t FR34 (frm_m (S' := (fun a k => a = m + 16 ∨ (m + 19 ≤ a ∧ a ≤ m + 21))) f44 (fun a k q => by omega))
                      have e20 : rI h42 (m + 20) v37 = rI h31 (m + 20) v37 := (frm_r f44 (by omega))
                      have hb3 : rI h31 (m + 20) v37 = 6 ∨ ((0 ≤ rI h31 (m + 20) v37 ∧ rI h31 (m + 20) v37 < 6) ∧ rI h31 (m + 20) v37 < nu g) := hb3
                      have nha : rI h31 (m + 20) v37 ≠ a := nha
                      refine e_aload_n dX12_layAsked_140 rfl ?_
                      refine e_iload dX12_layAsked_141 rfl ?_
                      refine e_iload dX12_layAsked_143 rfl ?_
                      refine e_iload_n dX12_layAsked_145 rfl ?_
                      refine e_callV [.int _, .int _, .int _] dX12_layAsked_146 tm_12_398 rfl (Nat.le_of_ble_eq_true rfl) (rk_s k45) (Nat.le_of_ble_eq_true rfl) (Nat.le_refl _) (Nat.le_refl _) rfl (zp_X12_asksFor_1 k45 H46 a ⟨by omega, by omega⟩ v37 ⟨by omega, by omega⟩ (by omega) (by omega) (by omega) (by omega) (fun  h48 f49 p50 => ?_))
                      have k51 := rk_q (frm_s f49) k45
                      have H52 := rB_c f49 (fun a k q => by omega) H46
                      have FR53 := frm_t FR47 (frm_m (S' := (fun a k => a = m + 16 ∨ (m + 19 ≤ a ∧ a ≤ m + 21))) f49 (fun a k q => by omega))
                      have eA : rI h48 (m + 19) a = orZ (rI h31 (m + 19) a) (shlZ 1 v37) := ((frm_r f49 (by omega)).trans (rI_eq e43 ⟨by omega, by omega⟩))
                      have oA : ∀ x : Int, 0 ≤ x → x < 6 → x ≠ a → rI h48 (m + 19) x = rI h31 (m + 19) x := fun x u v n => ((frm_r f49 (by omega)).trans (frm_r f44 (by omega)))
                      have k20 : ∀ x : Int, rI h42 (m + 20) x = rI h31 (m + 20) x := fun x => (frm_r f44 (by omega))
                      have k21 : ∀ x : Int, rI h42 (m + 21) x = rI h31 (m + 21) x := fun x => (frm_r f44 (by omega))
                      have DK : daI (fun a b => KY g b a) (nu g) (nd g) (fun x => rI h48 (m + 19) x) (fun x => rI h48 (m + 20) x) (fun x => rI h48 (m + 21) x) := daI_ask (by omega) DJ (a := a) (b := v37) (by omega) (by omega) (by omega) (by omega) nh nb.1 nb.2 eA oA (by
                        rcases p50 with ⟨q1, q2, q3, q4, q5, q6⟩ | ⟨q1, q2, q3⟩
                        · rw [k20] at q1 q5 q6
                          exact Or.inl ⟨q1, q2, fun x u v n => (q3 x u v n).trans (k20 x), q4, q5, fun x u v n e => (q6 x u v n e).trans (k21 x)⟩
                        · rw [k20] at q1
                          exact Or.inr ⟨q1, fun x u v => (q2 x u v).trans (k20 x), fun x u v => (q3 x u v).trans (k21 x)⟩)
                      have sA : smA (fun x => rI h48 (m + 19) x) = smA (fun x => rI h31 (m + 19) x) + 1 := smA_ask (a := a) (b := v37) (by omega) (by omega) (by omega) (by omega) nb.1 eA oA
                      refine z_iinc (L' := [_, _, _, _, _, _, _]) dX12_layAsked_149 rfl rfl ?_
                      refine e_goto 87 dX12_layAsked_152 rfl ?_
                      exact mEv_wk (by exact ⟨Or.inr rfl, Or.inr rfl, Or.inr rfl, Or.inr rfl, Or.inr rfl, Or.inr rfl, Or.inl rfl, trivial⟩) (ih31 _ (by omega) 1 (a + 1) h48 rfl k51 H52 FR53 (by omega) (by omega) DK (fun z => by omega) (by omega))
                  · skip
                    refine z_iconst (-1) dX12_layAsked_103 rfl ?_
                    refine e_goto 115 dX12_layAsked_104 rfl ?_
                    refine e_istore (L' := [_, _, _, _, _, _, _]) dX12_layAsked_115 (Nat.le_of_ble_eq_true rfl) rfl ?_
                    refine e_iload dX12_layAsked_117 rfl ?_
                    refine z_iconst (-1) dX12_layAsked_119 rfl ?_
                    refine z_icmp_eq 149 dX12_layAsked_120 rfl ⟨by omega, by omega⟩ ⟨by omega, by omega⟩ (fun c54 => ?_) (fun c54 => ?_)
                    · skip
                      refine z_iinc (L' := [_, _, _, _, _, _, _]) dX12_layAsked_149 rfl rfl ?_
                      refine e_goto 87 dX12_layAsked_152 rfl ?_
                      exact mEv_wk (by exact ⟨Or.inr rfl, Or.inr rfl, Or.inr rfl, Or.inr rfl, Or.inr rfl, Or.inr rfl, Or.inl rfl, trivial⟩) (ih31 _ (by omega) mo (a + 1) h31 rfl k32 H33 FR34 (by omega) (by omega) DJ (fun z x u v w => by
                                by_cases q : x = a
                                · rw [q]; first | exact Or.inl (by show rI h31 (m + 21) a = 1; omega) | exact Or.inr (nf_none nf (by omega))
                                · exact DN z x u (by omega) w) (by omega))
                    · exfalso; omega
              exact lp31 _ 0 0 h10 rfl k11 H12 FR13 (by omega) (by omega) DA (fun z x u v w => by omega) (⟨Int.le_refl _, fun z => by omega⟩)
          exact lp10 _ 1 h5 rfl k6 H7 FR8 (by omega) (daI_0 _ _ _ (fun x u v => I2 x u (by omega)) (by omega)) (fun z => by omega)
        · skip
          refine e_aload_n dX12_layAsked_42 rfl ?_
          refine e_get (.ref (m + 19)) dX12_layAsked_43 tf_12_65 (rk_s k6) (congrArg va_rf (rk_r19 k6)) ?_
          refine e_iload dX12_layAsked_46 rfl ?_
          refine z_iconst (0) dX12_layAsked_48 rfl ?_
          refine z_ist dX12_layAsked_49 (rk_a19 k6) (by decide) (by omega) (by omega) (fun h55 e56 => ?_)
          have f57 := frm_1 e56
          have k58 := rk_q (frm_s f57) k6
          have H59 := rB_c f57 (fun a k q => by omega) H7
          have FR60 := frm_t FR8 (frm_m (S' := (fun a k => a = m + 16 ∨ (m + 19 ≤ a ∧ a ≤ m + 21))) f57 (fun a k q => by omega))
          refine e_aload_n dX12_layAsked_50 rfl ?_
          refine e_get (.ref (m + 20)) dX12_layAsked_51 tf_12_68 (rk_s k58) (congrArg va_rf (rk_r20 k58)) ?_
          refine e_iload dX12_layAsked_54 rfl ?_
          refine z_bipush (6) dX12_layAsked_56 rfl ?_
          refine z_ist dX12_layAsked_58 (rk_a20 k58) (by decide) (by omega) (by omega) (fun h61 e62 => ?_)
          have f63 := frm_1 e62
          have k64 := rk_q (frm_s f63) k58
          have H65 := rB_c f63 (fun a k q => by omega) H59
          have FR66 := frm_t FR60 (frm_m (S' := (fun a k => a = m + 16 ∨ (m + 19 ≤ a ∧ a ≤ m + 21))) f63 (fun a k q => by omega))
          refine e_aload_n dX12_layAsked_59 rfl ?_
          refine e_get (.ref (m + 21)) dX12_layAsked_60 tf_12_71 (rk_s k64) (congrArg va_rf (rk_r21 k64)) ?_
          refine e_iload dX12_layAsked_63 rfl ?_
          refine z_iconst (0) dX12_layAsked_65 rfl ?_
          refine z_zst dX12_layAsked_66 (rk_a21 k64) (by decide) (by omega) (by omega) (Or.inl rfl) (fun h67 e68 => ?_)
          have f69 := frm_1 e68
          have k70 := rk_q (frm_s f69) k64
          have H71 := rB_c f69 (fun a k q => by omega) H65
          have FR72 := frm_t FR66 (frm_m (S' := (fun a k => a = m + 16 ∨ (m + 19 ≤ a ∧ a ≤ m + 21))) f69 (fun a k q => by omega))
          refine z_iinc (L' := [_, _, _, _, _, _, _]) dX12_layAsked_67 rfl rfl ?_
          refine e_goto 35 dX12_layAsked_70 rfl ?_
          exact ih5 _ (by omega) (i + 1) h67 rfl k70 H71 FR72 (by omega) (fun x u v => by
                    by_cases q : x = i
                    · rw [q]; exact ⟨(((frm_r f69 (by omega)).trans (frm_r f63 (by omega))).trans (rI_eq e56 ⟨by omega, by omega⟩)), ((frm_r f69 (by omega)).trans (rI_eq e62 ⟨by omega, by omega⟩)), (rI_eq e68 ⟨by omega, by omega⟩)⟩
                    · obtain ⟨z1, z2, z3⟩ := I2 x u (by omega)
                      exact ⟨(((frm_r f69 (by omega)).trans ((frm_r f63 (by omega)).trans (frm_r f57 (by omega))))).trans z1, (((frm_r f69 (by omega)).trans ((frm_r f63 (by omega)).trans (frm_r f57 (by omega))))).trans z2, (((frm_r f69 (by omega)).trans ((frm_r f63 (by omega)).trans (frm_r f57 (by omega))))).trans z3⟩)
      exact lp5 _ 0 h rfl hk HB FR0 (by omega) (fun x u v => by omega)

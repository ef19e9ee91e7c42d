/-! SEASON: cut, grind -/
theorem dX7_cutCloth_0 : decode cX7_cutCloth 0 = .ok (.aload_n 0, 1) := by decide +kernel
theorem dX7_cutCloth_1 : decode cX7_cutCloth 1 = .ok (.getfield 12, 3) := by decide +kernel
theorem dX7_cutCloth_4 : decode cX7_cutCloth 4 = .ok (.iload_n 1, 1) := by decide +kernel
theorem dX7_cutCloth_5 : decode cX7_cutCloth 5 = .ok (.invokevirtual 130, 3) := by decide +kernel
theorem dX7_cutCloth_8 : decode cX7_cutCloth 8 = .ok (.istore_n 3, 1) := by decide +kernel
theorem dX7_cutCloth_9 : decode cX7_cutCloth 9 = .ok (.iload_n 3, 1) := by decide +kernel
theorem dX7_cutCloth_10 : decode cX7_cutCloth 10 = .ok (.iconst (-1), 1) := by decide +kernel
theorem dX7_cutCloth_11 : decode cX7_cutCloth 11 = .ok (.if_icmp .eq 44, 3) := by decide +kernel
theorem dX7_cutCloth_14 : decode cX7_cutCloth 14 = .ok (.aload_n 0, 1) := by decide +kernel
theorem dX7_cutCloth_15 : decode cX7_cutCloth 15 = .ok (.iload_n 1, 1) := by decide +kernel
theorem dX7_cutCloth_16 : decode cX7_cutCloth 16 = .ok (.invokevirtual 133, 3) := by decide +kernel
theorem dX7_cutCloth_19 : decode cX7_cutCloth 19 = .ok (.ifCond .ne 36, 3) := by decide +kernel
theorem dX7_cutCloth_22 : decode cX7_cutCloth 22 = .ok (.aload_n 0, 1) := by decide +kernel
theorem dX7_cutCloth_23 : decode cX7_cutCloth 23 = .ok (.getfield 12, 3) := by decide +kernel
theorem dX7_cutCloth_26 : decode cX7_cutCloth 26 = .ok (.iload_n 2, 1) := by decide +kernel
theorem dX7_cutCloth_27 : decode cX7_cutCloth 27 = .ok (.invokevirtual 140, 3) := by decide +kernel
theorem dX7_cutCloth_30 : decode cX7_cutCloth 30 = .ok (.ifCond .eq 25, 3) := by decide +kernel
theorem dX7_cutCloth_33 : decode cX7_cutCloth 33 = .ok (.aload_n 0, 1) := by decide +kernel
theorem dX7_cutCloth_34 : decode cX7_cutCloth 34 = .ok (.getfield 12, 3) := by decide +kernel
theorem dX7_cutCloth_37 : decode cX7_cutCloth 37 = .ok (.iload_n 1, 1) := by decide +kernel
theorem dX7_cutCloth_38 : decode cX7_cutCloth 38 = .ok (.iload_n 3, 1) := by decide +kernel
theorem dX7_cutCloth_39 : decode cX7_cutCloth 39 = .ok (.iconst 0, 1) := by decide +kernel
theorem dX7_cutCloth_40 : decode cX7_cutCloth 40 = .ok (.invokevirtual 143, 3) := by decide +kernel
theorem dX7_cutCloth_43 : decode cX7_cutCloth 43 = .ok (.aload_n 0, 1) := by decide +kernel
theorem dX7_cutCloth_44 : decode cX7_cutCloth 44 = .ok (.getfield 12, 3) := by decide +kernel
theorem dX7_cutCloth_47 : decode cX7_cutCloth 47 = .ok (.getfield 147, 3) := by decide +kernel
theorem dX7_cutCloth_50 : decode cX7_cutCloth 50 = .ok (.iload_n 2, 1) := by decide +kernel
theorem dX7_cutCloth_51 : decode cX7_cutCloth 51 = .ok (.iaload, 1) := by decide +kernel
theorem dX7_cutCloth_52 : decode cX7_cutCloth 52 = .ok (.if_icmp .ge 5, 3) := by decide +kernel
theorem dX7_cutCloth_55 : decode cX7_cutCloth 55 = .ok (.iconst 0, 1) := by decide +kernel
theorem dX7_cutCloth_56 : decode cX7_cutCloth 56 = .ok (.ireturn, 1) := by decide +kernel
theorem dX7_cutCloth_57 : decode cX7_cutCloth 57 = .ok (.aload_n 0, 1) := by decide +kernel
theorem dX7_cutCloth_58 : decode cX7_cutCloth 58 = .ok (.getfield 12, 3) := by decide +kernel
theorem dX7_cutCloth_61 : decode cX7_cutCloth 61 = .ok (.getfield 75, 3) := by decide +kernel
theorem dX7_cutCloth_64 : decode cX7_cutCloth 64 = .ok (.getfield 150, 3) := by decide +kernel
theorem dX7_cutCloth_67 : decode cX7_cutCloth 67 = .ok (.iload_n 1, 1) := by decide +kernel
theorem dX7_cutCloth_68 : decode cX7_cutCloth 68 = .ok (.iconst 0, 1) := by decide +kernel
theorem dX7_cutCloth_69 : decode cX7_cutCloth 69 = .ok (.aload_n 0, 1) := by decide +kernel
theorem dX7_cutCloth_70 : decode cX7_cutCloth 70 = .ok (.getfield 12, 3) := by decide +kernel
theorem dX7_cutCloth_73 : decode cX7_cutCloth 73 = .ok (.getfield 75, 3) := by decide +kernel
theorem dX7_cutCloth_76 : decode cX7_cutCloth 76 = .ok (.getfield 150, 3) := by decide +kernel
theorem dX7_cutCloth_79 : decode cX7_cutCloth 79 = .ok (.iload_n 1, 1) := by decide +kernel
theorem dX7_cutCloth_80 : decode cX7_cutCloth 80 = .ok (.iaload, 1) := by decide +kernel
theorem dX7_cutCloth_81 : decode cX7_cutCloth 81 = .ok (.iconst 1, 1) := by decide +kernel
theorem dX7_cutCloth_82 : decode cX7_cutCloth 82 = .ok (.isub, 1) := by decide +kernel
theorem dX7_cutCloth_83 : decode cX7_cutCloth 83 = .ok (.invokestatic 153, 3) := by decide +kernel
theorem dX7_cutCloth_86 : decode cX7_cutCloth 86 = .ok (.iastore, 1) := by decide +kernel
theorem dX7_cutCloth_87 : decode cX7_cutCloth 87 = .ok (.aload_n 0, 1) := by decide +kernel
theorem dX7_cutCloth_88 : decode cX7_cutCloth 88 = .ok (.getfield 12, 3) := by decide +kernel
theorem dX7_cutCloth_91 : decode cX7_cutCloth 91 = .ok (.getfield 90, 3) := by decide +kernel
theorem dX7_cutCloth_94 : decode cX7_cutCloth 94 = .ok (.getfield 150, 3) := by decide +kernel
theorem dX7_cutCloth_97 : decode cX7_cutCloth 97 = .ok (.iload_n 3, 1) := by decide +kernel
theorem dX7_cutCloth_98 : decode cX7_cutCloth 98 = .ok (.iconst 0, 1) := by decide +kernel
theorem dX7_cutCloth_99 : decode cX7_cutCloth 99 = .ok (.aload_n 0, 1) := by decide +kernel
theorem dX7_cutCloth_100 : decode cX7_cutCloth 100 = .ok (.getfield 12, 3) := by decide +kernel
theorem dX7_cutCloth_103 : decode cX7_cutCloth 103 = .ok (.getfield 90, 3) := by decide +kernel
theorem dX7_cutCloth_106 : decode cX7_cutCloth 106 = .ok (.getfield 150, 3) := by decide +kernel
theorem dX7_cutCloth_109 : decode cX7_cutCloth 109 = .ok (.iload_n 3, 1) := by decide +kernel
theorem dX7_cutCloth_110 : decode cX7_cutCloth 110 = .ok (.iaload, 1) := by decide +kernel
theorem dX7_cutCloth_111 : decode cX7_cutCloth 111 = .ok (.iconst 1, 1) := by decide +kernel
theorem dX7_cutCloth_112 : decode cX7_cutCloth 112 = .ok (.isub, 1) := by decide +kernel
theorem dX7_cutCloth_113 : decode cX7_cutCloth 113 = .ok (.invokestatic 153, 3) := by decide +kernel
theorem dX7_cutCloth_116 : decode cX7_cutCloth 116 = .ok (.iastore, 1) := by decide +kernel
theorem dX7_cutCloth_117 : decode cX7_cutCloth 117 = .ok (.aload_n 0, 1) := by decide +kernel
theorem dX7_cutCloth_118 : decode cX7_cutCloth 118 = .ok (.dup, 1) := by decide +kernel
theorem dX7_cutCloth_119 : decode cX7_cutCloth 119 = .ok (.getfield 22, 3) := by decide +kernel
theorem dX7_cutCloth_122 : decode cX7_cutCloth 122 = .ok (.aload_n 0, 1) := by decide +kernel
theorem dX7_cutCloth_123 : decode cX7_cutCloth 123 = .ok (.getfield 12, 3) := by decide +kernel
theorem dX7_cutCloth_126 : decode cX7_cutCloth 126 = .ok (.getfield 159, 3) := by decide +kernel
theorem dX7_cutCloth_129 : decode cX7_cutCloth 129 = .ok (.iload_n 2, 1) := by decide +kernel
theorem dX7_cutCloth_130 : decode cX7_cutCloth 130 = .ok (.iaload, 1) := by decide +kernel
theorem dX7_cutCloth_131 : decode cX7_cutCloth 131 = .ok (.iadd, 1) := by decide +kernel
theorem dX7_cutCloth_132 : decode cX7_cutCloth 132 = .ok (.putfield 22, 3) := by decide +kernel
theorem dX7_cutCloth_135 : decode cX7_cutCloth 135 = .ok (.aload_n 0, 1) := by decide +kernel
theorem dX7_cutCloth_136 : decode cX7_cutCloth 136 = .ok (.dup, 1) := by decide +kernel
theorem dX7_cutCloth_137 : decode cX7_cutCloth 137 = .ok (.getfield 25, 3) := by decide +kernel
theorem dX7_cutCloth_140 : decode cX7_cutCloth 140 = .ok (.iconst 1, 1) := by decide +kernel
theorem dX7_cutCloth_141 : decode cX7_cutCloth 141 = .ok (.iadd, 1) := by decide +kernel
theorem dX7_cutCloth_142 : decode cX7_cutCloth 142 = .ok (.putfield 25, 3) := by decide +kernel
theorem dX7_cutCloth_145 : decode cX7_cutCloth 145 = .ok (.aload_n 0, 1) := by decide +kernel
theorem dX7_cutCloth_146 : decode cX7_cutCloth 146 = .ok (.dup, 1) := by decide +kernel
theorem dX7_cutCloth_147 : decode cX7_cutCloth 147 = .ok (.getfield 37, 3) := by decide +kernel
theorem dX7_cutCloth_150 : decode cX7_cutCloth 150 = .ok (.iconst 1, 1) := by decide +kernel
theorem dX7_cutCloth_151 : decode cX7_cutCloth 151 = .ok (.iload_n 1, 1) := by decide +kernel
theorem dX7_cutCloth_152 : decode cX7_cutCloth 152 = .ok (.ishl, 1) := by decide +kernel
theorem dX7_cutCloth_153 : decode cX7_cutCloth 153 = .ok (.ior, 1) := by decide +kernel
theorem dX7_cutCloth_154 : decode cX7_cutCloth 154 = .ok (.putfield 37, 3) := by decide +kernel
theorem dX7_cutCloth_157 : decode cX7_cutCloth 157 = .ok (.aload_n 0, 1) := by decide +kernel
theorem dX7_cutCloth_158 : decode cX7_cutCloth 158 = .ok (.dup, 1) := by decide +kernel
theorem dX7_cutCloth_159 : decode cX7_cutCloth 159 = .ok (.getfield 40, 3) := by decide +kernel
theorem dX7_cutCloth_162 : decode cX7_cutCloth 162 = .ok (.iconst 1, 1) := by decide +kernel
theorem dX7_cutCloth_163 : decode cX7_cutCloth 163 = .ok (.iload_n 3, 1) := by decide +kernel
theorem dX7_cutCloth_164 : decode cX7_cutCloth 164 = .ok (.ishl, 1) := by decide +kernel
theorem dX7_cutCloth_165 : decode cX7_cutCloth 165 = .ok (.ior, 1) := by decide +kernel
theorem dX7_cutCloth_166 : decode cX7_cutCloth 166 = .ok (.putfield 40, 3) := by decide +kernel
theorem dX7_cutCloth_169 : decode cX7_cutCloth 169 = .ok (.iconst 1, 1) := by decide +kernel
theorem dX7_cutCloth_170 : decode cX7_cutCloth 170 = .ok (.ireturn, 1) := by decide +kernel
theorem dX7_grindBlade_0 : decode cX7_grindBlade 0 = .ok (.iload_n 1, 1) := by decide +kernel
theorem dX7_grindBlade_1 : decode cX7_grindBlade 1 = .ok (.ifCond .ne 13, 3) := by decide +kernel
theorem dX7_grindBlade_4 : decode cX7_grindBlade 4 = .ok (.aload_n 0, 1) := by decide +kernel
theorem dX7_grindBlade_5 : decode cX7_grindBlade 5 = .ok (.getfield 12, 3) := by decide +kernel
theorem dX7_grindBlade_8 : decode cX7_grindBlade 8 = .ok (.getfield 75, 3) := by decide +kernel
theorem dX7_grindBlade_11 : decode cX7_grindBlade 11 = .ok (.goto 10, 3) := by decide +kernel
theorem dX7_grindBlade_14 : decode cX7_grindBlade 14 = .ok (.aload_n 0, 1) := by decide +kernel
theorem dX7_grindBlade_15 : decode cX7_grindBlade 15 = .ok (.getfield 12, 3) := by decide +kernel
theorem dX7_grindBlade_18 : decode cX7_grindBlade 18 = .ok (.getfield 90, 3) := by decide +kernel
theorem dX7_grindBlade_21 : decode cX7_grindBlade 21 = .ok (.astore_n 3, 1) := by decide +kernel
theorem dX7_grindBlade_22 : decode cX7_grindBlade 22 = .ok (.aload_n 3, 1) := by decide +kernel
theorem dX7_grindBlade_23 : decode cX7_grindBlade 23 = .ok (.iload_n 2, 1) := by decide +kernel
theorem dX7_grindBlade_24 : decode cX7_grindBlade 24 = .ok (.invokevirtual 121, 3) := by decide +kernel
theorem dX7_grindBlade_27 : decode cX7_grindBlade 27 = .ok (.ifCond .eq 13, 3) := by decide +kernel
theorem dX7_grindBlade_30 : decode cX7_grindBlade 30 = .ok (.aload_n 3, 1) := by decide +kernel
theorem dX7_grindBlade_31 : decode cX7_grindBlade 31 = .ok (.getfield 162, 3) := by decide +kernel
theorem dX7_grindBlade_34 : decode cX7_grindBlade 34 = .ok (.iload_n 2, 1) := by decide +kernel
theorem dX7_grindBlade_35 : decode cX7_grindBlade 35 = .ok (.iaload, 1) := by decide +kernel
theorem dX7_grindBlade_36 : decode cX7_grindBlade 36 = .ok (.iconst 1, 1) := by decide +kernel
theorem dX7_grindBlade_37 : decode cX7_grindBlade 37 = .ok (.if_icmp .gt 5, 3) := by decide +kernel
theorem dX7_grindBlade_40 : decode cX7_grindBlade 40 = .ok (.iconst 0, 1) := by decide +kernel
theorem dX7_grindBlade_41 : decode cX7_grindBlade 41 = .ok (.ireturn, 1) := by decide +kernel
theorem dX7_grindBlade_42 : decode cX7_grindBlade 42 = .ok (.aload_n 3, 1) := by decide +kernel
theorem dX7_grindBlade_43 : decode cX7_grindBlade 43 = .ok (.getfield 124, 3) := by decide +kernel
theorem dX7_grindBlade_46 : decode cX7_grindBlade 46 = .ok (.iload_n 2, 1) := by decide +kernel
theorem dX7_grindBlade_47 : decode cX7_grindBlade 47 = .ok (.iaload, 1) := by decide +kernel
theorem dX7_grindBlade_48 : decode cX7_grindBlade 48 = .ok (.iconst (-1), 1) := by decide +kernel
theorem dX7_grindBlade_49 : decode cX7_grindBlade 49 = .ok (.if_icmp .eq 7, 3) := by decide +kernel
theorem dX7_grindBlade_52 : decode cX7_grindBlade 52 = .ok (.iconst 1, 1) := by decide +kernel
theorem dX7_grindBlade_53 : decode cX7_grindBlade 53 = .ok (.goto 4, 3) := by decide +kernel
theorem dX7_grindBlade_56 : decode cX7_grindBlade 56 = .ok (.iconst 0, 1) := by decide +kernel
theorem dX7_grindBlade_57 : decode cX7_grindBlade 57 = .ok (.istore 4, 2) := by decide +kernel
theorem dX7_grindBlade_59 : decode cX7_grindBlade 59 = .ok (.iload 4, 2) := by decide +kernel
theorem dX7_grindBlade_61 : decode cX7_grindBlade 61 = .ok (.ifCond .eq 26, 3) := by decide +kernel
theorem dX7_grindBlade_64 : decode cX7_grindBlade 64 = .ok (.aload_n 0, 1) := by decide +kernel
theorem dX7_grindBlade_65 : decode cX7_grindBlade 65 = .ok (.iload_n 1, 1) := by decide +kernel
theorem dX7_grindBlade_66 : decode cX7_grindBlade 66 = .ok (.ifCond .ne 7, 3) := by decide +kernel
theorem dX7_grindBlade_69 : decode cX7_grindBlade 69 = .ok (.iload_n 2, 1) := by decide +kernel
theorem dX7_grindBlade_70 : decode cX7_grindBlade 70 = .ok (.goto 9, 3) := by decide +kernel
theorem dX7_grindBlade_73 : decode cX7_grindBlade 73 = .ok (.aload_n 3, 1) := by decide +kernel
theorem dX7_grindBlade_74 : decode cX7_grindBlade 74 = .ok (.getfield 124, 3) := by decide +kernel
theorem dX7_grindBlade_77 : decode cX7_grindBlade 77 = .ok (.iload_n 2, 1) := by decide +kernel
theorem dX7_grindBlade_78 : decode cX7_grindBlade 78 = .ok (.iaload, 1) := by decide +kernel
theorem dX7_grindBlade_79 : decode cX7_grindBlade 79 = .ok (.invokevirtual 133, 3) := by decide +kernel
theorem dX7_grindBlade_82 : decode cX7_grindBlade 82 = .ok (.ifCond .eq 5, 3) := by decide +kernel
theorem dX7_grindBlade_85 : decode cX7_grindBlade 85 = .ok (.iconst 0, 1) := by decide +kernel
theorem dX7_grindBlade_86 : decode cX7_grindBlade 86 = .ok (.ireturn, 1) := by decide +kernel
theorem dX7_grindBlade_87 : decode cX7_grindBlade 87 = .ok (.aload_n 3, 1) := by decide +kernel
theorem dX7_grindBlade_88 : decode cX7_grindBlade 88 = .ok (.getfield 150, 3) := by decide +kernel
theorem dX7_grindBlade_91 : decode cX7_grindBlade 91 = .ok (.iload_n 2, 1) := by decide +kernel
theorem dX7_grindBlade_92 : decode cX7_grindBlade 92 = .ok (.bipush 20, 2) := by decide +kernel
theorem dX7_grindBlade_94 : decode cX7_grindBlade 94 = .ok (.aload_n 3, 1) := by decide +kernel
theorem dX7_grindBlade_95 : decode cX7_grindBlade 95 = .ok (.getfield 150, 3) := by decide +kernel
theorem dX7_grindBlade_98 : decode cX7_grindBlade 98 = .ok (.iload_n 2, 1) := by decide +kernel
theorem dX7_grindBlade_99 : decode cX7_grindBlade 99 = .ok (.iaload, 1) := by decide +kernel
theorem dX7_grindBlade_100 : decode cX7_grindBlade 100 = .ok (.iconst 5, 1) := by decide +kernel
theorem dX7_grindBlade_101 : decode cX7_grindBlade 101 = .ok (.iadd, 1) := by decide +kernel
theorem dX7_grindBlade_102 : decode cX7_grindBlade 102 = .ok (.invokestatic 165, 3) := by decide +kernel
theorem dX7_grindBlade_105 : decode cX7_grindBlade 105 = .ok (.iastore, 1) := by decide +kernel
theorem dX7_grindBlade_106 : decode cX7_grindBlade 106 = .ok (.aload_n 3, 1) := by decide +kernel
theorem dX7_grindBlade_107 : decode cX7_grindBlade 107 = .ok (.getfield 162, 3) := by decide +kernel
theorem dX7_grindBlade_110 : decode cX7_grindBlade 110 = .ok (.iload_n 2, 1) := by decide +kernel
theorem dX7_grindBlade_111 : decode cX7_grindBlade 111 = .ok (.dup2, 1) := by decide +kernel
theorem dX7_grindBlade_112 : decode cX7_grindBlade 112 = .ok (.iaload, 1) := by decide +kernel
theorem dX7_grindBlade_113 : decode cX7_grindBlade 113 = .ok (.iconst 1, 1) := by decide +kernel
theorem dX7_grindBlade_114 : decode cX7_grindBlade 114 = .ok (.isub, 1) := by decide +kernel
theorem dX7_grindBlade_115 : decode cX7_grindBlade 115 = .ok (.iastore, 1) := by decide +kernel
theorem dX7_grindBlade_116 : decode cX7_grindBlade 116 = .ok (.iconst 1, 1) := by decide +kernel
theorem dX7_grindBlade_117 : decode cX7_grindBlade 117 = .ok (.ireturn, 1) := by decide +kernel
theorem tf_7_147 : tFld TB0 7 147 = some (2, 2) := rfl
theorem tf_7_150 : tFld TB0 7 150 = some (0, 2) := rfl
theorem tf_7_159 : tFld TB0 7 159 = some (2, 3) := rfl
theorem tf_7_162 : tFld TB0 7 162 = some (0, 0) := rfl
set_option maxRecDepth 20000 in
theorem tm_7_140 : tMet TB0 7 140 = some (0, M_X2_hasCloth) := rfl
set_option maxRecDepth 20000 in
theorem tm_7_143 : tMet TB0 7 143 = some (0, M_X2_powerOf) := rfl
set_option maxRecDepth 20000 in
theorem tm_7_153 : tMet TB0 7 153 = some (10, M_none) := rfl
set_option maxRecDepth 20000 in
theorem tm_7_165 : tMet TB0 7 165 = some (11, M_none) := rfl
/-! rust -/
theorem rst_de {g : Int → Int} {A B i : Int} (w : wfB g) (h0 : 0 ≤ i) (h1 : i < nd g) : de (rstG g A B) i = if hasZ A i then de g i else max 0 (de g i - 1) := by
  have wn := wB_n w
  unfold de rstG
  by_cases c : hasZ A i
  · rw [if_pos c, if_neg]
    rintro (q | q)
    · rw [show 15 + i - 15 = i by omega] at q; exact q.2.2 c
    · omega
  · rw [if_neg c, if_pos]
    exact Or.inl ⟨by omega, by omega, by rw [show 15 + i - 15 = i by omega]; exact c⟩
theorem rst_ue {g : Int → Int} {A B i : Int} (w : wfB g) (h0 : 0 ≤ i) (h1 : i < nu g) : ue (rstG g A B) i = if hasZ B i then ue g i else max 0 (ue g i - 1) := by
  have wn := wB_n w
  unfold ue rstG
  by_cases c : hasZ B i
  · rw [if_pos c, if_neg]
    rintro (q | q)
    · omega
    · rw [show 45 + i - 45 = i by omega] at q; exact q.2.2 c
  · rw [if_neg c, if_pos]
    exact Or.inr ⟨by omega, by omega, by rw [show 45 + i - 45 = i by omega]; exact c⟩
theorem rst_o {g : Int → Int} {A B i : Int} (w : wfB g) (h : i < 15 ∨ (21 ≤ i ∧ i < 45) ∨ 51 ≤ i) : rstG g A B i = g i := by
  have wn := wB_n w
  unfold rstG
  rw [if_neg]
  rintro (q | q) <;> omega
theorem wfB_rst {g : Int → Int} {A B : Int} (w : wfB g) : wfB (rstG g A B) := by
  have wn := wB_n w
  have e0 : nd (rstG g A B) = nd g := rst_o w (by omega)
  have e1 : nu (rstG g A B) = nu g := rst_o w (by omega)
  refine ⟨by rw [e0]; exact w.1, by rw [e1]; exact w.2.1, fun i a c => ?_, fun i a c => ?_⟩
  · rw [e0] at c
    have q := wB_d w a c
    rw [rst_de w a c, show dl (rstG g A B) i = dl g i from rst_o w (by omega), show ds (rstG g A B) i = ds g i from rst_o w (by omega), show dh (rstG g A B) i = dh g i from rst_o w (by omega)]
    split <;> omega
  · rw [e1] at c
    have q := wB_u w a c
    rw [rst_ue w a c, show ul (rstG g A B) i = ul g i from rst_o w (by omega), show us (rstG g A B) i = us g i from rst_o w (by omega), show uh (rstG g A B) i = uh g i from rst_o w (by omega)]
    split <;> omega
theorem wfM_rst {g : Int → Int} {A B : Int} (wb : wfB g) (w : wfM g) : wfM (rstG g A B) := by
  have e0 : nd (rstG g A B) = nd g := rst_o wb (by omega)
  have e1 : nu (rstG g A B) = nu g := rst_o wb (by omega)
  have ed : ∀ i, 0 ≤ i → i < 6 → dm (rstG g A B) i = dm g i := fun i a c => rst_o wb (by omega)
  have eu : ∀ i, 0 ≤ i → i < 6 → um (rstG g A B) i = um g i := fun i a c => rst_o wb (by omega)
  refine ⟨fun i a c => ?_, fun i a c => ?_⟩
  · rw [e0, e1, ed i a c]
    rcases wM_d w a c with q | q
    · exact Or.inl q
    · rw [eu _ (by omega) (by omega)]; exact Or.inr q
  · rw [e0, e1, eu i a c]
    rcases wM_u w a c with q | q
    · exact Or.inl q
    · rw [ed _ (by omega) (by omega)]; exact Or.inr q
theorem wfC_rst {g : Int → Int} {A B : Int} (wb : wfB g) (w : wfC g) : wfC (rstG g A B) := by
  have e0 : nc (rstG g A B) = nc g := rst_o wb (by omega)
  refine ⟨by rw [e0]; exact w.1, fun i a c => ?_⟩
  rw [e0] at c
  rw [show ha (rstG g A B) i = ha g i from rst_o wb (by omega), show pr (rstG g A B) i = pr g i from rst_o wb (by omega), show dy (rstG g A B) i = dy g i from rst_o wb (by omega)]
  exact wC_c w a c
theorem isF_rst {h h1 : mH} {f : Nat} {g : Int → Int} {A B : Int} (H : isF h f g) (s : frm (fun a _ => a = f + 4 ∨ a = f + 10) h h1) (hd : ∀ j : Int, 0 ≤ j → j < 6 → rI h1 (f + 4) j = if j < nd g ∧ ¬ hasZ A j then max 0 (rI h (f + 4) j - 1) else rI h (f + 4) j) (hu : ∀ j : Int, 0 ≤ j → j < 6 → rI h1 (f + 10) j = if j < nu g ∧ ¬ hasZ B j then max 0 (rI h (f + 10) j - 1) else rI h (f + 10) j) : isF h1 f (rstG g A B) := by
  have wn := isF_n H
  have w := isF_w H
  have e0 : nd (rstG g A B) = nd g := rst_o w.1 (by omega)
  have e1 : nu (rstG g A B) = nu g := rst_o w.1 (by omega)
  have e2 : nc (rstG g A B) = nc g := rst_o w.1 (by omega)
  refine ⟨⟨wfB_rst w.1, wfM_rst w.1 w.2.1, wfC_rst w.1 w.2.2⟩, ⟨?_, ?_, ?_⟩, fun i a c => ?_, fun i a c => ?_, fun i a c => ?_, fun i a c => ?_⟩
  · rw [e0, frm_r s (by omega)]; exact isF_nd H
  · rw [e1, frm_r s (by omega)]; exact isF_nu H
  · rw [e2, frm_r s (by omega)]; exact isF_nc H
  · rw [e0] at c
    refine ⟨?_, ?_, ?_, ?_⟩
    · rw [show dl (rstG g A B) i = dl g i from rst_o w.1 (by omega), frm_r s (by omega)]; exact isF_dl H a c
    · rw [show ds (rstG g A B) i = ds g i from rst_o w.1 (by omega), frm_r s (by omega)]; exact isF_ds H a c
    · rw [rst_de w.1 a c, hd i a (by omega), isF_de H a c]
      by_cases z : hasZ A i
      · rw [if_pos z, if_neg (fun q => q.2 z)]
      · rw [if_neg z, if_pos ⟨c, z⟩]
    · rw [show dh (rstG g A B) i = dh g i from rst_o w.1 (by omega), frm_r s (by omega)]; exact isF_dh H a c
  · rw [e1] at c
    refine ⟨?_, ?_, ?_, ?_⟩
    · rw [show ul (rstG g A B) i = ul g i from rst_o w.1 (by omega), frm_r s (by omega)]; exact isF_ul H a c
    · rw [show us (rstG g A B) i = us g i from rst_o w.1 (by omega), frm_r s (by omega)]; exact isF_us H a c
    · rw [rst_ue w.1 a c, hu i a (by omega), isF_ue H a c]
      by_cases z : hasZ B i
      · rw [if_pos z, if_neg (fun q => q.2 z)]
      · rw [if_neg z, if_pos ⟨c, z⟩]
    · rw [show uh (rstG g A B) i = uh g i from rst_o w.1 (by omega), frm_r s (by omega)]; exact isF_uh H a c
  · rw [show dm (rstG g A B) i = dm g i from rst_o w.1 (by omega), show um (rstG g A B) i = um g i from rst_o w.1 (by omega), frm_r s (by omega), frm_r s (by omega)]
    exact ⟨isF_dm H a c, isF_um H a c⟩
  · rw [e2] at c
    rw [show ha (rstG g A B) i = ha g i from rst_o w.1 (by omega), show pr (rstG g A B) i = pr g i from rst_o w.1 (by omega), show dy (rstG g A B) i = dy g i from rst_o w.1 (by omega), frm_r s (by omega), frm_r s (by omega), frm_r s (by omega)]
    exact ⟨isF_ha H a c, isF_pr H a c, isF_dy H a c⟩
set_option maxHeartbeats 3000000 in
theorem zp_X7_cutCloth {ad : mA} {dd : Nat} {h : mH} {Q : mQ} {s : Nat} {g q : Int → Int} {n : Int} (hk : sek h s) (HF : isF h (s + 1) g) (HQ : isS h s q n)  (d : Int) (d_r : -2147483648 ≤ d ∧ d < 2147483648) (c : Int) (c_r : -2147483648 ≤ c ∧ c < 2147483648) (pn : n < 1000) (kq : ∀ h1, frm (fun a k => (a = s ∧ (k = 2 ∨ k = 3 ∨ k = 7 ∨ k = 8)) ∨ a = s + 5 ∨ a = s + 11) h h1 → (isF h1 (s + 1) (cuG g q d c)) → (isS h1 s (cuQ g q d c) (n + 1)) → Q (some (.int (zI (bZ (cCut g q d c))))) h1) : mCal TB0 ad (dd + 4) M_X7_cutCloth [.ref s, .int (zI d), .int (zI c)] h 0 0 Q := by
  refine ⟨Nat.le_of_ble_eq_true rfl, ?_⟩
  show mEv TB0 ad M_X7_cutCloth (dd + 4) (0, 0) (mCal TB0 ad (dd + 3)) (fun v h' z => z.1 = 0 ∧ Q v h') 0 [some (.ref s), some (.int (zI d)), some (.int (zI c)), none] [] h (0, 0)
  have FR0 : frm (fun a k => (a = s ∧ (k = 2 ∨ k = 3 ∨ k = 7 ∨ k = 8)) ∨ a = s + 5 ∨ a = s + 11) h h := frm_0 h
  have w1 := isF_n HF
  have w2 : rI h (s + 2) 5 = nd g := isF_nd HF
  have w3 : rI h (s + 8) 5 = nu g := isF_nu HF
  have W := isF_w HF
  have wq := wfQ_e HQ.1
  refine e_aload_n dX7_cutCloth_0 rfl ?_
  refine e_get (.ref (s + 1)) dX7_cutCloth_1 tf_7_12 (congrArg Prod.fst (se_s0 hk)) (congrArg va_rf (se_r0_0 hk)) ?_
  refine e_iload_n dX7_cutCloth_4 rfl ?_
  refine e_callV [.int _] dX7_cutCloth_5 tm_7_130 rfl (Nat.le_of_ble_eq_true rfl) (congrArg Prod.fst (se_s1 hk)) (Nat.le_of_ble_eq_true rfl) (Nat.le_refl _) (Nat.le_refl _) rfl (zp_X2_upOf (se_fg1 hk) HF d ⟨by omega, by omega⟩ ?_)
  have y1 := upv_s (isF_w HF) d
  refine e_istore_n (L' := [_, _, _, _]) dX7_cutCloth_8 (Nat.le_of_ble_eq_true rfl) rfl ?_
  refine e_iload_n dX7_cutCloth_9 rfl ?_
  refine z_iconst (-1) dX7_cutCloth_10 rfl ?_
  refine z_icmp_eq 55 dX7_cutCloth_11 rfl ⟨by omega, by omega⟩ ⟨by omega, by omega⟩ (fun c2 => ?_) (fun c2 => ?_)
  · skip
    refine z_iconst (0) dX7_cutCloth_55 rfl ?_
    refine z_bret dX7_cutCloth_56 rfl (Or.inl rfl) ⟨rfl, ?_⟩
    have C : ¬ cCut g q d c := by
      rintro ⟨⟨⟨q1, q2⟩, q3⟩, q4, q5⟩
      have u1 := upv_in q1.1 q1.2
      first | omega | exact q3 (And.right ‹(0 ≤ d ∧ d < 6) ∧ hasZ (q 3) d›) | (rw [← u1] at q5; omega)
    refine z_q0 (kq _ FR0 ?_ ?_) C
    · unfold cuG; rw [if_neg C]; exact HF
    · unfold cuQ; rw [if_neg C]; exact isS_1 HQ pn
  · skip
    refine e_aload_n dX7_cutCloth_14 rfl ?_
    refine e_iload_n dX7_cutCloth_15 rfl ?_
    refine e_callV [.int _] dX7_cutCloth_16 tm_7_133 rfl (Nat.le_of_ble_eq_true rfl) (congrArg Prod.fst (se_s0 hk)) (Nat.le_of_ble_eq_true rfl) (Nat.le_refl _) (Nat.le_refl _) rfl (zp_X7_isHot hk HQ d ⟨by omega, by omega⟩ ?_)
    refine z_ifb_ne 55 dX7_cutCloth_19 rfl (fun c3 => ?_) (fun c3 => ?_)
    · skip
      refine z_iconst (0) dX7_cutCloth_55 rfl ?_
      refine z_bret dX7_cutCloth_56 rfl (Or.inl rfl) ⟨rfl, ?_⟩
      have C : ¬ cCut g q d c := by
        rintro ⟨⟨⟨q1, q2⟩, q3⟩, q4, q5⟩
        have u1 := upv_in q1.1 q1.2
        first | omega | exact q3 (And.right ‹(0 ≤ d ∧ d < 6) ∧ hasZ (q 3) d›) | (rw [← u1] at q5; omega)
      refine z_q0 (kq _ FR0 ?_ ?_) C
      · unfold cuG; rw [if_neg C]; exact HF
      · unfold cuQ; rw [if_neg C]; exact isS_1 HQ pn
    · skip
      refine e_aload_n dX7_cutCloth_22 rfl ?_
      refine e_get (.ref (s + 1)) dX7_cutCloth_23 tf_7_12 (congrArg Prod.fst (se_s0 hk)) (congrArg va_rf (se_r0_0 hk)) ?_
      refine e_iload_n dX7_cutCloth_26 rfl ?_
      refine e_callV [.int _] dX7_cutCloth_27 tm_7_140 rfl (Nat.le_of_ble_eq_true rfl) (congrArg Prod.fst (se_s1 hk)) (Nat.le_of_ble_eq_true rfl) (Nat.le_refl _) (Nat.le_refl _) rfl (zp_X2_hasCloth (se_fg1 hk) HF c ⟨by omega, by omega⟩ ?_)
      refine z_ifb_eq 55 dX7_cutCloth_30 rfl (fun c4 => ?_) (fun c4 => ?_)
      · skip
        refine z_iconst (0) dX7_cutCloth_55 rfl ?_
        refine z_bret dX7_cutCloth_56 rfl (Or.inl rfl) ⟨rfl, ?_⟩
        have C : ¬ cCut g q d c := by
          rintro ⟨⟨⟨q1, q2⟩, q3⟩, q4, q5⟩
          have u1 := upv_in q1.1 q1.2
          first | omega | exact q3 (And.right ‹(0 ≤ d ∧ d < 6) ∧ hasZ (q 3) d›) | (rw [← u1] at q5; omega)
        refine z_q0 (kq _ FR0 ?_ ?_) C
        · unfold cuG; rw [if_neg C]; exact HF
        · unfold cuQ; rw [if_neg C]; exact isS_1 HQ pn
      · skip
        refine e_aload_n dX7_cutCloth_33 rfl ?_
        refine e_get (.ref (s + 1)) dX7_cutCloth_34 tf_7_12 (congrArg Prod.fst (se_s0 hk)) (congrArg va_rf (se_r0_0 hk)) ?_
        refine e_iload_n dX7_cutCloth_37 rfl ?_
        refine e_iload_n dX7_cutCloth_38 rfl ?_
        refine z_iconst (0) dX7_cutCloth_39 rfl ?_
        refine e_callV [.int _, .int _, .int _] dX7_cutCloth_40 tm_7_143 rfl (Nat.le_of_ble_eq_true rfl) (congrArg Prod.fst (se_s1 hk)) (Nat.le_of_ble_eq_true rfl) (Nat.le_refl _) (Nat.le_refl _) rfl (zp_X2_powerOf (se_fg1 hk) HF d ⟨by omega, by omega⟩ (upv g d) ⟨by omega, by omega⟩ 0 ⟨by omega, by omega⟩ (by omega) (by omega) ?_)
        have y5 := powC_s (isF_w HF) d (upv g d) (show 0 ≤ 0 by omega)
        refine e_aload_n dX7_cutCloth_43 rfl ?_
        refine e_get (.ref (s + 1)) dX7_cutCloth_44 tf_7_12 (congrArg Prod.fst (se_s0 hk)) (congrArg va_rf (se_r0_0 hk)) ?_
        refine e_get (.ref (s + 14)) dX7_cutCloth_47 tf_7_147 (congrArg Prod.fst (se_s1 hk)) (congrArg va_rf (se_r1_2 hk)) ?_
        refine e_iload_n dX7_cutCloth_50 rfl ?_
        refine z_ild (ha g c) dX7_cutCloth_51 (se_s14 hk) (by decide) (by omega) (by omega) (isF_ha HF (by omega) (by omega)) ?_
        have y6 := wC_c (isF_w HF).2.2 (show 0 ≤ c by omega) (by omega)
        refine z_icmp_ge 57 dX7_cutCloth_52 rfl ⟨by omega, by omega⟩ ⟨by omega, by omega⟩ (fun c7 => ?_) (fun c7 => ?_)
        · skip
          refine e_aload_n dX7_cutCloth_57 rfl ?_
          refine e_get (.ref (s + 1)) dX7_cutCloth_58 tf_7_12 (congrArg Prod.fst (se_s0 hk)) (congrArg va_rf (se_r0_0 hk)) ?_
          refine e_get (.ref (s + 2)) dX7_cutCloth_61 tf_7_75 (congrArg Prod.fst (se_s1 hk)) (congrArg va_rf (se_r1_0 hk)) ?_
          refine e_get (.ref (s + 5)) dX7_cutCloth_64 tf_7_150 (congrArg Prod.fst (se_s2 hk)) (congrArg va_rf (se_r2_2 hk)) ?_
          refine e_iload_n dX7_cutCloth_67 rfl ?_
          refine z_iconst (0) dX7_cutCloth_68 rfl ?_
          refine e_aload_n dX7_cutCloth_69 rfl ?_
          refine e_get (.ref (s + 1)) dX7_cutCloth_70 tf_7_12 (congrArg Prod.fst (se_s0 hk)) (congrArg va_rf (se_r0_0 hk)) ?_
          refine e_get (.ref (s + 2)) dX7_cutCloth_73 tf_7_75 (congrArg Prod.fst (se_s1 hk)) (congrArg va_rf (se_r1_0 hk)) ?_
          refine e_get (.ref (s + 5)) dX7_cutCloth_76 tf_7_150 (congrArg Prod.fst (se_s2 hk)) (congrArg va_rf (se_r2_2 hk)) ?_
          refine e_iload_n dX7_cutCloth_79 rfl ?_
          refine z_ild (de g d) dX7_cutCloth_80 (se_s5 hk) (by decide) (by omega) (by omega) (isF_de HF (by omega) (by omega)) ?_
          have y8 := wB_d (isF_w HF).1 (show 0 ≤ d by omega) (by omega)
          refine z_iconst (1) dX7_cutCloth_81 rfl ?_
          refine z_isub dX7_cutCloth_82 ?_
          refine z_mmax dX7_cutCloth_83 tm_7_153 (Nat.le_of_ble_eq_true rfl) ⟨by omega, by omega⟩ ⟨by omega, by omega⟩ ?_
          refine z_ist dX7_cutCloth_86 (se_s5 hk) (by decide) (by omega) (by omega) (fun h9 e10 => ?_)
          have f11 := frm_1 e10
          have k12 := lk_q (frm_s f11) hk
          have H13 := isS_c f11 (fun a k q1 q2 q3 => by omega) HQ
          have FR14 := frm_t FR0 (frm_m (S' := (fun a k => (a = s ∧ (k = 2 ∨ k = 3 ∨ k = 7 ∨ k = 8)) ∨ a = s + 5 ∨ a = s + 11)) f11 (fun a k q => by omega))
          have HC1 : isF h9 (s + 1) (setG g (15 + d) (max 0 ((de g d) - 1))) := isF_setde HF e10 (by omega) (by omega) (by omega) (by omega)
          have n1 : nd (setG g (15 + d) (max 0 ((de g d) - 1))) = nd g := nd_set (by omega)
          have n2 : nu (setG g (15 + d) (max 0 ((de g d) - 1))) = nu g := nu_set (by omega)
          have n3 : nc (setG g (15 + d) (max 0 ((de g d) - 1))) = nc g := nc_set (by omega)
          refine e_aload_n dX7_cutCloth_87 rfl ?_
          refine e_get (.ref (s + 1)) dX7_cutCloth_88 tf_7_12 (congrArg Prod.fst (se_s0 k12)) (congrArg va_rf (se_r0_0 k12)) ?_
          refine e_get (.ref (s + 8)) dX7_cutCloth_91 tf_7_90 (congrArg Prod.fst (se_s1 k12)) (congrArg va_rf (se_r1_1 k12)) ?_
          refine e_get (.ref (s + 11)) dX7_cutCloth_94 tf_7_150 (congrArg Prod.fst (se_s8 k12)) (congrArg va_rf (se_r8_2 k12)) ?_
          refine e_iload_n dX7_cutCloth_97 rfl ?_
          refine z_iconst (0) dX7_cutCloth_98 rfl ?_
          refine e_aload_n dX7_cutCloth_99 rfl ?_
          refine e_get (.ref (s + 1)) dX7_cutCloth_100 tf_7_12 (congrArg Prod.fst (se_s0 k12)) (congrArg va_rf (se_r0_0 k12)) ?_
          refine e_get (.ref (s + 8)) dX7_cutCloth_103 tf_7_90 (congrArg Prod.fst (se_s1 k12)) (congrArg va_rf (se_r1_1 k12)) ?_
          refine e_get (.ref (s + 11)) dX7_cutCloth_106 tf_7_150 (congrArg Prod.fst (se_s8 k12)) (congrArg va_rf (se_r8_2 k12)) ?_
          refine e_iload_n dX7_cutCloth_109 rfl ?_
          refine z_ild (ue (setG g (15 + d) (max 0 ((de g d) - 1))) (upv g d)) dX7_cutCloth_110 (se_s11 k12) (by decide) (by omega) (by omega) (isF_ue HC1 (by omega) (by omega)) ?_
          have y15 := wB_u (isF_w HC1).1 (show 0 ≤ (upv g d) by omega) (by omega)
          refine z_iconst (1) dX7_cutCloth_111 rfl ?_
          refine z_isub dX7_cutCloth_112 ?_
          refine z_mmax dX7_cutCloth_113 tm_7_153 (Nat.le_of_ble_eq_true rfl) ⟨by omega, by omega⟩ ⟨by omega, by omega⟩ ?_
          refine z_ist dX7_cutCloth_116 (se_s11 k12) (by decide) (by omega) (by omega) (fun h16 e17 => ?_)
          have f18 := frm_1 e17
          have k19 := lk_q (frm_s f18) k12
          have H20 := isS_c f18 (fun a k q1 q2 q3 => by omega) H13
          have FR21 := frm_t FR14 (frm_m (S' := (fun a k => (a = s ∧ (k = 2 ∨ k = 3 ∨ k = 7 ∨ k = 8)) ∨ a = s + 5 ∨ a = s + 11)) f18 (fun a k q => by omega))
          have HC2 : isF h16 (s + 1) (setG (setG g (15 + d) (max 0 ((de g d) - 1))) (45 + (upv g d)) (max 0 ((ue (setG g (15 + d) (max 0 ((de g d) - 1))) (upv g d)) - 1))) := isF_setue HC1 e17 (by omega) (by omega) (by omega) (by omega)
          have n4 : nc (setG (setG g (15 + d) (max 0 ((de g d) - 1))) (45 + (upv g d)) (max 0 ((ue (setG g (15 + d) (max 0 ((de g d) - 1))) (upv g d)) - 1))) = nc g := (nc_set (by omega)).trans n3
          have x1 : ue (setG g (15 + d) (max 0 ((de g d) - 1))) (upv g d) = ue g (upv g d) := by rw [ue_set, if_neg (by omega)]
          have u1 := upv_in (g := g) (d := d) (by omega) (by omega)
          have eG : (setG (setG g (15 + d) (max 0 ((de g d) - 1))) (45 + (upv g d)) (max 0 ((ue (setG g (15 + d) (max 0 ((de g d) - 1))) (upv g d)) - 1))) = ctG g d := by unfold ctG; rw [x1, u1]
          have x3 : pr (setG (setG g (15 + d) (max 0 ((de g d) - 1))) (45 + (upv g d)) (max 0 ((ue (setG g (15 + d) (max 0 ((de g d) - 1))) (upv g d)) - 1))) c = pr g c := by rw [pr_set, pr_set, if_neg (by omega), if_neg (by omega)]
          have x4 := wC_c W.2.2 (c := c) (by omega) (by omega)
          refine e_aload_n dX7_cutCloth_117 rfl ?_
          refine e_dup dX7_cutCloth_118 rfl ?_
          refine z_get (q 1) dX7_cutCloth_119 tf_7_22 (congrArg Prod.fst (se_s0 k19)) (Or.inl rfl) H20.2.2.1 ?_
          have y22 := wfQ_e H20.1
          refine e_aload_n dX7_cutCloth_122 rfl ?_
          refine e_get (.ref (s + 1)) dX7_cutCloth_123 tf_7_12 (congrArg Prod.fst (se_s0 k19)) (congrArg va_rf (se_r0_0 k19)) ?_
          refine e_get (.ref (s + 15)) dX7_cutCloth_126 tf_7_159 (congrArg Prod.fst (se_s1 k19)) (congrArg va_rf (se_r1_3 k19)) ?_
          refine e_iload_n dX7_cutCloth_129 rfl ?_
          refine z_ild (pr (setG (setG g (15 + d) (max 0 ((de g d) - 1))) (45 + (upv g d)) (max 0 ((ue (setG g (15 + d) (max 0 ((de g d) - 1))) (upv g d)) - 1))) c) dX7_cutCloth_130 (se_s15 k19) (by decide) (by omega) (by omega) (isF_pr HC2 (by omega) (by omega)) ?_
          have y23 := wC_c (isF_w HC2).2.2 (show 0 ≤ c by omega) (by omega)
          refine z_iadd dX7_cutCloth_131 ?_
          refine z_put dX7_cutCloth_132 tf_7_22 (congrArg Prod.fst (se_s0 k19)) rfl (Or.inl rfl) (fun h24 e25 => ?_)
          have f26 := frm_1 e25
          have k27 := lk_q (frm_s f26) k19
          have H28 := isF_c f26 (fun a k q1 q2 => by omega) HC2
          have FR29 := frm_t FR21 (frm_m (S' := (fun a k => (a = s ∧ (k = 2 ∨ k = 3 ∨ k = 7 ∨ k = 8)) ∨ a = s + 5 ∨ a = s + 11)) f26 (fun a k q => by omega))
          refine e_aload_n dX7_cutCloth_135 rfl ?_
          refine e_dup dX7_cutCloth_136 rfl ?_
          refine z_get (q 2) dX7_cutCloth_137 tf_7_25 (congrArg Prod.fst (se_s0 k27)) (Or.inl rfl) (((frm_r f26 (by omega)).trans ((frm_r f18 (by omega)).trans (frm_r f11 (by omega)))).trans HQ.2.2.2.1) ?_
          refine z_iconst (1) dX7_cutCloth_140 rfl ?_
          refine z_iadd dX7_cutCloth_141 ?_
          refine z_put dX7_cutCloth_142 tf_7_25 (congrArg Prod.fst (se_s0 k27)) rfl (Or.inl rfl) (fun h30 e31 => ?_)
          have f32 := frm_1 e31
          have k33 := lk_q (frm_s f32) k27
          have H34 := isF_c f32 (fun a k q1 q2 => by omega) H28
          have FR35 := frm_t FR29 (frm_m (S' := (fun a k => (a = s ∧ (k = 2 ∨ k = 3 ∨ k = 7 ∨ k = 8)) ∨ a = s + 5 ∨ a = s + 11)) f32 (fun a k q => by omega))
          refine e_aload_n dX7_cutCloth_145 rfl ?_
          refine e_dup dX7_cutCloth_146 rfl ?_
          refine z_get (q 6) dX7_cutCloth_147 tf_7_37 (congrArg Prod.fst (se_s0 k33)) (Or.inl rfl) (((frm_r f32 (by omega)).trans ((frm_r f26 (by omega)).trans ((frm_r f18 (by omega)).trans (frm_r f11 (by omega))))).trans HQ.2.2.2.2.2.2.2.1) ?_
          refine z_iconst (1) dX7_cutCloth_150 rfl ?_
          refine e_iload_n dX7_cutCloth_151 rfl ?_
          refine z_ishl dX7_cutCloth_152 (by omega) (by omega) (by omega) (by omega) ?_
          have y36 := shlZ_b 1 d
          refine z_ior dX7_cutCloth_153 (by omega) (by omega) (by omega) (by omega) ?_
          have y37 := orZ_b (q 6) (shlZ 1 d)
          refine z_put dX7_cutCloth_154 tf_7_37 (congrArg Prod.fst (se_s0 k33)) rfl (Or.inl rfl) (fun h38 e39 => ?_)
          have f40 := frm_1 e39
          have k41 := lk_q (frm_s f40) k33
          have H42 := isF_c f40 (fun a k q1 q2 => by omega) H34
          have FR43 := frm_t FR35 (frm_m (S' := (fun a k => (a = s ∧ (k = 2 ∨ k = 3 ∨ k = 7 ∨ k = 8)) ∨ a = s + 5 ∨ a = s + 11)) f40 (fun a k q => by omega))
          refine e_aload_n dX7_cutCloth_157 rfl ?_
          refine e_dup dX7_cutCloth_158 rfl ?_
          refine z_get (q 7) dX7_cutCloth_159 tf_7_40 (congrArg Prod.fst (se_s0 k41)) (Or.inl rfl) (((frm_r f40 (by omega)).trans ((frm_r f32 (by omega)).trans ((frm_r f26 (by omega)).trans ((frm_r f18 (by omega)).trans (frm_r f11 (by omega)))))).trans HQ.2.2.2.2.2.2.2.2) ?_
          refine z_iconst (1) dX7_cutCloth_162 rfl ?_
          refine e_iload_n dX7_cutCloth_163 rfl ?_
          refine z_ishl dX7_cutCloth_164 (by omega) (by omega) (by omega) (by omega) ?_
          have y44 := shlZ_b 1 (upv g d)
          refine z_ior dX7_cutCloth_165 (by omega) (by omega) (by omega) (by omega) ?_
          have y45 := orZ_b (q 7) (shlZ 1 (upv g d))
          refine z_put dX7_cutCloth_166 tf_7_40 (congrArg Prod.fst (se_s0 k41)) rfl (Or.inl rfl) (fun h46 e47 => ?_)
          have f48 := frm_1 e47
          have k49 := lk_q (frm_s f48) k41
          have H50 := isF_c f48 (fun a k q1 q2 => by omega) H42
          have FR51 := frm_t FR43 (frm_m (S' := (fun a k => (a = s ∧ (k = 2 ∨ k = 3 ∨ k = 7 ∨ k = 8)) ∨ a = s + 5 ∨ a = s + 11)) f48 (fun a k q => by omega))
          refine z_iconst (1) dX7_cutCloth_169 rfl ?_
          refine z_bret dX7_cutCloth_170 rfl (Or.inr rfl) ⟨rfl, ?_⟩
          have C : cCut g q d c := ⟨⟨⟨by omega, by omega⟩, fun z => absurd (show (0 ≤ d ∧ d < 6) ∧ hasZ (q 3) d from ⟨by omega, z⟩) (by assumption)⟩, by omega, by rw [← u1]; omega⟩
          refine z_q1 (kq _ FR51 ?_ ?_) C
          · unfold cuG; rw [if_pos C, ← eG]; exact H50
          · unfold cuQ; rw [if_pos C]; exact ⟨wfQ_cut HQ.1 pn (by omega) (by omega) (by omega), (((frm_r f48 (by omega)).trans ((frm_r f40 (by omega)).trans ((frm_r f32 (by omega)).trans ((frm_r f26 (by omega)).trans ((frm_r f18 (by omega)).trans (frm_r f11 (by omega)))))))).trans HQ.2.1, ((show rI h46 s 2 = ((q 1) + (pr (setG (setG g (15 + d) (max 0 ((de g d) - 1))) (45 + (upv g d)) (max 0 ((ue (setG g (15 + d) (max 0 ((de g d) - 1))) (upv g d)) - 1))) c)) from (((frm_r f48 (by omega)).trans ((frm_r f40 (by omega)).trans (frm_r f32 (by omega)))).trans (rI_eq e25 ⟨by omega, by omega⟩)))).trans (show q 1 + pr (setG (setG g (15 + d) (max 0 ((de g d) - 1))) (45 + (upv g d)) (max 0 ((ue (setG g (15 + d) (max 0 ((de g d) - 1))) (upv g d)) - 1))) c = q 1 + pr g c by rw [x3]), (show rI h46 s 3 = ((q 2) + 1) from (((frm_r f48 (by omega)).trans (frm_r f40 (by omega))).trans (rI_eq e31 ⟨by omega, by omega⟩))), (((frm_r f48 (by omega)).trans ((frm_r f40 (by omega)).trans ((frm_r f32 (by omega)).trans ((frm_r f26 (by omega)).trans ((frm_r f18 (by omega)).trans (frm_r f11 (by omega)))))))).trans HQ.2.2.2.2.1, (((frm_r f48 (by omega)).trans ((frm_r f40 (by omega)).trans ((frm_r f32 (by omega)).trans ((frm_r f26 (by omega)).trans ((frm_r f18 (by omega)).trans (frm_r f11 (by omega)))))))).trans HQ.2.2.2.2.2.1, (((frm_r f48 (by omega)).trans ((frm_r f40 (by omega)).trans ((frm_r f32 (by omega)).trans ((frm_r f26 (by omega)).trans ((frm_r f18 (by omega)).trans (frm_r f11 (by omega)))))))).trans HQ.2.2.2.2.2.2.1, (show rI h46 s 7 = (orZ (q 6) (shlZ 1 d)) from ((frm_r f48 (by omega)).trans (rI_eq e39 ⟨by omega, by omega⟩))), ((show rI h46 s 8 = (orZ (q 7) (shlZ 1 (upv g d))) from (rI_eq e47 ⟨by omega, by omega⟩))).trans (show orZ (q 7) (shlZ 1 (upv g d)) = orZ (q 7) (b1 (dm g d)) by rw [u1]; rfl)⟩
        · skip
          refine z_iconst (0) dX7_cutCloth_55 rfl ?_
          refine z_bret dX7_cutCloth_56 rfl (Or.inl rfl) ⟨rfl, ?_⟩
          have C : ¬ cCut g q d c := by
            rintro ⟨⟨⟨q1, q2⟩, q3⟩, q4, q5⟩
            have u1 := upv_in q1.1 q1.2
            first | omega | exact q3 (And.right ‹(0 ≤ d ∧ d < 6) ∧ hasZ (q 3) d›) | (rw [← u1] at q5; omega)
          refine z_q0 (kq _ FR0 ?_ ?_) C
          · unfold cuG; rw [if_neg C]; exact HF
          · unfold cuQ; rw [if_neg C]; exact isS_1 HQ pn
set_option maxHeartbeats 400000 in
theorem zp_X7_grindBlade {ad : mA} {dd : Nat} {h : mH} {Q : mQ} {s : Nat} {g q : Int → Int} {n : Int} (hk : sek h s) (HF : isF h (s + 1) g) (HQ : isS h s q n)  (s' : Int) (s'_r : -2147483648 ≤ s' ∧ s' < 2147483648) (i : Int) (i_r : -2147483648 ≤ i ∧ i < 2147483648) (p1 : s' = 0 ∨ s' = 1) (kq : ∀ h1, frm (fun a k => a = s + 3 ∨ a = s + 5 ∨ a = s + 9 ∨ a = s + 11) h h1 → (isF h1 (s + 1) (gkG g q s' i)) → Q (some (.int (zI (bZ (gkP g q s' i))))) h1) : mCal TB0 ad (dd + 2) M_X7_grindBlade [.ref s, .int (zI s'), .int (zI i)] h 0 0 Q := by
  refine ⟨Nat.le_of_ble_eq_true rfl, ?_⟩
  show mEv TB0 ad M_X7_grindBlade (dd + 2) (0, 0) (mCal TB0 ad (dd + 1)) (fun v h' z => z.1 = 0 ∧ Q v h') 0 [some (.ref s), some (.int (zI s')), some (.int (zI i)), none, none] [] h (0, 0)
  have FR0 : frm (fun a k => a = s + 3 ∨ a = s + 5 ∨ a = s + 9 ∨ a = s + 11) h h := frm_0 h
  have w1 := isF_n HF
  have w2 : rI h (s + 2) 5 = nd g := isF_nd HF
  have w3 : rI h (s + 8) 5 = nu g := isF_nu HF
  have W := isF_w HF
  have wq := wfQ_e HQ.1
  refine e_iload_n dX7_grindBlade_0 rfl ?_
  refine z_if_ne 14 dX7_grindBlade_1 rfl ⟨by omega, by omega⟩ (fun c1 => ?_) (fun c1 => ?_)
  · skip
    refine e_aload_n dX7_grindBlade_14 rfl ?_
    refine e_get (.ref (s + 1)) dX7_grindBlade_15 tf_7_12 (congrArg Prod.fst (se_s0 hk)) (congrArg va_rf (se_r0_0 hk)) ?_
    refine e_get (.ref (s + 8)) dX7_grindBlade_18 tf_7_90 (congrArg Prod.fst (se_s1 hk)) (congrArg va_rf (se_r1_1 hk)) ?_
    refine e_astore_n (L' := [_, _, _, _, _]) dX7_grindBlade_21 (Nat.le_of_ble_eq_true rfl) rfl ?_
    refine e_aload_n dX7_grindBlade_22 rfl ?_
    refine e_iload_n dX7_grindBlade_23 rfl ?_
    refine e_callV [.int _] dX7_grindBlade_24 tm_7_121 rfl (Nat.le_of_ble_eq_true rfl) (congrArg Prod.fst (se_s8 hk)) (Nat.le_of_ble_eq_true rfl) (Nat.le_refl _) (Nat.le_refl _) rfl (zp_X0_has (se_bl8 hk) i ⟨by omega, by omega⟩ ?_)
    refine z_ifb_eq 40 dX7_grindBlade_27 rfl (fun c2 => ?_) (fun c2 => ?_)
    · skip
      refine z_iconst (0) dX7_grindBlade_40 rfl ?_
      refine z_bret dX7_grindBlade_41 rfl (Or.inl rfl) ⟨rfl, ?_⟩
      have C : ¬ gkP g q s' i := by
        rintro (⟨q0, q1, q2, q3⟩ | ⟨q0, q1, q2, q3⟩)
        · first | omega | exact q3 ⟨by omega, And.right (by assumption)⟩
        · first | omega | exact q3 ⟨by omega, And.right (by assumption)⟩
      refine z_q0 (kq _ FR0 ?_) C
      unfold gkG; rw [if_neg C]; exact HF
    · skip
      refine e_aload_n dX7_grindBlade_30 rfl ?_
      refine e_get (.ref (s + 9)) dX7_grindBlade_31 tf_7_162 (congrArg Prod.fst (se_s8 hk)) (congrArg va_rf (se_r8_0 hk)) ?_
      refine e_iload_n dX7_grindBlade_34 rfl ?_
      refine z_ild (ul g i) dX7_grindBlade_35 (se_s9 hk) (by decide) (by omega) (by omega) (isF_ul HF (by omega) (by omega)) ?_
      have y3 := wB_u (isF_w HF).1 (show 0 ≤ i by omega) (by omega)
      refine z_iconst (1) dX7_grindBlade_36 rfl ?_
      refine z_icmp_gt 42 dX7_grindBlade_37 rfl ⟨by omega, by omega⟩ ⟨by omega, by omega⟩ (fun c4 => ?_) (fun c4 => ?_)
      · skip
        refine e_aload_n dX7_grindBlade_42 rfl ?_
        refine e_get (.ref (s + 13)) dX7_grindBlade_43 tf_7_124 (congrArg Prod.fst (se_s8 hk)) (congrArg va_rf (se_r8_4 hk)) ?_
        refine e_iload_n dX7_grindBlade_46 rfl ?_
        refine z_ild (um g i) dX7_grindBlade_47 (se_s13 hk) (by decide) (by omega) (by omega) (isF_um HF (by omega) (by omega)) ?_
        have y5 := wM_u (isF_w HF).2.1 (show 0 ≤ i by omega) (by omega)
        refine z_iconst (-1) dX7_grindBlade_48 rfl ?_
        refine z_icmp_eq 56 dX7_grindBlade_49 rfl ⟨by omega, by omega⟩ ⟨by omega, by omega⟩ (fun c6 => ?_) (fun c6 => ?_)
        · skip
          refine z_iconst (0) dX7_grindBlade_56 rfl ?_
          refine e_istore (L' := [_, _, _, _, _]) dX7_grindBlade_57 (Nat.le_of_ble_eq_true rfl) rfl ?_
          refine e_iload dX7_grindBlade_59 rfl ?_
          refine z_if_eq 87 dX7_grindBlade_61 rfl ⟨by omega, by omega⟩ (fun c7 => ?_) (fun c7 => ?_)
          · skip
            refine e_aload_n dX7_grindBlade_87 rfl ?_
            refine e_get (.ref (s + 11)) dX7_grindBlade_88 tf_7_150 (congrArg Prod.fst (se_s8 hk)) (congrArg va_rf (se_r8_2 hk)) ?_
            refine e_iload_n dX7_grindBlade_91 rfl ?_
            refine z_bipush (20) dX7_grindBlade_92 rfl ?_
            refine e_aload_n dX7_grindBlade_94 rfl ?_
            refine e_get (.ref (s + 11)) dX7_grindBlade_95 tf_7_150 (congrArg Prod.fst (se_s8 hk)) (congrArg va_rf (se_r8_2 hk)) ?_
            refine e_iload_n dX7_grindBlade_98 rfl ?_
            refine z_ild (ue g i) dX7_grindBlade_99 (se_s11 hk) (by decide) (by omega) (by omega) (isF_ue HF (by omega) (by omega)) ?_
            have y8 := wB_u (isF_w HF).1 (show 0 ≤ i by omega) (by omega)
            refine z_iconst (5) dX7_grindBlade_100 rfl ?_
            refine z_iadd dX7_grindBlade_101 ?_
            refine z_mmin dX7_grindBlade_102 tm_7_165 (Nat.le_of_ble_eq_true rfl) ⟨by omega, by omega⟩ ⟨by omega, by omega⟩ ?_
            refine z_ist dX7_grindBlade_105 (se_s11 hk) (by decide) (by omega) (by omega) (fun h9 e10 => ?_)
            have f11 := frm_1 e10
            have k12 := lk_q (frm_s f11) hk
            have H13 := isS_c f11 (fun a k q1 q2 q3 => by omega) HQ
            have FR14 := frm_t FR0 (frm_m (S' := (fun a k => a = s + 3 ∨ a = s + 5 ∨ a = s + 9 ∨ a = s + 11)) f11 (fun a k q => by omega))
            have HC1 : isF h9 (s + 1) (setG g (45 + i) (min 20 ((ue g i) + 5))) := isF_setue HF e10 (by omega) (by omega) (by omega) (by omega)
            have n1 : nd (setG g (45 + i) (min 20 ((ue g i) + 5))) = nd g := nd_set (by omega)
            have n2 : nu (setG g (45 + i) (min 20 ((ue g i) + 5))) = nu g := nu_set (by omega)
            have x1 : ul (setG g (45 + i) (min 20 ((ue g i) + 5))) i = ul g i := by rw [ul_set, if_neg (by omega)]
            refine e_aload_n dX7_grindBlade_106 rfl ?_
            refine e_get (.ref (s + 9)) dX7_grindBlade_107 tf_7_162 (congrArg Prod.fst (se_s8 k12)) (congrArg va_rf (se_r8_0 k12)) ?_
            refine e_iload_n dX7_grindBlade_110 rfl ?_
            refine e_dup2 dX7_grindBlade_111 rfl rfl ?_
            refine z_ild (ul (setG g (45 + i) (min 20 ((ue g i) + 5))) i) dX7_grindBlade_112 (se_s9 k12) (by decide) (by omega) (by omega) (isF_ul HC1 (by omega) (by omega)) ?_
            have y15 := wB_u (isF_w HC1).1 (show 0 ≤ i by omega) (by omega)
            refine z_iconst (1) dX7_grindBlade_113 rfl ?_
            refine z_isub dX7_grindBlade_114 ?_
            refine z_ist dX7_grindBlade_115 (se_s9 k12) (by decide) (by omega) (by omega) (fun h16 e17 => ?_)
            have f18 := frm_1 e17
            have k19 := lk_q (frm_s f18) k12
            have H20 := isS_c f18 (fun a k q1 q2 q3 => by omega) H13
            have FR21 := frm_t FR14 (frm_m (S' := (fun a k => a = s + 3 ∨ a = s + 5 ∨ a = s + 9 ∨ a = s + 11)) f18 (fun a k q => by omega))
            have HC2 : isF h16 (s + 1) (setG (setG g (45 + i) (min 20 ((ue g i) + 5))) (33 + i) ((ul (setG g (45 + i) (min 20 ((ue g i) + 5))) i) - 1)) := isF_setul HC1 e17 (by omega) (by omega) (by omega) (by omega)
            have eG : (setG (setG g (45 + i) (min 20 ((ue g i) + 5))) (33 + i) ((ul (setG g (45 + i) (min 20 ((ue g i) + 5))) i) - 1)) = ugG g i := by unfold ugG; rw [x1]
            refine z_iconst (1) dX7_grindBlade_116 rfl ?_
            refine z_bret dX7_grindBlade_117 rfl (Or.inr rfl) ⟨rfl, ?_⟩
            have C : gkP g q s' i := Or.inr ⟨by omega, by omega, by omega, by first | exact (fun z => absurd z.1 (by omega)) | exact (fun z => absurd (show (0 ≤ (um g i) ∧ (um g i) < 6) ∧ hasZ (q 3) (um g i) from ⟨by omega, z.2⟩) (by assumption))⟩
            refine z_q1 (kq _ FR21 ?_) C
            unfold gkG; rw [if_pos C, if_neg (show ¬ s' = 0 by omega), ← eG]; exact HC2
          · exfalso; omega
        · skip
          refine z_iconst (1) dX7_grindBlade_52 rfl ?_
          refine e_goto 57 dX7_grindBlade_53 rfl ?_
          refine e_istore (L' := [_, _, _, _, _]) dX7_grindBlade_57 (Nat.le_of_ble_eq_true rfl) rfl ?_
          refine e_iload dX7_grindBlade_59 rfl ?_
          refine z_if_eq 87 dX7_grindBlade_61 rfl ⟨by omega, by omega⟩ (fun c22 => ?_) (fun c22 => ?_)
          · exfalso; omega
          · skip
            refine e_aload_n dX7_grindBlade_64 rfl ?_
            refine e_iload_n dX7_grindBlade_65 rfl ?_
            refine z_if_ne 73 dX7_grindBlade_66 rfl ⟨by omega, by omega⟩ (fun c23 => ?_) (fun c23 => ?_)
            · skip
              refine e_aload_n dX7_grindBlade_73 rfl ?_
              refine e_get (.ref (s + 13)) dX7_grindBlade_74 tf_7_124 (congrArg Prod.fst (se_s8 hk)) (congrArg va_rf (se_r8_4 hk)) ?_
              refine e_iload_n dX7_grindBlade_77 rfl ?_
              refine z_ild (um g i) dX7_grindBlade_78 (se_s13 hk) (by decide) (by omega) (by omega) (isF_um HF (by omega) (by omega)) ?_
              have y24 := wM_u (isF_w HF).2.1 (show 0 ≤ i by omega) (by omega)
              refine e_callV [.int _] dX7_grindBlade_79 tm_7_133 rfl (Nat.le_of_ble_eq_true rfl) (congrArg Prod.fst (se_s0 hk)) (Nat.le_of_ble_eq_true rfl) (Nat.le_refl _) (Nat.le_refl _) rfl (zp_X7_isHot hk HQ (um g i) ⟨by omega, by omega⟩ ?_)
              refine z_ifb_eq 87 dX7_grindBlade_82 rfl (fun c25 => ?_) (fun c25 => ?_)
              · skip
                refine e_aload_n dX7_grindBlade_87 rfl ?_
                refine e_get (.ref (s + 11)) dX7_grindBlade_88 tf_7_150 (congrArg Prod.fst (se_s8 hk)) (congrArg va_rf (se_r8_2 hk)) ?_
                refine e_iload_n dX7_grindBlade_91 rfl ?_
                refine z_bipush (20) dX7_grindBlade_92 rfl ?_
                refine e_aload_n dX7_grindBlade_94 rfl ?_
                refine e_get (.ref (s + 11)) dX7_grindBlade_95 tf_7_150 (congrArg Prod.fst (se_s8 hk)) (congrArg va_rf (se_r8_2 hk)) ?_
                refine e_iload_n dX7_grindBlade_98 rfl ?_
                refine z_ild (ue g i) dX7_grindBlade_99 (se_s11 hk) (by decide) (by omega) (by omega) (isF_ue HF (by omega) (by omega)) ?_
                have y26 := wB_u (isF_w HF).1 (show 0 ≤ i by omega) (by omega)
                refine z_iconst (5) dX7_grindBlade_100 rfl ?_
                refine z_iadd dX7_grindBlade_101 ?_
                refine z_mmin dX7_grindBlade_102 tm_7_165 (Nat.le_of_ble_eq_true rfl) ⟨by omega, by omega⟩ ⟨by omega, by omega⟩ ?_
                refine z_ist dX7_grindBlade_105 (se_s11 hk) (by decide) (by omega) (by omega) (fun h27 e28 => ?_)
                have f29 := frm_1 e28
                have k30 := lk_q (frm_s f29) hk
                have H31 := isS_c f29 (fun a k q1 q2 q3 => by omega) HQ
                have FR32 := frm_t FR0 (frm_m (S' := (fun a k => a = s + 3 ∨ a = s + 5 ∨ a = s + 9 ∨ a = s + 11)) f29 (fun a k q => by omega))
                have HC1 : isF h27 (s + 1) (setG g (45 + i) (min 20 ((ue g i) + 5))) := isF_setue HF e28 (by omega) (by omega) (by omega) (by omega)
                have n1 : nd (setG g (45 + i) (min 20 ((ue g i) + 5))) = nd g := nd_set (by omega)
                have n2 : nu (setG g (45 + i) (min 20 ((ue g i) + 5))) = nu g := nu_set (by omega)
                have x1 : ul (setG g (45 + i) (min 20 ((ue g i) + 5))) i = ul g i := by rw [ul_set, if_neg (by omega)]
                refine e_aload_n dX7_grindBlade_106 rfl ?_
                refine e_get (.ref (s + 9)) dX7_grindBlade_107 tf_7_162 (congrArg Prod.fst (se_s8 k30)) (congrArg va_rf (se_r8_0 k30)) ?_
                refine e_iload_n dX7_grindBlade_110 rfl ?_
                refine e_dup2 dX7_grindBlade_111 rfl rfl ?_
                refine z_ild (ul (setG g (45 + i) (min 20 ((ue g i) + 5))) i) dX7_grindBlade_112 (se_s9 k30) (by decide) (by omega) (by omega) (isF_ul HC1 (by omega) (by omega)) ?_
                have y33 := wB_u (isF_w HC1).1 (show 0 ≤ i by omega) (by omega)
                refine z_iconst (1) dX7_grindBlade_113 rfl ?_
                refine z_isub dX7_grindBlade_114 ?_
                refine z_ist dX7_grindBlade_115 (se_s9 k30) (by decide) (by omega) (by omega) (fun h34 e35 => ?_)
                have f36 := frm_1 e35
                have k37 := lk_q (frm_s f36) k30
                have H38 := isS_c f36 (fun a k q1 q2 q3 => by omega) H31
                have FR39 := frm_t FR32 (frm_m (S' := (fun a k => a = s + 3 ∨ a = s + 5 ∨ a = s + 9 ∨ a = s + 11)) f36 (fun a k q => by omega))
                have HC2 : isF h34 (s + 1) (setG (setG g (45 + i) (min 20 ((ue g i) + 5))) (33 + i) ((ul (setG g (45 + i) (min 20 ((ue g i) + 5))) i) - 1)) := isF_setul HC1 e35 (by omega) (by omega) (by omega) (by omega)
                have eG : (setG (setG g (45 + i) (min 20 ((ue g i) + 5))) (33 + i) ((ul (setG g (45 + i) (min 20 ((ue g i) + 5))) i) - 1)) = ugG g i := by unfold ugG; rw [x1]
                refine z_iconst (1) dX7_grindBlade_116 rfl ?_
                refine z_bret dX7_grindBlade_117 rfl (Or.inr rfl) ⟨rfl, ?_⟩
                have C : gkP g q s' i := Or.inr ⟨by omega, by omega, by omega, by first | exact (fun z => absurd z.1 (by omega)) | exact (fun z => absurd (show (0 ≤ (um g i) ∧ (um g i) < 6) ∧ hasZ (q 3) (um g i) from ⟨by omega, z.2⟩) (by assumption))⟩
                refine z_q1 (kq _ FR39 ?_) C
                unfold gkG; rw [if_pos C, if_neg (show ¬ s' = 0 by omega), ← eG]; exact HC2
              · skip
                refine z_iconst (0) dX7_grindBlade_85 rfl ?_
                refine z_bret dX7_grindBlade_86 rfl (Or.inl rfl) ⟨rfl, ?_⟩
                have C : ¬ gkP g q s' i := by
                  rintro (⟨q0, q1, q2, q3⟩ | ⟨q0, q1, q2, q3⟩)
                  · first | omega | exact q3 ⟨by omega, And.right (by assumption)⟩
                  · first | omega | exact q3 ⟨by omega, And.right (by assumption)⟩
                refine z_q0 (kq _ FR0 ?_) C
                unfold gkG; rw [if_neg C]; exact HF
            · skip
              refine e_iload_n dX7_grindBlade_69 rfl ?_
              refine e_goto 79 dX7_grindBlade_70 rfl ?_
              refine e_callV [.int _] dX7_grindBlade_79 tm_7_133 rfl (Nat.le_of_ble_eq_true rfl) (congrArg Prod.fst (se_s0 hk)) (Nat.le_of_ble_eq_true rfl) (Nat.le_refl _) (Nat.le_refl _) rfl (zp_X7_isHot hk HQ i ⟨by omega, by omega⟩ ?_)
              refine z_ifb_eq 87 dX7_grindBlade_82 rfl (fun c40 => ?_) (fun c40 => ?_)
              · skip
                refine e_aload_n dX7_grindBlade_87 rfl ?_
                refine e_get (.ref (s + 11)) dX7_grindBlade_88 tf_7_150 (congrArg Prod.fst (se_s8 hk)) (congrArg va_rf (se_r8_2 hk)) ?_
                refine e_iload_n dX7_grindBlade_91 rfl ?_
                refine z_bipush (20) dX7_grindBlade_92 rfl ?_
                refine e_aload_n dX7_grindBlade_94 rfl ?_
                refine e_get (.ref (s + 11)) dX7_grindBlade_95 tf_7_150 (congrArg Prod.fst (se_s8 hk)) (congrArg va_rf (se_r8_2 hk)) ?_
                refine e_iload_n dX7_grindBlade_98 rfl ?_
                refine z_ild (ue g i) dX7_grindBlade_99 (se_s11 hk) (by decide) (by omega) (by omega) (isF_ue HF (by omega) (by omega)) ?_
                have y41 := wB_u (isF_w HF).1 (show 0 ≤ i by omega) (by omega)
                refine z_iconst (5) dX7_grindBlade_100 rfl ?_
                refine z_iadd dX7_grindBlade_101 ?_
                refine z_mmin dX7_grindBlade_102 tm_7_165 (Nat.le_of_ble_eq_true rfl) ⟨by omega, by omega⟩ ⟨by omega, by omega⟩ ?_
                refine z_ist dX7_grindBlade_105 (se_s11 hk) (by decide) (by omega) (by omega) (fun h42 e43 => ?_)
                have f44 := frm_1 e43
                have k45 := lk_q (frm_s f44) hk
                have H46 := isS_c f44 (fun a k q1 q2 q3 => by omega) HQ
                have FR47 := frm_t FR0 (frm_m (S' := (fun a k => a = s + 3 ∨ a = s + 5 ∨ a = s + 9 ∨ a = s + 11)) f44 (fun a k q => by omega))
                have HC1 : isF h42 (s + 1) (setG g (45 + i) (min 20 ((ue g i) + 5))) := isF_setue HF e43 (by omega) (by omega) (by omega) (by omega)
                have n1 : nd (setG g (45 + i) (min 20 ((ue g i) + 5))) = nd g := nd_set (by omega)
                have n2 : nu (setG g (45 + i) (min 20 ((ue g i) + 5))) = nu g := nu_set (by omega)
                have x1 : ul (setG g (45 + i) (min 20 ((ue g i) + 5))) i = ul g i := by rw [ul_set, if_neg (by omega)]
                refine e_aload_n dX7_grindBlade_106 rfl ?_
                refine e_get (.ref (s + 9)) dX7_grindBlade_107 tf_7_162 (congrArg Prod.fst (se_s8 k45)) (congrArg va_rf (se_r8_0 k45)) ?_
                refine e_iload_n dX7_grindBlade_110 rfl ?_
                refine e_dup2 dX7_grindBlade_111 rfl rfl ?_
                refine z_ild (ul (setG g (45 + i) (min 20 ((ue g i) + 5))) i) dX7_grindBlade_112 (se_s9 k45) (by decide) (by omega) (by omega) (isF_ul HC1 (by omega) (by omega)) ?_
                have y48 := wB_u (isF_w HC1).1 (show 0 ≤ i by omega) (by omega)
                refine z_iconst (1) dX7_grindBlade_113 rfl ?_
                refine z_isub dX7_grindBlade_114 ?_
                refine z_ist dX7_grindBlade_115 (se_s9 k45) (by decide) (by omega) (by omega) (fun h49 e50 => ?_)
                have f51 := frm_1 e50
                have k52 := lk_q (frm_s f51) k45
                have H53 := isS_c f51 (fun a k q1 q2 q3 => by omega) H46
                have FR54 := frm_t FR47 (frm_m (S' := (fun a k => a = s + 3 ∨ a = s + 5 ∨ a = s + 9 ∨ a = s + 11)) f51 (fun a k q => by omega))
                have HC2 : isF h49 (s + 1) (setG (setG g (45 + i) (min 20 ((ue g i) + 5))) (33 + i) ((ul (setG g (45 + i) (min 20 ((ue g i) + 5))) i) - 1)) := isF_setul HC1 e50 (by omega) (by omega) (by omega) (by omega)
                have eG : (setG (setG g (45 + i) (min 20 ((ue g i) + 5))) (33 + i) ((ul (setG g (45 + i) (min 20 ((ue g i) + 5))) i) - 1)) = ugG g i := by unfold ugG; rw [x1]
                refine z_iconst (1) dX7_grindBlade_116 rfl ?_
                refine z_bret dX7_grindBlade_117 rfl (Or.inr rfl) ⟨rfl, ?_⟩
                have C : gkP g q s' i := Or.inr ⟨by omega, by omega, by omega, by first | exact (fun z => absurd z.1 (by omega)) | exact (fun z => absurd (show (0 ≤ (um g i) ∧ (um g i) < 6) ∧ hasZ (q 3) (um g i) from ⟨by omega, z.2⟩) (by assumption))⟩
                refine z_q1 (kq _ FR54 ?_) C
                unfold gkG; rw [if_pos C, if_neg (show ¬ s' = 0 by omega), ← eG]; exact HC2
              · skip
                refine z_iconst (0) dX7_grindBlade_85 rfl ?_
                refine z_bret dX7_grindBlade_86 rfl (Or.inl rfl) ⟨rfl, ?_⟩
                have C : ¬ gkP g q s' i := by
                  rintro (⟨q0, q1, q2, q3⟩ | ⟨q0, q1, q2, q3⟩)
                  · first | omega | exact q3 ⟨by omega, And.right (by assumption)⟩
                  · first | omega | exact q3 ⟨by omega, And.right (by assumption)⟩
                refine z_q0 (kq _ FR0 ?_) C
                unfold gkG; rw [if_neg C]; exact HF
      · skip
        refine z_iconst (0) dX7_grindBlade_40 rfl ?_
        refine z_bret dX7_grindBlade_41 rfl (Or.inl rfl) ⟨rfl, ?_⟩
        have C : ¬ gkP g q s' i := by
          rintro (⟨q0, q1, q2, q3⟩ | ⟨q0, q1, q2, q3⟩)
          · first | omega | exact q3 ⟨by omega, And.right (by assumption)⟩
          · first | omega | exact q3 ⟨by omega, And.right (by assumption)⟩
        refine z_q0 (kq _ FR0 ?_) C
        unfold gkG; rw [if_neg C]; exact HF
  · skip
    refine e_aload_n dX7_grindBlade_4 rfl ?_
    refine e_get (.ref (s + 1)) dX7_grindBlade_5 tf_7_12 (congrArg Prod.fst (se_s0 hk)) (congrArg va_rf (se_r0_0 hk)) ?_
    refine e_get (.ref (s + 2)) dX7_grindBlade_8 tf_7_75 (congrArg Prod.fst (se_s1 hk)) (congrArg va_rf (se_r1_0 hk)) ?_
    refine e_goto 21 dX7_grindBlade_11 rfl ?_
    refine e_astore_n (L' := [_, _, _, _, _]) dX7_grindBlade_21 (Nat.le_of_ble_eq_true rfl) rfl ?_
    refine e_aload_n dX7_grindBlade_22 rfl ?_
    refine e_iload_n dX7_grindBlade_23 rfl ?_
    refine e_callV [.int _] dX7_grindBlade_24 tm_7_121 rfl (Nat.le_of_ble_eq_true rfl) (congrArg Prod.fst (se_s2 hk)) (Nat.le_of_ble_eq_true rfl) (Nat.le_refl _) (Nat.le_refl _) rfl (zp_X0_has (se_bl2 hk) i ⟨by omega, by omega⟩ ?_)
    refine z_ifb_eq 40 dX7_grindBlade_27 rfl (fun c55 => ?_) (fun c55 => ?_)
    · skip
      refine z_iconst (0) dX7_grindBlade_40 rfl ?_
      refine z_bret dX7_grindBlade_41 rfl (Or.inl rfl) ⟨rfl, ?_⟩
      have C : ¬ gkP g q s' i := by
        rintro (⟨q0, q1, q2, q3⟩ | ⟨q0, q1, q2, q3⟩)
        · first | omega | exact q3 ⟨by omega, And.right (by assumption)⟩
        · first | omega | exact q3 ⟨by omega, And.right (by assumption)⟩
      refine z_q0 (kq _ FR0 ?_) C
      unfold gkG; rw [if_neg C]; exact HF
    · skip
      refine e_aload_n dX7_grindBlade_30 rfl ?_
      refine e_get (.ref (s + 3)) dX7_grindBlade_31 tf_7_162 (congrArg Prod.fst (se_s2 hk)) (congrArg va_rf (se_r2_0 hk)) ?_
      refine e_iload_n dX7_grindBlade_34 rfl ?_
      refine z_ild (dl g i) dX7_grindBlade_35 (se_s3 hk) (by decide) (by omega) (by omega) (isF_dl HF (by omega) (by omega)) ?_
      have y56 := wB_d (isF_w HF).1 (show 0 ≤ i by omega) (by omega)
      refine z_iconst (1) dX7_grindBlade_36 rfl ?_
      refine z_icmp_gt 42 dX7_grindBlade_37 rfl ⟨by omega, by omega⟩ ⟨by omega, by omega⟩ (fun c57 => ?_) (fun c57 => ?_)
      · skip
        refine e_aload_n dX7_grindBlade_42 rfl ?_
        refine e_get (.ref (s + 7)) dX7_grindBlade_43 tf_7_124 (congrArg Prod.fst (se_s2 hk)) (congrArg va_rf (se_r2_4 hk)) ?_
        refine e_iload_n dX7_grindBlade_46 rfl ?_
        refine z_ild (dm g i) dX7_grindBlade_47 (se_s7 hk) (by decide) (by omega) (by omega) (isF_dm HF (by omega) (by omega)) ?_
        have y58 := wM_d (isF_w HF).2.1 (show 0 ≤ i by omega) (by omega)
        refine z_iconst (-1) dX7_grindBlade_48 rfl ?_
        refine z_icmp_eq 56 dX7_grindBlade_49 rfl ⟨by omega, by omega⟩ ⟨by omega, by omega⟩ (fun c59 => ?_) (fun c59 => ?_)
        · skip
          refine z_iconst (0) dX7_grindBlade_56 rfl ?_
          refine e_istore (L' := [_, _, _, _, _]) dX7_grindBlade_57 (Nat.le_of_ble_eq_true rfl) rfl ?_
          refine e_iload dX7_grindBlade_59 rfl ?_
          refine z_if_eq 87 dX7_grindBlade_61 rfl ⟨by omega, by omega⟩ (fun c60 => ?_) (fun c60 => ?_)
          · skip
            refine e_aload_n dX7_grindBlade_87 rfl ?_
            refine e_get (.ref (s + 5)) dX7_grindBlade_88 tf_7_150 (congrArg Prod.fst (se_s2 hk)) (congrArg va_rf (se_r2_2 hk)) ?_
            refine e_iload_n dX7_grindBlade_91 rfl ?_
            refine z_bipush (20) dX7_grindBlade_92 rfl ?_
            refine e_aload_n dX7_grindBlade_94 rfl ?_
            refine e_get (.ref (s + 5)) dX7_grindBlade_95 tf_7_150 (congrArg Prod.fst (se_s2 hk)) (congrArg va_rf (se_r2_2 hk)) ?_
            refine e_iload_n dX7_grindBlade_98 rfl ?_
            refine z_ild (de g i) dX7_grindBlade_99 (se_s5 hk) (by decide) (by omega) (by omega) (isF_de HF (by omega) (by omega)) ?_
            have y61 := wB_d (isF_w HF).1 (show 0 ≤ i by omega) (by omega)
            refine z_iconst (5) dX7_grindBlade_100 rfl ?_
            refine z_iadd dX7_grindBlade_101 ?_
            refine z_mmin dX7_grindBlade_102 tm_7_165 (Nat.le_of_ble_eq_true rfl) ⟨by omega, by omega⟩ ⟨by omega, by omega⟩ ?_
            refine z_ist dX7_grindBlade_105 (se_s5 hk) (by decide) (by omega) (by omega) (fun h62 e63 => ?_)
            have f64 := frm_1 e63
            have k65 := lk_q (frm_s f64) hk
            have H66 := isS_c f64 (fun a k q1 q2 q3 => by omega) HQ
            have FR67 := frm_t FR0 (frm_m (S' := (fun a k => a = s + 3 ∨ a = s + 5 ∨ a = s + 9 ∨ a = s + 11)) f64 (fun a k q => by omega))
            have HC1 : isF h62 (s + 1) (setG g (15 + i) (min 20 ((de g i) + 5))) := isF_setde HF e63 (by omega) (by omega) (by omega) (by omega)
            have n1 : nd (setG g (15 + i) (min 20 ((de g i) + 5))) = nd g := nd_set (by omega)
            have n2 : nu (setG g (15 + i) (min 20 ((de g i) + 5))) = nu g := nu_set (by omega)
            have x1 : dl (setG g (15 + i) (min 20 ((de g i) + 5))) i = dl g i := by rw [dl_set, if_neg (by omega)]
            refine e_aload_n dX7_grindBlade_106 rfl ?_
            refine e_get (.ref (s + 3)) dX7_grindBlade_107 tf_7_162 (congrArg Prod.fst (se_s2 k65)) (congrArg va_rf (se_r2_0 k65)) ?_
            refine e_iload_n dX7_grindBlade_110 rfl ?_
            refine e_dup2 dX7_grindBlade_111 rfl rfl ?_
            refine z_ild (dl (setG g (15 + i) (min 20 ((de g i) + 5))) i) dX7_grindBlade_112 (se_s3 k65) (by decide) (by omega) (by omega) (isF_dl HC1 (by omega) (by omega)) ?_
            have y68 := wB_d (isF_w HC1).1 (show 0 ≤ i by omega) (by omega)
            refine z_iconst (1) dX7_grindBlade_113 rfl ?_
            refine z_isub dX7_grindBlade_114 ?_
            refine z_ist dX7_grindBlade_115 (se_s3 k65) (by decide) (by omega) (by omega) (fun h69 e70 => ?_)
            have f71 := frm_1 e70
            have k72 := lk_q (frm_s f71) k65
            have H73 := isS_c f71 (fun a k q1 q2 q3 => by omega) H66
            have FR74 := frm_t FR67 (frm_m (S' := (fun a k => a = s + 3 ∨ a = s + 5 ∨ a = s + 9 ∨ a = s + 11)) f71 (fun a k q => by omega))
            have HC2 : isF h69 (s + 1) (setG (setG g (15 + i) (min 20 ((de g i) + 5))) (3 + i) ((dl (setG g (15 + i) (min 20 ((de g i) + 5))) i) - 1)) := isF_setdl HC1 e70 (by omega) (by omega) (by omega) (by omega)
            have eG : (setG (setG g (15 + i) (min 20 ((de g i) + 5))) (3 + i) ((dl (setG g (15 + i) (min 20 ((de g i) + 5))) i) - 1)) = dgG g i := by unfold dgG; rw [x1]
            refine z_iconst (1) dX7_grindBlade_116 rfl ?_
            refine z_bret dX7_grindBlade_117 rfl (Or.inr rfl) ⟨rfl, ?_⟩
            have C : gkP g q s' i := Or.inl ⟨by omega, by omega, by omega, by first | exact (fun z => absurd z.1 (by omega)) | exact (fun z => absurd (show (0 ≤ i ∧ i < 6) ∧ hasZ (q 3) i from ⟨by omega, z.2⟩) (by assumption))⟩
            refine z_q1 (kq _ FR74 ?_) C
            unfold gkG; rw [if_pos C, if_pos (show s' = 0 by omega), ← eG]; exact HC2
          · exfalso; omega
        · skip
          refine z_iconst (1) dX7_grindBlade_52 rfl ?_
          refine e_goto 57 dX7_grindBlade_53 rfl ?_
          refine e_istore (L' := [_, _, _, _, _]) dX7_grindBlade_57 (Nat.le_of_ble_eq_true rfl) rfl ?_
          refine e_iload dX7_grindBlade_59 rfl ?_
          refine z_if_eq 87 dX7_grindBlade_61 rfl ⟨by omega, by omega⟩ (fun c75 => ?_) (fun c75 => ?_)
          · exfalso; omega
          · skip
            refine e_aload_n dX7_grindBlade_64 rfl ?_
            refine e_iload_n dX7_grindBlade_65 rfl ?_
            refine z_if_ne 73 dX7_grindBlade_66 rfl ⟨by omega, by omega⟩ (fun c76 => ?_) (fun c76 => ?_)
            · skip
              refine e_aload_n dX7_grindBlade_73 rfl ?_
              refine e_get (.ref (s + 7)) dX7_grindBlade_74 tf_7_124 (congrArg Prod.fst (se_s2 hk)) (congrArg va_rf (se_r2_4 hk)) ?_
              refine e_iload_n dX7_grindBlade_77 rfl ?_
              refine z_ild (dm g i) dX7_grindBlade_78 (se_s7 hk) (by decide) (by omega) (by omega) (isF_dm HF (by omega) (by omega)) ?_
              have y77 := wM_d (isF_w HF).2.1 (show 0 ≤ i by omega) (by omega)
              refine e_callV [.int _] dX7_grindBlade_79 tm_7_133 rfl (Nat.le_of_ble_eq_true rfl) (congrArg Prod.fst (se_s0 hk)) (Nat.le_of_ble_eq_true rfl) (Nat.le_refl _) (Nat.le_refl _) rfl (zp_X7_isHot hk HQ (dm g i) ⟨by omega, by omega⟩ ?_)
              refine z_ifb_eq 87 dX7_grindBlade_82 rfl (fun c78 => ?_) (fun c78 => ?_)
              · skip
                refine e_aload_n dX7_grindBlade_87 rfl ?_
                refine e_get (.ref (s + 5)) dX7_grindBlade_88 tf_7_150 (congrArg Prod.fst (se_s2 hk)) (congrArg va_rf (se_r2_2 hk)) ?_
                refine e_iload_n dX7_grindBlade_91 rfl ?_
                refine z_bipush (20) dX7_grindBlade_92 rfl ?_
                refine e_aload_n dX7_grindBlade_94 rfl ?_
                refine e_get (.ref (s + 5)) dX7_grindBlade_95 tf_7_150 (congrArg Prod.fst (se_s2 hk)) (congrArg va_rf (se_r2_2 hk)) ?_
                refine e_iload_n dX7_grindBlade_98 rfl ?_
                refine z_ild (de g i) dX7_grindBlade_99 (se_s5 hk) (by decide) (by omega) (by omega) (isF_de HF (by omega) (by omega)) ?_
                have y79 := wB_d (isF_w HF).1 (show 0 ≤ i by omega) (by omega)
                refine z_iconst (5) dX7_grindBlade_100 rfl ?_
                refine z_iadd dX7_grindBlade_101 ?_
                refine z_mmin dX7_grindBlade_102 tm_7_165 (Nat.le_of_ble_eq_true rfl) ⟨by omega, by omega⟩ ⟨by omega, by omega⟩ ?_
                refine z_ist dX7_grindBlade_105 (se_s5 hk) (by decide) (by omega) (by omega) (fun h80 e81 => ?_)
                have f82 := frm_1 e81
                have k83 := lk_q (frm_s f82) hk
                have H84 := isS_c f82 (fun a k q1 q2 q3 => by omega) HQ
                have FR85 := frm_t FR0 (frm_m (S' := (fun a k => a = s + 3 ∨ a = s + 5 ∨ a = s + 9 ∨ a = s + 11)) f82 (fun a k q => by omega))
                have HC1 : isF h80 (s + 1) (setG g (15 + i) (min 20 ((de g i) + 5))) := isF_setde HF e81 (by omega) (by omega) (by omega) (by omega)
                have n1 : nd (setG g (15 + i) (min 20 ((de g i) + 5))) = nd g := nd_set (by omega)
                have n2 : nu (setG g (15 + i) (min 20 ((de g i) + 5))) = nu g := nu_set (by omega)
                have x1 : dl (setG g (15 + i) (min 20 ((de g i) + 5))) i = dl g i := by rw [dl_set, if_neg (by omega)]
                refine e_aload_n dX7_grindBlade_106 rfl ?_
                refine e_get (.ref (s + 3)) dX7_grindBlade_107 tf_7_162 (congrArg Prod.fst (se_s2 k83)) (congrArg va_rf (se_r2_0 k83)) ?_
                refine e_iload_n dX7_grindBlade_110 rfl ?_
                refine e_dup2 dX7_grindBlade_111 rfl rfl ?_
                refine z_ild (dl (setG g (15 + i) (min 20 ((de g i) + 5))) i) dX7_grindBlade_112 (se_s3 k83) (by decide) (by omega) (by omega) (isF_dl HC1 (by omega) (by omega)) ?_
                have y86 := wB_d (isF_w HC1).1 (show 0 ≤ i by omega) (by omega)
                refine z_iconst (1) dX7_grindBlade_113 rfl ?_
                refine z_isub dX7_grindBlade_114 ?_
                refine z_ist dX7_grindBlade_115 (se_s3 k83) (by decide) (by omega) (by omega) (fun h87 e88 => ?_)
                have f89 := frm_1 e88
                have k90 := lk_q (frm_s f89) k83
                have H91 := isS_c f89 (fun a k q1 q2 q3 => by omega) H84
                have FR92 := frm_t FR85 (frm_m (S' := (fun a k => a = s + 3 ∨ a = s + 5 ∨ a = s + 9 ∨ a = s + 11)) f89 (fun a k q => by omega))
                have HC2 : isF h87 (s + 1) (setG (setG g (15 + i) (min 20 ((de g i) + 5))) (3 + i) ((dl (setG g (15 + i) (min 20 ((de g i) + 5))) i) - 1)) := isF_setdl HC1 e88 (by omega) (by omega) (by omega) (by omega)
                have eG : (setG (setG g (15 + i) (min 20 ((de g i) + 5))) (3 + i) ((dl (setG g (15 + i) (min 20 ((de g i) + 5))) i) - 1)) = dgG g i := by unfold dgG; rw [x1]
                refine z_iconst (1) dX7_grindBlade_116 rfl ?_
                refine z_bret dX7_grindBlade_117 rfl (Or.inr rfl) ⟨rfl, ?_⟩
                have C : gkP g q s' i := Or.inl ⟨by omega, by omega, by omega, by first | exact (fun z => absurd z.1 (by omega)) | exact (fun z => absurd (show (0 ≤ i ∧ i < 6) ∧ hasZ (q 3) i from ⟨by omega, z.2⟩) (by assumption))⟩
                refine z_q1 (kq _ FR92 ?_) C
                unfold gkG; rw [if_pos C, if_pos (show s' = 0 by omega), ← eG]; exact HC2
              · skip
                refine z_iconst (0) dX7_grindBlade_85 rfl ?_
                refine z_bret dX7_grindBlade_86 rfl (Or.inl rfl) ⟨rfl, ?_⟩
                have C : ¬ gkP g q s' i := by
                  rintro (⟨q0, q1, q2, q3⟩ | ⟨q0, q1, q2, q3⟩)
                  · first | omega | exact q3 ⟨by omega, And.right (by assumption)⟩
                  · first | omega | exact q3 ⟨by omega, And.right (by assumption)⟩
                refine z_q0 (kq _ FR0 ?_) C
                unfold gkG; rw [if_neg C]; exact HF
            · skip
              refine e_iload_n dX7_grindBlade_69 rfl ?_
              refine e_goto 79 dX7_grindBlade_70 rfl ?_
              refine e_callV [.int _] dX7_grindBlade_79 tm_7_133 rfl (Nat.le_of_ble_eq_true rfl) (congrArg Prod.fst (se_s0 hk)) (Nat.le_of_ble_eq_true rfl) (Nat.le_refl _) (Nat.le_refl _) rfl (zp_X7_isHot hk HQ i ⟨by omega, by omega⟩ ?_)
              refine z_ifb_eq 87 dX7_grindBlade_82 rfl (fun c93 => ?_) (fun c93 => ?_)
              · skip
                refine e_aload_n dX7_grindBlade_87 rfl ?_
                refine e_get (.ref (s + 5)) dX7_grindBlade_88 tf_7_150 (congrArg Prod.fst (se_s2 hk)) (congrArg va_rf (se_r2_2 hk)) ?_
                refine e_iload_n dX7_grindBlade_91 rfl ?_
                refine z_bipush (20) dX7_grindBlade_92 rfl ?_
                refine e_aload_n dX7_grindBlade_94 rfl ?_
                refine e_get (.ref (s + 5)) dX7_grindBlade_95 tf_7_150 (congrArg Prod.fst (se_s2 hk)) (congrArg va_rf (se_r2_2 hk)) ?_
                refine e_iload_n dX7_grindBlade_98 rfl ?_
                refine z_ild (de g i) dX7_grindBlade_99 (se_s5 hk) (by decide) (by omega) (by omega) (isF_de HF (by omega) (by omega)) ?_
                have y94 := wB_d (isF_w HF).1 (show 0 ≤ i by omega) (by omega)
                refine z_iconst (5) dX7_grindBlade_100 rfl ?_
                refine z_iadd dX7_grindBlade_101 ?_
                refine z_mmin dX7_grindBlade_102 tm_7_165 (Nat.le_of_ble_eq_true rfl) ⟨by omega, by omega⟩ ⟨by omega, by omega⟩ ?_
                refine z_ist dX7_grindBlade_105 (se_s5 hk) (by decide) (by omega) (by omega) (fun h95 e96 => ?_)
                have f97 := frm_1 e96
                have k98 := lk_q (frm_s f97) hk
                have H99 := isS_c f97 (fun a k q1 q2 q3 => by omega) HQ
                have FR100 := frm_t FR0 (frm_m (S' := (fun a k => a = s + 3 ∨ a = s + 5 ∨ a = s + 9 ∨ a = s + 11)) f97 (fun a k q => by omega))
                have HC1 : isF h95 (s + 1) (setG g (15 + i) (min 20 ((de g i) + 5))) := isF_setde HF e96 (by omega) (by omega) (by omega) (by omega)
                have n1 : nd (setG g (15 + i) (min 20 ((de g i) + 5))) = nd g := nd_set (by omega)
                have n2 : nu (setG g (15 + i) (min 20 ((de g i) + 5))) = nu g := nu_set (by omega)
                have x1 : dl (setG g (15 + i) (min 20 ((de g i) + 5))) i = dl g i := by rw [dl_set, if_neg (by omega)]
                refine e_aload_n dX7_grindBlade_106 rfl ?_
                refine e_get (.ref (s + 3)) dX7_grindBlade_107 tf_7_162 (congrArg Prod.fst (se_s2 k98)) (congrArg va_rf (se_r2_0 k98)) ?_
                refine e_iload_n dX7_grindBlade_110 rfl ?_
                refine e_dup2 dX7_grindBlade_111 rfl rfl ?_
                refine z_ild (dl (setG g (15 + i) (min 20 ((de g i) + 5))) i) dX7_grindBlade_112 (se_s3 k98) (by decide) (by omega) (by omega) (isF_dl HC1 (by omega) (by omega)) ?_
                have y101 := wB_d (isF_w HC1).1 (show 0 ≤ i by omega) (by omega)
                refine z_iconst (1) dX7_grindBlade_113 rfl ?_
                refine z_isub dX7_grindBlade_114 ?_
                refine z_ist dX7_grindBlade_115 (se_s3 k98) (by decide) (by omega) (by omega) (fun h102 e103 => ?_)
                have f104 := frm_1 e103
                have k105 := lk_q (frm_s f104) k98
                have H106 := isS_c f104 (fun a k q1 q2 q3 => by omega) H99
                have FR107 := frm_t FR100 (frm_m (S' := (fun a k => a = s + 3 ∨ a = s + 5 ∨ a = s + 9 ∨ a = s + 11)) f104 (fun a k q => by omega))
                have HC2 : isF h102 (s + 1) (setG (setG g (15 + i) (min 20 ((de g i) + 5))) (3 + i) ((dl (setG g (15 + i) (min 20 ((de g i) + 5))) i) - 1)) := isF_setdl HC1 e103 (by omega) (by omega) (by omega) (by omega)
                have eG : (setG (setG g (15 + i) (min 20 ((de g i) + 5))) (3 + i) ((dl (setG g (15 + i) (min 20 ((de g i) + 5))) i) - 1)) = dgG g i := by unfold dgG; rw [x1]
                refine z_iconst (1) dX7_grindBlade_116 rfl ?_
                refine z_bret dX7_grindBlade_117 rfl (Or.inr rfl) ⟨rfl, ?_⟩
                have C : gkP g q s' i := Or.inl ⟨by omega, by omega, by omega, by first | exact (fun z => absurd z.1 (by omega)) | exact (fun z => absurd (show (0 ≤ i ∧ i < 6) ∧ hasZ (q 3) i from ⟨by omega, z.2⟩) (by assumption))⟩
                refine z_q1 (kq _ FR107 ?_) C
                unfold gkG; rw [if_pos C, if_pos (show s' = 0 by omega), ← eG]; exact HC2
              · skip
                refine z_iconst (0) dX7_grindBlade_85 rfl ?_
                refine z_bret dX7_grindBlade_86 rfl (Or.inl rfl) ⟨rfl, ?_⟩
                have C : ¬ gkP g q s' i := by
                  rintro (⟨q0, q1, q2, q3⟩ | ⟨q0, q1, q2, q3⟩)
                  · first | omega | exact q3 ⟨by omega, And.right (by assumption)⟩
                  · first | omega | exact q3 ⟨by omega, And.right (by assumption)⟩
                refine z_q0 (kq _ FR0 ?_) C
                unfold gkG; rw [if_neg C]; exact HF
      · skip
        refine z_iconst (0) dX7_grindBlade_40 rfl ?_
        refine z_bret dX7_grindBlade_41 rfl (Or.inl rfl) ⟨rfl, ?_⟩
        have C : ¬ gkP g q s' i := by
          rintro (⟨q0, q1, q2, q3⟩ | ⟨q0, q1, q2, q3⟩)
          · first | omega | exact q3 ⟨by omega, And.right (by assumption)⟩
          · first | omega | exact q3 ⟨by omega, And.right (by assumption)⟩
        refine z_q0 (kq _ FR0 ?_) C
        unfold gkG; rw [if_neg C]; exact HF

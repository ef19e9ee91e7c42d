/-! THE REFERENCE'S YEAR: cut, grind, the day's end -/
theorem dX12_cutsNow_0 : decode cX12_cutsNow 0 = .ok (.aload_n 0, 1) := by decide +kernel
theorem dX12_cutsNow_1 : decode cX12_cutsNow 1 = .ok (.iload_n 2, 1) := by decide +kernel
theorem dX12_cutsNow_2 : decode cX12_cutsNow 2 = .ok (.invokevirtual 331, 3) := by decide +kernel
theorem dX12_cutsNow_5 : decode cX12_cutsNow 5 = .ok (.ifCond .eq 23, 3) := by decide +kernel
theorem dX12_cutsNow_8 : decode cX12_cutsNow 8 = .ok (.aload_n 0, 1) := by decide +kernel
theorem dX12_cutsNow_9 : decode cX12_cutsNow 9 = .ok (.getfield 322, 3) := by decide +kernel
theorem dX12_cutsNow_12 : decode cX12_cutsNow 12 = .ok (.iload_n 1, 1) := by decide +kernel
theorem dX12_cutsNow_13 : decode cX12_cutsNow 13 = .ok (.invokestatic 107, 3) := by decide +kernel
theorem dX12_cutsNow_16 : decode cX12_cutsNow 16 = .ok (.ifCond .ne 12, 3) := by decide +kernel
theorem dX12_cutsNow_19 : decode cX12_cutsNow 19 = .ok (.aload_n 0, 1) := by decide +kernel
theorem dX12_cutsNow_20 : decode cX12_cutsNow 20 = .ok (.iload_n 1, 1) := by decide +kernel
theorem dX12_cutsNow_21 : decode cX12_cutsNow 21 = .ok (.iload_n 2, 1) := by decide +kernel
theorem dX12_cutsNow_22 : decode cX12_cutsNow 22 = .ok (.invokevirtual 334, 3) := by decide +kernel
theorem dX12_cutsNow_25 : decode cX12_cutsNow 25 = .ok (.ifCond .ne 5, 3) := by decide +kernel
theorem dX12_cutsNow_28 : decode cX12_cutsNow 28 = .ok (.iconst 0, 1) := by decide +kernel
theorem dX12_cutsNow_29 : decode cX12_cutsNow 29 = .ok (.ireturn, 1) := by decide +kernel
theorem dX12_cutsNow_30 : decode cX12_cutsNow 30 = .ok (.bipush 6, 2) := by decide +kernel
theorem dX12_cutsNow_32 : decode cX12_cutsNow 32 = .ok (.aload_n 0, 1) := by decide +kernel
theorem dX12_cutsNow_33 : decode cX12_cutsNow 33 = .ok (.getfield 53, 3) := by decide +kernel
theorem dX12_cutsNow_36 : decode cX12_cutsNow 36 = .ok (.iload_n 1, 1) := by decide +kernel
theorem dX12_cutsNow_37 : decode cX12_cutsNow 37 = .ok (.iaload, 1) := by decide +kernel
theorem dX12_cutsNow_38 : decode cX12_cutsNow 38 = .ok (.iadd, 1) := by decide +kernel
theorem dX12_cutsNow_39 : decode cX12_cutsNow 39 = .ok (.istore_n 3, 1) := by decide +kernel
theorem dX12_cutsNow_40 : decode cX12_cutsNow 40 = .ok (.aload_n 0, 1) := by decide +kernel
theorem dX12_cutsNow_41 : decode cX12_cutsNow 41 = .ok (.iload_n 1, 1) := by decide +kernel
theorem dX12_cutsNow_42 : decode cX12_cutsNow 42 = .ok (.invokevirtual 337, 3) := by decide +kernel
theorem dX12_cutsNow_45 : decode cX12_cutsNow 45 = .ok (.aload_n 0, 1) := by decide +kernel
theorem dX12_cutsNow_46 : decode cX12_cutsNow 46 = .ok (.iload_n 3, 1) := by decide +kernel
theorem dX12_cutsNow_47 : decode cX12_cutsNow 47 = .ok (.invokevirtual 337, 3) := by decide +kernel
theorem dX12_cutsNow_50 : decode cX12_cutsNow 50 = .ok (.aload_n 0, 1) := by decide +kernel
theorem dX12_cutsNow_51 : decode cX12_cutsNow 51 = .ok (.dup, 1) := by decide +kernel
theorem dX12_cutsNow_52 : decode cX12_cutsNow 52 = .ok (.getfield 328, 3) := by decide +kernel
theorem dX12_cutsNow_55 : decode cX12_cutsNow 55 = .ok (.iconst 1, 1) := by decide +kernel
theorem dX12_cutsNow_56 : decode cX12_cutsNow 56 = .ok (.iload_n 1, 1) := by decide +kernel
theorem dX12_cutsNow_57 : decode cX12_cutsNow 57 = .ok (.ishl, 1) := by decide +kernel
theorem dX12_cutsNow_58 : decode cX12_cutsNow 58 = .ok (.iconst 1, 1) := by decide +kernel
theorem dX12_cutsNow_59 : decode cX12_cutsNow 59 = .ok (.iload_n 3, 1) := by decide +kernel
theorem dX12_cutsNow_60 : decode cX12_cutsNow 60 = .ok (.ishl, 1) := by decide +kernel
theorem dX12_cutsNow_61 : decode cX12_cutsNow 61 = .ok (.ior, 1) := by decide +kernel
theorem dX12_cutsNow_62 : decode cX12_cutsNow 62 = .ok (.ior, 1) := by decide +kernel
theorem dX12_cutsNow_63 : decode cX12_cutsNow 63 = .ok (.putfield 328, 3) := by decide +kernel
theorem dX12_cutsNow_66 : decode cX12_cutsNow 66 = .ok (.aload_n 0, 1) := by decide +kernel
theorem dX12_cutsNow_67 : decode cX12_cutsNow 67 = .ok (.dup, 1) := by decide +kernel
theorem dX12_cutsNow_68 : decode cX12_cutsNow 68 = .ok (.getfield 316, 3) := by decide +kernel
theorem dX12_cutsNow_71 : decode cX12_cutsNow 71 = .ok (.aload_n 0, 1) := by decide +kernel
theorem dX12_cutsNow_72 : decode cX12_cutsNow 72 = .ok (.bipush 69, 2) := by decide +kernel
theorem dX12_cutsNow_74 : decode cX12_cutsNow 74 = .ok (.iload_n 2, 1) := by decide +kernel
theorem dX12_cutsNow_75 : decode cX12_cutsNow 75 = .ok (.iadd, 1) := by decide +kernel
theorem dX12_cutsNow_76 : decode cX12_cutsNow 76 = .ok (.invokevirtual 267, 3) := by decide +kernel
theorem dX12_cutsNow_79 : decode cX12_cutsNow 79 = .ok (.iadd, 1) := by decide +kernel
theorem dX12_cutsNow_80 : decode cX12_cutsNow 80 = .ok (.putfield 316, 3) := by decide +kernel
theorem dX12_cutsNow_83 : decode cX12_cutsNow 83 = .ok (.aload_n 0, 1) := by decide +kernel
theorem dX12_cutsNow_84 : decode cX12_cutsNow 84 = .ok (.dup, 1) := by decide +kernel
theorem dX12_cutsNow_85 : decode cX12_cutsNow 85 = .ok (.getfield 319, 3) := by decide +kernel
theorem dX12_cutsNow_88 : decode cX12_cutsNow 88 = .ok (.iconst 1, 1) := by decide +kernel
theorem dX12_cutsNow_89 : decode cX12_cutsNow 89 = .ok (.iadd, 1) := by decide +kernel
theorem dX12_cutsNow_90 : decode cX12_cutsNow 90 = .ok (.putfield 319, 3) := by decide +kernel
theorem dX12_cutsNow_93 : decode cX12_cutsNow 93 = .ok (.iconst 1, 1) := by decide +kernel
theorem dX12_cutsNow_94 : decode cX12_cutsNow 94 = .ok (.ireturn, 1) := by decide +kernel
theorem dX12_grinds_0 : decode cX12_grinds 0 = .ok (.iload_n 1, 1) := by decide +kernel
theorem dX12_grinds_1 : decode cX12_grinds 1 = .ok (.ifCond .ne 14, 3) := by decide +kernel
theorem dX12_grinds_4 : decode cX12_grinds 4 = .ok (.aload_n 0, 1) := by decide +kernel
theorem dX12_grinds_5 : decode cX12_grinds 5 = .ok (.iload_n 2, 1) := by decide +kernel
theorem dX12_grinds_6 : decode cX12_grinds 6 = .ok (.invokevirtual 295, 3) := by decide +kernel
theorem dX12_grinds_9 : decode cX12_grinds 9 = .ok (.ifCond .ne 16, 3) := by decide +kernel
theorem dX12_grinds_12 : decode cX12_grinds 12 = .ok (.goto 11, 3) := by decide +kernel
theorem dX12_grinds_15 : decode cX12_grinds 15 = .ok (.aload_n 0, 1) := by decide +kernel
theorem dX12_grinds_16 : decode cX12_grinds 16 = .ok (.iload_n 2, 1) := by decide +kernel
theorem dX12_grinds_17 : decode cX12_grinds 17 = .ok (.invokevirtual 298, 3) := by decide +kernel
theorem dX12_grinds_20 : decode cX12_grinds 20 = .ok (.ifCond .ne 5, 3) := by decide +kernel
theorem dX12_grinds_23 : decode cX12_grinds 23 = .ok (.iconst 0, 1) := by decide +kernel
theorem dX12_grinds_24 : decode cX12_grinds 24 = .ok (.ireturn, 1) := by decide +kernel
theorem dX12_grinds_25 : decode cX12_grinds 25 = .ok (.bipush 6, 2) := by decide +kernel
theorem dX12_grinds_27 : decode cX12_grinds 27 = .ok (.iload_n 1, 1) := by decide +kernel
theorem dX12_grinds_28 : decode cX12_grinds 28 = .ok (.imul, 1) := by decide +kernel
theorem dX12_grinds_29 : decode cX12_grinds 29 = .ok (.iload_n 2, 1) := by decide +kernel
theorem dX12_grinds_30 : decode cX12_grinds 30 = .ok (.iadd, 1) := by decide +kernel
theorem dX12_grinds_31 : decode cX12_grinds 31 = .ok (.istore_n 3, 1) := by decide +kernel
theorem dX12_grinds_32 : decode cX12_grinds 32 = .ok (.aload_n 0, 1) := by decide +kernel
theorem dX12_grinds_33 : decode cX12_grinds 33 = .ok (.getfield 53, 3) := by decide +kernel
theorem dX12_grinds_36 : decode cX12_grinds 36 = .ok (.iload_n 3, 1) := by decide +kernel
theorem dX12_grinds_37 : decode cX12_grinds 37 = .ok (.iaload, 1) := by decide +kernel
theorem dX12_grinds_38 : decode cX12_grinds 38 = .ok (.iconst (-1), 1) := by decide +kernel
theorem dX12_grinds_39 : decode cX12_grinds 39 = .ok (.if_icmp .ne 7, 3) := by decide +kernel
theorem dX12_grinds_42 : decode cX12_grinds 42 = .ok (.iconst (-1), 1) := by decide +kernel
theorem dX12_grinds_43 : decode cX12_grinds 43 = .ok (.goto 17, 3) := by decide +kernel
theorem dX12_grinds_46 : decode cX12_grinds 46 = .ok (.iload_n 1, 1) := by decide +kernel
theorem dX12_grinds_47 : decode cX12_grinds 47 = .ok (.ifCond .ne 7, 3) := by decide +kernel
theorem dX12_grinds_50 : decode cX12_grinds 50 = .ok (.iload_n 2, 1) := by decide +kernel
theorem dX12_grinds_51 : decode cX12_grinds 51 = .ok (.goto 9, 3) := by decide +kernel
theorem dX12_grinds_54 : decode cX12_grinds 54 = .ok (.aload_n 0, 1) := by decide +kernel
theorem dX12_grinds_55 : decode cX12_grinds 55 = .ok (.getfield 53, 3) := by decide +kernel
theorem dX12_grinds_58 : decode cX12_grinds 58 = .ok (.iload_n 3, 1) := by decide +kernel
theorem dX12_grinds_59 : decode cX12_grinds 59 = .ok (.iaload, 1) := by decide +kernel
theorem dX12_grinds_60 : decode cX12_grinds 60 = .ok (.istore 4, 2) := by decide +kernel
theorem dX12_grinds_62 : decode cX12_grinds 62 = .ok (.iload 4, 2) := by decide +kernel
theorem dX12_grinds_64 : decode cX12_grinds 64 = .ok (.iconst (-1), 1) := by decide +kernel
theorem dX12_grinds_65 : decode cX12_grinds 65 = .ok (.if_icmp .eq 15, 3) := by decide +kernel
theorem dX12_grinds_68 : decode cX12_grinds 68 = .ok (.aload_n 0, 1) := by decide +kernel
theorem dX12_grinds_69 : decode cX12_grinds 69 = .ok (.getfield 322, 3) := by decide +kernel
theorem dX12_grinds_72 : decode cX12_grinds 72 = .ok (.iload 4, 2) := by decide +kernel
theorem dX12_grinds_74 : decode cX12_grinds 74 = .ok (.invokestatic 107, 3) := by decide +kernel
theorem dX12_grinds_77 : decode cX12_grinds 77 = .ok (.ifCond .ne 13, 3) := by decide +kernel
theorem dX12_grinds_80 : decode cX12_grinds 80 = .ok (.aload_n 0, 1) := by decide +kernel
theorem dX12_grinds_81 : decode cX12_grinds 81 = .ok (.getfield 41, 3) := by decide +kernel
theorem dX12_grinds_84 : decode cX12_grinds 84 = .ok (.iload_n 3, 1) := by decide +kernel
theorem dX12_grinds_85 : decode cX12_grinds 85 = .ok (.iaload, 1) := by decide +kernel
theorem dX12_grinds_86 : decode cX12_grinds 86 = .ok (.iconst 1, 1) := by decide +kernel
theorem dX12_grinds_87 : decode cX12_grinds 87 = .ok (.if_icmp .ne 5, 3) := by decide +kernel
theorem dX12_grinds_90 : decode cX12_grinds 90 = .ok (.iconst 0, 1) := by decide +kernel
theorem dX12_grinds_91 : decode cX12_grinds 91 = .ok (.ireturn, 1) := by decide +kernel
theorem dX12_grinds_92 : decode cX12_grinds 92 = .ok (.aload_n 0, 1) := by decide +kernel
theorem dX12_grinds_93 : decode cX12_grinds 93 = .ok (.getfield 47, 3) := by decide +kernel
theorem dX12_grinds_96 : decode cX12_grinds 96 = .ok (.iload_n 3, 1) := by decide +kernel
theorem dX12_grinds_97 : decode cX12_grinds 97 = .ok (.bipush 20, 2) := by decide +kernel
theorem dX12_grinds_99 : decode cX12_grinds 99 = .ok (.aload_n 0, 1) := by decide +kernel
theorem dX12_grinds_100 : decode cX12_grinds 100 = .ok (.getfield 47, 3) := by decide +kernel
theorem dX12_grinds_103 : decode cX12_grinds 103 = .ok (.iload_n 3, 1) := by decide +kernel
theorem dX12_grinds_104 : decode cX12_grinds 104 = .ok (.iaload, 1) := by decide +kernel
theorem dX12_grinds_105 : decode cX12_grinds 105 = .ok (.iconst 5, 1) := by decide +kernel
theorem dX12_grinds_106 : decode cX12_grinds 106 = .ok (.iadd, 1) := by decide +kernel
theorem dX12_grinds_107 : decode cX12_grinds 107 = .ok (.invokestatic 340, 3) := by decide +kernel
theorem dX12_grinds_110 : decode cX12_grinds 110 = .ok (.iastore, 1) := by decide +kernel
theorem dX12_grinds_111 : decode cX12_grinds 111 = .ok (.aload_n 0, 1) := by decide +kernel
theorem dX12_grinds_112 : decode cX12_grinds 112 = .ok (.getfield 41, 3) := by decide +kernel
theorem dX12_grinds_115 : decode cX12_grinds 115 = .ok (.iload_n 3, 1) := by decide +kernel
theorem dX12_grinds_116 : decode cX12_grinds 116 = .ok (.dup2, 1) := by decide +kernel
theorem dX12_grinds_117 : decode cX12_grinds 117 = .ok (.iaload, 1) := by decide +kernel
theorem dX12_grinds_118 : decode cX12_grinds 118 = .ok (.iconst 1, 1) := by decide +kernel
theorem dX12_grinds_119 : decode cX12_grinds 119 = .ok (.isub, 1) := by decide +kernel
theorem dX12_grinds_120 : decode cX12_grinds 120 = .ok (.iastore, 1) := by decide +kernel
theorem dX12_grinds_121 : decode cX12_grinds 121 = .ok (.iconst 1, 1) := by decide +kernel
theorem dX12_grinds_122 : decode cX12_grinds 122 = .ok (.ireturn, 1) := by decide +kernel
theorem dX12_dayEnds_0 : decode cX12_dayEnds 0 = .ok (.aload_n 0, 1) := by decide +kernel
theorem dX12_dayEnds_1 : decode cX12_dayEnds 1 = .ok (.getfield 313, 3) := by decide +kernel
theorem dX12_dayEnds_4 : decode cX12_dayEnds 4 = .ok (.bipush 99, 2) := by decide +kernel
theorem dX12_dayEnds_6 : decode cX12_dayEnds 6 = .ok (.if_icmp .ne 5, 3) := by decide +kernel
theorem dX12_dayEnds_9 : decode cX12_dayEnds 9 = .ok (.iconst 0, 1) := by decide +kernel
theorem dX12_dayEnds_10 : decode cX12_dayEnds 10 = .ok (.ireturn, 1) := by decide +kernel
theorem dX12_dayEnds_11 : decode cX12_dayEnds 11 = .ok (.iconst 0, 1) := by decide +kernel
theorem dX12_dayEnds_12 : decode cX12_dayEnds 12 = .ok (.istore_n 1, 1) := by decide +kernel
theorem dX12_dayEnds_13 : decode cX12_dayEnds 13 = .ok (.iload_n 1, 1) := by decide +kernel
theorem dX12_dayEnds_14 : decode cX12_dayEnds 14 = .ok (.bipush 12, 2) := by decide +kernel
theorem dX12_dayEnds_16 : decode cX12_dayEnds 16 = .ok (.if_icmp .ge 30, 3) := by decide +kernel
theorem dX12_dayEnds_19 : decode cX12_dayEnds 19 = .ok (.aload_n 0, 1) := by decide +kernel
theorem dX12_dayEnds_20 : decode cX12_dayEnds 20 = .ok (.getfield 328, 3) := by decide +kernel
theorem dX12_dayEnds_23 : decode cX12_dayEnds 23 = .ok (.aload_n 0, 1) := by decide +kernel
theorem dX12_dayEnds_24 : decode cX12_dayEnds 24 = .ok (.getfield 325, 3) := by decide +kernel
theorem dX12_dayEnds_27 : decode cX12_dayEnds 27 = .ok (.ior, 1) := by decide +kernel
theorem dX12_dayEnds_28 : decode cX12_dayEnds 28 = .ok (.iload_n 1, 1) := by decide +kernel
theorem dX12_dayEnds_29 : decode cX12_dayEnds 29 = .ok (.invokestatic 107, 3) := by decide +kernel
theorem dX12_dayEnds_32 : decode cX12_dayEnds 32 = .ok (.ifCond .ne 8, 3) := by decide +kernel
theorem dX12_dayEnds_35 : decode cX12_dayEnds 35 = .ok (.aload_n 0, 1) := by decide +kernel
theorem dX12_dayEnds_36 : decode cX12_dayEnds 36 = .ok (.iload_n 1, 1) := by decide +kernel
theorem dX12_dayEnds_37 : decode cX12_dayEnds 37 = .ok (.invokevirtual 337, 3) := by decide +kernel
theorem dX12_dayEnds_40 : decode cX12_dayEnds 40 = .ok (.iinc 1 1, 3) := by decide +kernel
theorem dX12_dayEnds_43 : decode cX12_dayEnds 43 = .ok (.goto (-30), 3) := by decide +kernel
theorem dX12_dayEnds_46 : decode cX12_dayEnds 46 = .ok (.aload_n 0, 1) := by decide +kernel
theorem dX12_dayEnds_47 : decode cX12_dayEnds 47 = .ok (.iconst 0, 1) := by decide +kernel
theorem dX12_dayEnds_48 : decode cX12_dayEnds 48 = .ok (.putfield 322, 3) := by decide +kernel
theorem dX12_dayEnds_51 : decode cX12_dayEnds 51 = .ok (.aload_n 0, 1) := by decide +kernel
theorem dX12_dayEnds_52 : decode cX12_dayEnds 52 = .ok (.iconst 0, 1) := by decide +kernel
theorem dX12_dayEnds_53 : decode cX12_dayEnds 53 = .ok (.putfield 325, 3) := by decide +kernel
theorem dX12_dayEnds_56 : decode cX12_dayEnds 56 = .ok (.aload_n 0, 1) := by decide +kernel
theorem dX12_dayEnds_57 : decode cX12_dayEnds 57 = .ok (.iconst 0, 1) := by decide +kernel
theorem dX12_dayEnds_58 : decode cX12_dayEnds 58 = .ok (.putfield 328, 3) := by decide +kernel
theorem dX12_dayEnds_61 : decode cX12_dayEnds 61 = .ok (.aload_n 0, 1) := by decide +kernel
theorem dX12_dayEnds_62 : decode cX12_dayEnds 62 = .ok (.dup, 1) := by decide +kernel
theorem dX12_dayEnds_63 : decode cX12_dayEnds 63 = .ok (.getfield 313, 3) := by decide +kernel
theorem dX12_dayEnds_66 : decode cX12_dayEnds 66 = .ok (.iconst 1, 1) := by decide +kernel
theorem dX12_dayEnds_67 : decode cX12_dayEnds 67 = .ok (.iadd, 1) := by decide +kernel
theorem dX12_dayEnds_68 : decode cX12_dayEnds 68 = .ok (.putfield 313, 3) := by decide +kernel
theorem dX12_dayEnds_71 : decode cX12_dayEnds 71 = .ok (.iconst 1, 1) := by decide +kernel
theorem dX12_dayEnds_72 : decode cX12_dayEnds 72 = .ok (.ireturn, 1) := by decide +kernel
set_option maxRecDepth 20000 in
theorem tm_12_331 : tMet TB0 12 331 = some (0, M_X12_isCloth) := rfl
set_option maxRecDepth 20000 in
theorem tm_12_334 : tMet TB0 12 334 = some (0, M_X12_cuts) := rfl
set_option maxRecDepth 20000 in
theorem tm_12_337 : tMet TB0 12 337 = some (0, M_X12_blunts) := rfl
theorem rB_rst {h h1 : mH} {m : Nat} {g : Int → Int} {A B : Int} (H : rB h m g) (s : frm (fun a _ => a = m + 13) h h1) (hA : 0 ≤ A ∧ A < 64) (hB : 0 ≤ B ∧ B < 64) (hj : ∀ j : Int, 0 ≤ j → j < 12 → -2147483648 < rI h (m + 13) j → rI h1 (m + 13) j = if ¬ hasZ (A + 64 * B) j then max 0 (rI h (m + 13) j - 1) else rI h (m + 13) j) : rB h1 m (rstG g A B) := by
  have wn := rB_n H
  have w := rB_w H
  have e0 : nd (rstG g A B) = nd g := rst_o w (by omega)
  have e1 : nu (rstG g A B) = nu g := rst_o w (by omega)
  refine ⟨wfB_rst w, ⟨?_, ?_⟩, ⟨fun i a c => ?_, fun i a c => ?_⟩, ⟨fun i a c => ?_, fun i a c => ?_⟩, ⟨fun i a c => ?_, fun i a c => ?_⟩, fun i a c => ?_, fun i a c => ?_⟩
  · rw [e0, frm_r s (by omega)]; exact rB_nd H
  · rw [e1, frm_r s (by omega)]; exact rB_nu H
  · rw [e0] at c; rw [show dl (rstG g A B) i = dl g i from rst_o w (by omega), frm_r s (by omega)]; exact rB_dl H a c
  · rw [e1] at c; rw [show ul (rstG g A B) i = ul g i from rst_o w (by omega), frm_r s (by omega)]; exact rB_ul H a c
  · rw [e0] at c; rw [show ds (rstG g A B) i = ds g i from rst_o w (by omega), frm_r s (by omega)]; exact rB_ds H a c
  · rw [e1] at c; rw [show us (rstG g A B) i = us g i from rst_o w (by omega), frm_r s (by omega)]; exact rB_us H a c
  · rw [e0] at c
    have q := wB_d w a c
    rw [rst_de w a c, hj i a (by omega) (by rw [rB_de H a c]; omega), rB_de H a c]
    by_cases z : hasZ A i
    · rw [if_pos z, if_neg (fun y => y ((bit_lo hA hB.1 (by omega)).mpr z))]
    · rw [if_neg z, if_pos (fun y => z ((bit_lo hA hB.1 (by omega)).mp y))]
  · rw [e1] at c
    have q := wB_u w a c
    rw [rst_ue w a c, hj (6 + i) (by omega) (by omega) (by rw [rB_ue H a c]; omega), rB_ue H a c]
    by_cases z : hasZ B i
    · rw [if_pos z, if_neg (fun y => y ((bit_hi hA hB.1 (by omega)).mpr z))]
    · rw [if_neg z, if_pos (fun y => z ((bit_hi hA hB.1 (by omega)).mp y))]
  · rw [e0] at c; rw [show dh (rstG g A B) i = dh g i from rst_o w (by omega), frm_r s (by omega)]; exact rB_dh H a c
  · rw [e1] at c; rw [show uh (rstG g A B) i = uh g i from rst_o w (by omega), frm_r s (by omega)]; exact rB_uh H a c
theorem rM_rst {h : mH} {m : Nat} {g : Int → Int} {A B : Int} (wb : wfB g) (H : rM h m g) : rM h m (rstG g A B) := rM_g (wfM_rst wb (rM_w H)) (fun i a c => by rw [show dm (rstG g A B) i = dm g i from rst_o wb (by omega)]; exact rM_d H a c) (fun i a c => by rw [show um (rstG g A B) i = um g i from rst_o wb (by omega)]; exact rM_u H a c)
theorem rC_rst {h : mH} {m : Nat} {g : Int → Int} {A B : Int} (wb : wfB g) (H : rC h m g) : rC h m (rstG g A B) := by
  have e2 : nc (rstG g A B) = nc g := rst_o wb (by omega)
  refine ⟨wfC_rst wb (rC_w H), by rw [e2]; exact H.2.1, H.2.2.1, fun i a c => ?_⟩
  rw [e2] at c
  rw [show ha (rstG g A B) i = ha g i from rst_o wb (by omega), show pr (rstG g A B) i = pr g i from rst_o wb (by omega), show dy (rstG g A B) i = dy g i from rst_o wb (by omega)]
  exact H.2.2.2 i a c
set_option maxHeartbeats 4000000 in
theorem zp_X12_cutsNow {ad : mA} {dd : Nat} {h : mH} {Q : mQ} {m : Nat} {g q : Int → Int} {n : Int} (hk : rk h m) (HB : rB h m g) (HM : rM h m g) (HC : rC h m g) (HQ : rQ h m q n)  (d : Int) (d_r : -2147483648 ≤ d ∧ d < 2147483648) (c : Int) (c_r : -2147483648 ≤ c ∧ c < 2147483648) (pd : 0 ≤ d ∧ d < nd g) (pn : n < 1000) (kq : ∀ h1, frm (fun a i => a = m + 13 ∨ (a = m ∧ (i = 34 ∨ i = 35 ∨ i = 38))) h h1 → (rB h1 m (cuG g q d c)) → (rM h1 m (cuG g q d c)) → (rC h1 m (cuG g q d c)) → (rQ h1 m (cuQ g q d c) (n + 1)) → Q (some (.int (zI (bZ (cCut g q d c))))) h1) : mCal TB0 ad (dd + 5) M_X12_cutsNow [.ref m, .int (zI d), .int (zI c)] h 0 0 Q := by
  refine ⟨Nat.le_of_ble_eq_true rfl, ?_⟩
  show mEv TB0 ad M_X12_cutsNow (dd + 5) (0, 0) (mCal TB0 ad (dd + 4)) (fun v h' z => z.1 = 0 ∧ Q v h') 0 [some (.ref m), some (.int (zI d)), some (.int (zI c)), none] [] h (0, 0)
  have FR0 : frm (fun a i => a = m + 13 ∨ (a = m ∧ (i = 34 ∨ i = 35 ∨ i = 38))) h h := frm_0 h
  have w1 := rB_n HB
  have w2 := rB_nd HB
  have w3 := rB_nu HB
  have wq := wfQ_e HQ.1
  have u1 := upv_in (g := g) (d := d) pd.1 pd.2
  have wc := rC_n HC
  have wf := rC_f HC
  refine e_aload_n dX12_cutsNow_0 rfl ?_
  refine e_iload_n dX12_cutsNow_1 rfl ?_
  refine e_callV [.int _] dX12_cutsNow_2 tm_12_331 rfl (Nat.le_of_ble_eq_true rfl) (rk_s hk) (Nat.le_of_ble_eq_true rfl) (Nat.le_refl _) (Nat.le_refl _) rfl (zp_X12_isCloth hk HC c ⟨by omega, by omega⟩ ?_)
  refine z_ifb_eq 28 dX12_cutsNow_5 rfl (fun c1 => ?_) (fun c1 => ?_)
  · skip
    refine z_iconst (0) dX12_cutsNow_28 rfl ?_
    refine z_bret dX12_cutsNow_29 rfl (Or.inl rfl) ⟨rfl, ?_⟩
    have C : ¬ cCut g q d c := by
      rintro ⟨⟨⟨z0, z1⟩, z2⟩, z3, z4⟩
      first | omega | exact absurd (by assumption) z2 | exact absurd (show cutW g d c 0 from ⟨by rw [u1]; exact z1, z3, by rw [u1]; exact z4⟩) (by assumption)
    have eC : cuG g q d c = g := by unfold cuG; rw [if_neg C]
    refine z_q0 (kq _ FR0 ?_ ?_ ?_ ?_) C
    · rw [eC]; assumption
    · rw [eC]; assumption
    · rw [eC]; assumption
    · unfold cuQ; rw [if_neg C]; exact rQ_1 HQ pn
  · skip
    refine e_aload_n dX12_cutsNow_8 rfl ?_
    refine z_get (q 3) dX12_cutsNow_9 tf_12_322 (rk_s hk) (Or.inl rfl) HQ.2.2.2.2.1 ?_
    have y2 := wfQ_e HQ.1
    refine e_iload_n dX12_cutsNow_12 rfl ?_
    refine e_callS [.int _, .int _] dX12_cutsNow_13 tm_12_107 rfl (Nat.le_of_ble_eq_true rfl) (Nat.le_refl _) (Nat.le_refl _) rfl (zp_X12_has (q 3) ⟨by omega, by omega⟩ d ⟨by omega, by omega⟩ (by omega) (by omega) (by omega) ?_)
    refine z_ifb_ne 28 dX12_cutsNow_16 rfl (fun c3 => ?_) (fun c3 => ?_)
    · skip
      refine z_iconst (0) dX12_cutsNow_28 rfl ?_
      refine z_bret dX12_cutsNow_29 rfl (Or.inl rfl) ⟨rfl, ?_⟩
      have C : ¬ cCut g q d c := by
        rintro ⟨⟨⟨z0, z1⟩, z2⟩, z3, z4⟩
        first | omega | exact absurd (by assumption) z2 | exact absurd (show cutW g d c 0 from ⟨by rw [u1]; exact z1, z3, by rw [u1]; exact z4⟩) (by assumption)
      have eC : cuG g q d c = g := by unfold cuG; rw [if_neg C]
      refine z_q0 (kq _ FR0 ?_ ?_ ?_ ?_) C
      · rw [eC]; assumption
      · rw [eC]; assumption
      · rw [eC]; assumption
      · unfold cuQ; rw [if_neg C]; exact rQ_1 HQ pn
    · skip
      refine e_aload_n dX12_cutsNow_19 rfl ?_
      refine e_iload_n dX12_cutsNow_20 rfl ?_
      refine e_iload_n dX12_cutsNow_21 rfl ?_
      refine e_callV [.int _, .int _] dX12_cutsNow_22 tm_12_334 rfl (Nat.le_of_ble_eq_true rfl) (rk_s hk) (Nat.le_of_ble_eq_true rfl) (Nat.le_refl _) (Nat.le_refl _) rfl (zp_X12_cuts hk HB HM HC d ⟨by omega, by omega⟩ c ⟨by omega, by omega⟩ (by omega) (by omega) ?_)
      refine z_ifb_ne 30 dX12_cutsNow_25 rfl (fun c4 => ?_) (fun c4 => ?_)
      · skip
        refine z_bipush (6) dX12_cutsNow_30 rfl ?_
        refine e_aload_n dX12_cutsNow_32 rfl ?_
        refine e_get (.ref (m + 15)) dX12_cutsNow_33 tf_12_53 (rk_s hk) (congrArg va_rf (rk_r15 hk)) ?_
        refine e_iload_n dX12_cutsNow_36 rfl ?_
        refine z_ild (dm g d) dX12_cutsNow_37 (rk_a15 hk) (by decide) (by omega) (by omega) (rM_d HM (by omega) (by omega)) ?_
        have y5 := wM_d (rM_w HM) (show 0 ≤ d by omega) (by omega)
        refine z_iadd dX12_cutsNow_38 ?_
        refine e_istore_n (L' := [_, _, _, _]) dX12_cutsNow_39 (Nat.le_of_ble_eq_true rfl) rfl ?_
        refine e_aload_n dX12_cutsNow_40 rfl ?_
        refine e_iload_n dX12_cutsNow_41 rfl ?_
        skip
        refine e_callV [.int _] dX12_cutsNow_42 tm_12_337 rfl (Nat.le_of_ble_eq_true rfl) (rk_s hk) (Nat.le_of_ble_eq_true rfl) (Nat.le_refl _) (Nat.le_refl _) rfl (zp_X12_blunts hk d ⟨by omega, by omega⟩ (by omega) (fun  h6 f7 p8 => ?_))
        have k9 := rk_q (frm_s f7) hk
        have H10 := rM_c f7 (fun a k q => by omega) HM
        have H11 := rC_c f7 (fun a k q => by omega) HC
        have H12 := rQ_c f7 (fun a k q1 q2 q3 => by omega) HQ
        have FR13 := frm_t FR0 (frm_m (S' := (fun a i => a = m + 13 ∨ (a = m ∧ (i = 34 ∨ i = 35 ∨ i = 38)))) f7 (fun a k q => by omega))
        have q1 := wB_d (rB_w HB) pd.1 pd.2
        have NB1 : rB h6 m (setG g (15 + d) (max 0 (de g d - 1))) := rB_fde HB f7 (by rw [p8 (by rw [rB_de HB pd.1 pd.2]; omega), rB_de HB pd.1 pd.2]) pd.1 pd.2 (by omega) (by omega)
        have n1 : nd (setG g (15 + d) (max 0 (de g d - 1))) = nd g := nd_set (by omega)
        have n2 : nu (setG g (15 + d) (max 0 (de g d - 1))) = nu g := nu_set (by omega)
        have x1 : ue (setG g (15 + d) (max 0 (de g d - 1))) (dm g d) = ue g (dm g d) := by rw [ue_set, if_neg (by omega)]
        have q2 := wB_u (rB_w HB) (u := dm g d) (by omega) (by omega)
        refine e_aload_n dX12_cutsNow_45 rfl ?_
        refine e_iload_n dX12_cutsNow_46 rfl ?_
        skip
        refine e_callV [.int _] dX12_cutsNow_47 tm_12_337 rfl (Nat.le_of_ble_eq_true rfl) (rk_s k9) (Nat.le_of_ble_eq_true rfl) (Nat.le_refl _) (Nat.le_refl _) rfl (zp_X12_blunts k9 (6 + (dm g d)) ⟨by omega, by omega⟩ (by omega) (fun  h14 f15 p16 => ?_))
        have k17 := rk_q (frm_s f15) k9
        have H18 := rM_c f15 (fun a k q => by omega) H10
        have H19 := rC_c f15 (fun a k q => by omega) H11
        have H20 := rQ_c f15 (fun a k q1 q2 q3 => by omega) H12
        have FR21 := frm_t FR13 (frm_m (S' := (fun a i => a = m + 13 ∨ (a = m ∧ (i = 34 ∨ i = 35 ∨ i = 38)))) f15 (fun a k q => by omega))
        have NB2 : rB h14 m (setG (setG g (15 + d) (max 0 (de g d - 1))) (45 + dm g d) (max 0 (ue (setG g (15 + d) (max 0 (de g d - 1))) (dm g d) - 1))) := rB_fue NB1 f15 (by rw [p16 (by rw [(rB_ue NB1 (i := dm g d) (by omega) (by omega))]; omega), (rB_ue NB1 (i := dm g d) (by omega) (by omega))]) (by omega) (by omega) (by omega) (by omega)
        have eG : (setG (setG g (15 + d) (max 0 (de g d - 1))) (45 + dm g d) (max 0 (ue (setG g (15 + d) (max 0 (de g d - 1))) (dm g d) - 1))) = ctG g d := by unfold ctG; rw [x1]
        refine e_aload_n dX12_cutsNow_50 rfl ?_
        refine e_dup dX12_cutsNow_51 rfl ?_
        refine z_get (q 6 + 64 * q 7) dX12_cutsNow_52 tf_12_328 (rk_s k17) (Or.inl rfl) H20.2.2.2.2.2.2 ?_
        have y22 := wfQ_e H20.1
        refine z_iconst (1) dX12_cutsNow_55 rfl ?_
        refine e_iload_n dX12_cutsNow_56 rfl ?_
        refine z_ishl dX12_cutsNow_57 (by omega) (by omega) (by omega) (by omega) ?_
        have y23 := shlZ_b 1 d
        refine z_iconst (1) dX12_cutsNow_58 rfl ?_
        refine e_iload_n dX12_cutsNow_59 rfl ?_
        refine z_ishl dX12_cutsNow_60 (by omega) (by omega) (by omega) (by omega) ?_
        have y24 := shlZ_b 1 (6 + (dm g d))
        refine z_ior dX12_cutsNow_61 (by omega) (by omega) (by omega) (by omega) ?_
        have y25 := orZ_b (shlZ 1 d) (shlZ 1 (6 + (dm g d)))
        refine z_ior dX12_cutsNow_62 (by omega) (by omega) (by omega) (by omega) ?_
        have y26 := orZ_b (q 6 + 64 * q 7) (orZ (shlZ 1 d) (shlZ 1 (6 + (dm g d))))
        refine z_put dX12_cutsNow_63 tf_12_328 (rk_s k17) rfl (Or.inl rfl) (fun h27 e28 => ?_)
        have f29 := frm_1 e28
        have k30 := rk_q (frm_s f29) k17
        have H31 := rM_c f29 (fun a k q => by omega) H18
        have H32 := rC_c f29 (fun a k q => by omega) H19
        have H33 := rB_c f29 (fun a k q => by omega) NB2
        have FR34 := frm_t FR21 (frm_m (S' := (fun a i => a = m + 13 ∨ (a = m ∧ (i = 34 ∨ i = 35 ∨ i = 38)))) f29 (fun a k q => by omega))
        refine e_aload_n dX12_cutsNow_66 rfl ?_
        refine e_dup dX12_cutsNow_67 rfl ?_
        refine z_get (q 1) dX12_cutsNow_68 tf_12_316 (rk_s k30) (Or.inl rfl) (((frm_r f29 (by omega)).trans ((frm_r f15 (by omega)).trans (frm_r f7 (by omega)))).trans HQ.2.2.1) ?_
        refine e_aload_n dX12_cutsNow_71 rfl ?_
        refine z_bipush (69) dX12_cutsNow_72 rfl ?_
        refine e_iload_n dX12_cutsNow_74 rfl ?_
        refine z_iadd dX12_cutsNow_75 ?_
        have v5 := rC_f H32
        have eP := rC_pr H32 (i := c) (by omega) (by omega)
        have v6 := wC_c (rC_w HC) (c := c) (by omega) (by omega)
        refine e_callV [.int _] dX12_cutsNow_76 tm_12_267 rfl (Nat.le_of_ble_eq_true rfl) (rk_s k30) (Nat.le_of_ble_eq_true rfl) (Nat.le_refl _) (Nat.le_refl _) rfl (zp_X12_of k30 (69 + c) ⟨by omega, by omega⟩ (by omega) (by omega) ?_)
        refine z_iadd dX12_cutsNow_79 ?_
        refine z_put dX12_cutsNow_80 tf_12_316 (rk_s k30) rfl (Or.inl rfl) (fun h35 e36 => ?_)
        have f37 := frm_1 e36
        have k38 := rk_q (frm_s f37) k30
        have H39 := rM_c f37 (fun a k q => by omega) H31
        have H40 := rC_c f37 (fun a k q => by omega) H32
        have H41 := rB_c f37 (fun a k q => by omega) H33
        have FR42 := frm_t FR34 (frm_m (S' := (fun a i => a = m + 13 ∨ (a = m ∧ (i = 34 ∨ i = 35 ∨ i = 38)))) f37 (fun a k q => by omega))
        refine e_aload_n dX12_cutsNow_83 rfl ?_
        refine e_dup dX12_cutsNow_84 rfl ?_
        refine z_get (q 2) dX12_cutsNow_85 tf_12_319 (rk_s k38) (Or.inl rfl) (((frm_r f37 (by omega)).trans ((frm_r f29 (by omega)).trans ((frm_r f15 (by omega)).trans (frm_r f7 (by omega))))).trans HQ.2.2.2.1) ?_
        refine z_iconst (1) dX12_cutsNow_88 rfl ?_
        refine z_iadd dX12_cutsNow_89 ?_
        refine z_put dX12_cutsNow_90 tf_12_319 (rk_s k38) rfl (Or.inl rfl) (fun h43 e44 => ?_)
        have f45 := frm_1 e44
        have k46 := rk_q (frm_s f45) k38
        have H47 := rM_c f45 (fun a k q => by omega) H39
        have H48 := rC_c f45 (fun a k q => by omega) H40
        have H49 := rB_c f45 (fun a k q => by omega) H41
        have FR50 := frm_t FR42 (frm_m (S' := (fun a i => a = m + 13 ∨ (a = m ∧ (i = 34 ∨ i = 35 ∨ i = 38)))) f45 (fun a k q => by omega))
        refine z_iconst (1) dX12_cutsNow_93 rfl ?_
        refine z_bret dX12_cutsNow_94 rfl (Or.inr rfl) ⟨rfl, ?_⟩
        have C : cCut g q d c := by
          obtain ⟨z1, z2, z3⟩ := ‹cutW g d c 0›
          rw [u1] at z1 z3
          exact ⟨⟨⟨by omega, z1⟩, by assumption⟩, z2, z3⟩
        have eC : cuG g q d c = (setG (setG g (15 + d) (max 0 (de g d - 1))) (45 + dm g d) (max 0 (ue (setG g (15 + d) (max 0 (de g d - 1))) (dm g d) - 1))) := by unfold cuG; rw [if_pos C, eG]
        refine z_q1 (kq _ FR50 ?_ ?_ ?_ ?_) C
        · rw [eC]; exact H49
        · rw [eC]; exact rM_setue (rM_setde H47 (by omega) (by omega)) (by omega) (by omega)
        · rw [eC]; exact rC_setue (rC_setde H48 (by omega) (by omega)) (by omega) (by omega)
        · unfold cuQ; rw [if_pos C]; exact ⟨wfQ_cut HQ.1 pn (by omega) (by omega) (by omega), (((frm_r f45 (by omega)).trans ((frm_r f37 (by omega)).trans ((frm_r f29 (by omega)).trans ((frm_r f15 (by omega)).trans (frm_r f7 (by omega))))))).trans HQ.2.1, ((show rI h43 m 34 = ((q 1) + (rI h27 (m + 6) (81 * rI h27 m 23 + (69 + c)))) from ((frm_r f45 (by omega)).trans (rI_eq e36 ⟨by omega, by omega⟩)))).trans (show ((q 1) + (rI h27 (m + 6) (81 * rI h27 m 23 + (69 + c)))) = q 1 + pr g c by rw [eP]), (show rI h43 m 35 = ((q 2) + 1) from (rI_eq e44 ⟨by omega, by omega⟩)), (((frm_r f45 (by omega)).trans ((frm_r f37 (by omega)).trans ((frm_r f29 (by omega)).trans ((frm_r f15 (by omega)).trans (frm_r f7 (by omega))))))).trans HQ.2.2.2.2.1, (((frm_r f45 (by omega)).trans ((frm_r f37 (by omega)).trans ((frm_r f29 (by omega)).trans ((frm_r f15 (by omega)).trans (frm_r f7 (by omega))))))).trans HQ.2.2.2.2.2.1, ((show rI h43 m 38 = (orZ (q 6 + 64 * q 7) (orZ (shlZ 1 d) (shlZ 1 (6 + (dm g d))))) from (((frm_r f45 (by omega)).trans (frm_r f37 (by omega))).trans (rI_eq e28 ⟨by omega, by omega⟩)))).trans (show orZ (q 6 + 64 * q 7) (orZ (shlZ 1 d) (shlZ 1 (6 + dm g d))) = orZ (q 6) (b1 d) + 64 * orZ (q 7) (b1 (dm g d)) by rw [← orZ_or, show shlZ 1 d = b1 d from rfl, or_lo (by omega) (by omega) (by omega)]; exact or_hi (or_b (by omega) (by omega)) (by omega) (by omega))⟩
      · skip
        refine z_iconst (0) dX12_cutsNow_28 rfl ?_
        refine z_bret dX12_cutsNow_29 rfl (Or.inl rfl) ⟨rfl, ?_⟩
        have C : ¬ cCut g q d c := by
          rintro ⟨⟨⟨z0, z1⟩, z2⟩, z3, z4⟩
          first | omega | exact absurd (by assumption) z2 | exact absurd (show cutW g d c 0 from ⟨by rw [u1]; exact z1, z3, by rw [u1]; exact z4⟩) (by assumption)
        have eC : cuG g q d c = g := by unfold cuG; rw [if_neg C]
        refine z_q0 (kq _ FR0 ?_ ?_ ?_ ?_) C
        · rw [eC]; assumption
        · rw [eC]; assumption
        · rw [eC]; assumption
        · unfold cuQ; rw [if_neg C]; exact rQ_1 HQ pn
set_option maxHeartbeats 2000000 in
theorem zp_X12_grinds {ad : mA} {dd : Nat} {h : mH} {Q : mQ} {m : Nat} {g q : Int → Int} {n : Int} (hk : rk h m) (HB : rB h m g) (HM : rM h m g) (HC : rC h m g) (HQ : rQ h m q n)  (s' : Int) (s'_r : -2147483648 ≤ s' ∧ s' < 2147483648) (k : Int) (k_r : -2147483648 ≤ k ∧ k < 2147483648) (p1 : s' = 0 ∨ s' = 1) (kq : ∀ h1, frm (fun a i => a = m + 11 ∨ a = m + 13) h h1 → (rB h1 m (gkG g q s' k)) → (rM h1 m (gkG g q s' k)) → (rC h1 m (gkG g q s' k)) → Q (some (.int (zI (bZ (gkP g q s' k))))) h1) : mCal TB0 ad (dd + 3) M_X12_grinds [.ref m, .int (zI s'), .int (zI k)] h 0 0 Q := by
  refine ⟨Nat.le_of_ble_eq_true rfl, ?_⟩
  show mEv TB0 ad M_X12_grinds (dd + 3) (0, 0) (mCal TB0 ad (dd + 2)) (fun v h' z => z.1 = 0 ∧ Q v h') 0 [some (.ref m), some (.int (zI s')), some (.int (zI k)), none, none] [] h (0, 0)
  have FR0 : frm (fun a i => a = m + 11 ∨ a = m + 13) h h := frm_0 h
  have w1 := rB_n HB
  have w2 := rB_nd HB
  have w3 := rB_nu HB
  have wq := wfQ_e HQ.1
  refine e_iload_n dX12_grinds_0 rfl ?_
  refine z_if_ne 15 dX12_grinds_1 rfl ⟨by omega, by omega⟩ (fun c1 => ?_) (fun c1 => ?_)
  · skip
    skip
    refine e_aload_n dX12_grinds_15 rfl ?_
    refine e_iload_n dX12_grinds_16 rfl ?_
    refine e_callV [.int _] dX12_grinds_17 tm_12_298 rfl (Nat.le_of_ble_eq_true rfl) (rk_s hk) (Nat.le_of_ble_eq_true rfl) (Nat.le_refl _) (Nat.le_refl _) rfl (zp_X12_isUp hk HB k ⟨by omega, by omega⟩ ?_)
    refine z_ifb_ne 25 dX12_grinds_20 rfl (fun c2 => ?_) (fun c2 => ?_)
    · skip
      refine z_bipush (6) dX12_grinds_25 rfl ?_
      refine e_iload_n dX12_grinds_27 rfl ?_
      refine z_imul dX12_grinds_28 ?_
      refine e_iload_n dX12_grinds_29 rfl ?_
      refine z_iadd dX12_grinds_30 ?_
      refine e_istore_n (L' := [_, _, _, _, _]) dX12_grinds_31 (Nat.le_of_ble_eq_true rfl) rfl ?_
      refine e_aload_n dX12_grinds_32 rfl ?_
      refine e_get (.ref (m + 15)) dX12_grinds_33 tf_12_53 (rk_s hk) (congrArg va_rf (rk_r15 hk)) ?_
      refine e_iload_n dX12_grinds_36 rfl ?_
      refine z_ild (um g k) dX12_grinds_37 (rk_a15 hk) (by decide) (by omega) (by omega) ((congrArg (rI h (m + 15)) (show 6 * s' + k = 6 + k by omega)).trans (rM_u HM (by omega) (by omega))) ?_
      have y3 := wM_u (rM_w HM) (show 0 ≤ k by omega) (by omega)
      refine z_iconst (-1) dX12_grinds_38 rfl ?_
      refine z_icmp_ne 46 dX12_grinds_39 rfl ⟨by omega, by omega⟩ ⟨by omega, by omega⟩ (fun c4 => ?_) (fun c4 => ?_)
      · skip
        refine e_iload_n dX12_grinds_46 rfl ?_
        refine z_if_ne 54 dX12_grinds_47 rfl ⟨by omega, by omega⟩ (fun c5 => ?_) (fun c5 => ?_)
        · skip
          refine e_aload_n dX12_grinds_54 rfl ?_
          refine e_get (.ref (m + 15)) dX12_grinds_55 tf_12_53 (rk_s hk) (congrArg va_rf (rk_r15 hk)) ?_
          refine e_iload_n dX12_grinds_58 rfl ?_
          refine z_ild (um g k) dX12_grinds_59 (rk_a15 hk) (by decide) (by omega) (by omega) ((congrArg (rI h (m + 15)) (show 6 * s' + k = 6 + k by omega)).trans (rM_u HM (by omega) (by omega))) ?_
          have y6 := wM_u (rM_w HM) (show 0 ≤ k by omega) (by omega)
          refine e_istore (L' := [_, _, _, _, _]) dX12_grinds_60 (Nat.le_of_ble_eq_true rfl) rfl ?_
          refine e_iload dX12_grinds_62 rfl ?_
          refine z_iconst (-1) dX12_grinds_64 rfl ?_
          refine z_icmp_eq 80 dX12_grinds_65 rfl ⟨by omega, by omega⟩ ⟨by omega, by omega⟩ (fun c7 => ?_) (fun c7 => ?_)
          · skip
            refine e_aload_n dX12_grinds_80 rfl ?_
            refine e_get (.ref (m + 11)) dX12_grinds_81 tf_12_41 (rk_s hk) (congrArg va_rf (rk_r11 hk)) ?_
            refine e_iload_n dX12_grinds_84 rfl ?_
            refine z_ild (ul g k) dX12_grinds_85 (rk_a11 hk) (by decide) (by omega) (by omega) ((congrArg (rI h (m + 11)) (show 6 * s' + k = 6 + k by omega)).trans (rB_ul HB (by omega) (by omega))) ?_
            have y8 := wB_u (rB_w HB) (show 0 ≤ k by omega) (by omega)
            refine z_iconst (1) dX12_grinds_86 rfl ?_
            refine z_icmp_ne 92 dX12_grinds_87 rfl ⟨by omega, by omega⟩ ⟨by omega, by omega⟩ (fun c9 => ?_) (fun c9 => ?_)
            · skip
              refine e_aload_n dX12_grinds_92 rfl ?_
              refine e_get (.ref (m + 13)) dX12_grinds_93 tf_12_47 (rk_s hk) (congrArg va_rf (rk_r13 hk)) ?_
              refine e_iload_n dX12_grinds_96 rfl ?_
              refine z_bipush (20) dX12_grinds_97 rfl ?_
              refine e_aload_n dX12_grinds_99 rfl ?_
              refine e_get (.ref (m + 13)) dX12_grinds_100 tf_12_47 (rk_s hk) (congrArg va_rf (rk_r13 hk)) ?_
              refine e_iload_n dX12_grinds_103 rfl ?_
              refine z_ild (ue g k) dX12_grinds_104 (rk_a13 hk) (by decide) (by omega) (by omega) ((congrArg (rI h (m + 13)) (show 6 * s' + k = 6 + k by omega)).trans (rB_ue HB (by omega) (by omega))) ?_
              have y10 := wB_u (rB_w HB) (show 0 ≤ k by omega) (by omega)
              refine z_iconst (5) dX12_grinds_105 rfl ?_
              refine z_iadd dX12_grinds_106 ?_
              refine e_callS [.int _, .int _] dX12_grinds_107 tm_12_340 rfl (Nat.le_of_ble_eq_true rfl) (Nat.le_refl _) (Nat.le_refl _) rfl (zp_X12_lesser 20 ⟨by omega, by omega⟩ ((ue g k) + 5) ⟨by omega, by omega⟩ ?_)
              refine z_ist dX12_grinds_110 (rk_a13 hk) (by decide) (by omega) (by omega) (fun h11 e12 => ?_)
              have f13 := frm_1 e12
              have k14 := rk_q (frm_s f13) hk
              have H15 := rM_c f13 (fun a k q => by omega) HM
              have H16 := rC_c f13 (fun a k q => by omega) HC
              have H17 := rQ_c f13 (fun a k q1 q2 q3 => by omega) HQ
              have FR18 := frm_t FR0 (frm_m (S' := (fun a i => a = m + 11 ∨ a = m + 13)) f13 (fun a k q => by omega))
              have e' := e12
              rw [show 6 * s' + k = 6 + k by omega] at e'
              have NB1 : rB h11 m (setG g (45 + k) (min 20 ((ue g k) + 5))) := rB_setue HB e' (by omega) (by omega) (by omega) (by omega)
              have n1 : nd (setG g (45 + k) (min 20 ((ue g k) + 5))) = nd g := nd_set (by omega)
              have n2 : nu (setG g (45 + k) (min 20 ((ue g k) + 5))) = nu g := nu_set (by omega)
              have x1 : ul (setG g (45 + k) (min 20 ((ue g k) + 5))) k = ul g k := by rw [ul_set, if_neg (by omega)]
              refine e_aload_n dX12_grinds_111 rfl ?_
              refine e_get (.ref (m + 11)) dX12_grinds_112 tf_12_41 (rk_s k14) (congrArg va_rf (rk_r11 k14)) ?_
              refine e_iload_n dX12_grinds_115 rfl ?_
              refine e_dup2 dX12_grinds_116 rfl rfl ?_
              refine z_ild (ul (setG g (45 + k) (min 20 ((ue g k) + 5))) k) dX12_grinds_117 (rk_a11 k14) (by decide) (by omega) (by omega) ((congrArg (rI h11 (m + 11)) (show 6 * s' + k = 6 + k by omega)).trans (rB_ul NB1 (by omega) (by omega))) ?_
              have y19 := wB_u (rB_w NB1) (show 0 ≤ k by omega) (by omega)
              refine z_iconst (1) dX12_grinds_118 rfl ?_
              refine z_isub dX12_grinds_119 ?_
              refine z_ist dX12_grinds_120 (rk_a11 k14) (by decide) (by omega) (by omega) (fun h20 e21 => ?_)
              have f22 := frm_1 e21
              have k23 := rk_q (frm_s f22) k14
              have H24 := rM_c f22 (fun a k q => by omega) H15
              have H25 := rC_c f22 (fun a k q => by omega) H16
              have H26 := rQ_c f22 (fun a k q1 q2 q3 => by omega) H17
              have FR27 := frm_t FR18 (frm_m (S' := (fun a i => a = m + 11 ∨ a = m + 13)) f22 (fun a k q => by omega))
              have e'' := e21
              rw [show 6 * s' + k = 6 + k by omega] at e''
              have NB2 : rB h20 m (setG (setG g (45 + k) (min 20 ((ue g k) + 5))) (33 + k) ((ul (setG g (45 + k) (min 20 ((ue g k) + 5))) k) - 1)) := rB_setul NB1 e'' (by omega) (by omega) (by omega) (by omega)
              have eG : (setG (setG g (45 + k) (min 20 ((ue g k) + 5))) (33 + k) ((ul (setG g (45 + k) (min 20 ((ue g k) + 5))) k) - 1)) = ugG g k := by unfold ugG; rw [x1]
              refine z_iconst (1) dX12_grinds_121 rfl ?_
              refine z_bret dX12_grinds_122 rfl (Or.inr rfl) ⟨rfl, ?_⟩
              have C : gkP g q s' k := Or.inr ⟨by omega, by omega, by omega, by first | exact (fun z => absurd z.1 (by omega)) | exact (fun z => absurd z.2 (by assumption))⟩
              have eC : gkG g q s' k = ugG g k := by unfold gkG; rw [if_pos C, if_neg (by omega)]
              rw [← eG] at eC
              refine z_q1 (kq _ FR27 ?_ ?_ ?_) C
              · rw [eC]; exact NB2
              · rw [eC]; exact rM_setul (rM_setue H24 (by omega) (by omega)) (by omega) (by omega)
              · rw [eC]; exact rC_setul (rC_setue H25 (by omega) (by omega)) (by omega) (by omega)
            · skip
              refine z_iconst (0) dX12_grinds_90 rfl ?_
              refine z_bret dX12_grinds_91 rfl (Or.inl rfl) ⟨rfl, ?_⟩
              have C : ¬ gkP g q s' k := by
                rintro (⟨z0, z1, z2, z3⟩ | ⟨z0, z1, z2, z3⟩) <;> first | omega | exact z3 ⟨by omega, by assumption⟩
              have eC : gkG g q s' k = g := by unfold gkG; rw [if_neg C]
              refine z_q0 (kq _ FR0 ?_ ?_ ?_) C <;> rw [eC] <;> assumption
          · skip
            refine e_aload_n dX12_grinds_68 rfl ?_
            refine z_get (q 3) dX12_grinds_69 tf_12_322 (rk_s hk) (Or.inl rfl) HQ.2.2.2.2.1 ?_
            have y28 := wfQ_e HQ.1
            refine e_iload dX12_grinds_72 rfl ?_
            refine e_callS [.int _, .int _] dX12_grinds_74 tm_12_107 rfl (Nat.le_of_ble_eq_true rfl) (Nat.le_refl _) (Nat.le_refl _) rfl (zp_X12_has (q 3) ⟨by omega, by omega⟩ (um g k) ⟨by omega, by omega⟩ (by omega) (by omega) (by omega) ?_)
            refine z_ifb_ne 90 dX12_grinds_77 rfl (fun c29 => ?_) (fun c29 => ?_)
            · skip
              refine z_iconst (0) dX12_grinds_90 rfl ?_
              refine z_bret dX12_grinds_91 rfl (Or.inl rfl) ⟨rfl, ?_⟩
              have C : ¬ gkP g q s' k := by
                rintro (⟨z0, z1, z2, z3⟩ | ⟨z0, z1, z2, z3⟩) <;> first | omega | exact z3 ⟨by omega, by assumption⟩
              have eC : gkG g q s' k = g := by unfold gkG; rw [if_neg C]
              refine z_q0 (kq _ FR0 ?_ ?_ ?_) C <;> rw [eC] <;> assumption
            · skip
              refine e_aload_n dX12_grinds_80 rfl ?_
              refine e_get (.ref (m + 11)) dX12_grinds_81 tf_12_41 (rk_s hk) (congrArg va_rf (rk_r11 hk)) ?_
              refine e_iload_n dX12_grinds_84 rfl ?_
              refine z_ild (ul g k) dX12_grinds_85 (rk_a11 hk) (by decide) (by omega) (by omega) ((congrArg (rI h (m + 11)) (show 6 * s' + k = 6 + k by omega)).trans (rB_ul HB (by omega) (by omega))) ?_
              have y30 := wB_u (rB_w HB) (show 0 ≤ k by omega) (by omega)
              refine z_iconst (1) dX12_grinds_86 rfl ?_
              refine z_icmp_ne 92 dX12_grinds_87 rfl ⟨by omega, by omega⟩ ⟨by omega, by omega⟩ (fun c31 => ?_) (fun c31 => ?_)
              · skip
                refine e_aload_n dX12_grinds_92 rfl ?_
                refine e_get (.ref (m + 13)) dX12_grinds_93 tf_12_47 (rk_s hk) (congrArg va_rf (rk_r13 hk)) ?_
                refine e_iload_n dX12_grinds_96 rfl ?_
                refine z_bipush (20) dX12_grinds_97 rfl ?_
                refine e_aload_n dX12_grinds_99 rfl ?_
                refine e_get (.ref (m + 13)) dX12_grinds_100 tf_12_47 (rk_s hk) (congrArg va_rf (rk_r13 hk)) ?_
                refine e_iload_n dX12_grinds_103 rfl ?_
                refine z_ild (ue g k) dX12_grinds_104 (rk_a13 hk) (by decide) (by omega) (by omega) ((congrArg (rI h (m + 13)) (show 6 * s' + k = 6 + k by omega)).trans (rB_ue HB (by omega) (by omega))) ?_
                have y32 := wB_u (rB_w HB) (show 0 ≤ k by omega) (by omega)
                refine z_iconst (5) dX12_grinds_105 rfl ?_
                refine z_iadd dX12_grinds_106 ?_
                refine e_callS [.int _, .int _] dX12_grinds_107 tm_12_340 rfl (Nat.le_of_ble_eq_true rfl) (Nat.le_refl _) (Nat.le_refl _) rfl (zp_X12_lesser 20 ⟨by omega, by omega⟩ ((ue g k) + 5) ⟨by omega, by omega⟩ ?_)
                refine z_ist dX12_grinds_110 (rk_a13 hk) (by decide) (by omega) (by omega) (fun h33 e34 => ?_)
                have f35 := frm_1 e34
                have k36 := rk_q (frm_s f35) hk
                have H37 := rM_c f35 (fun a k q => by omega) HM
                have H38 := rC_c f35 (fun a k q => by omega) HC
                have H39 := rQ_c f35 (fun a k q1 q2 q3 => by omega) HQ
                have FR40 := frm_t FR0 (frm_m (S' := (fun a i => a = m + 11 ∨ a = m + 13)) f35 (fun a k q => by omega))
                have e' := e34
                rw [show 6 * s' + k = 6 + k by omega] at e'
                have NB1 : rB h33 m (setG g (45 + k) (min 20 ((ue g k) + 5))) := rB_setue HB e' (by omega) (by omega) (by omega) (by omega)
                have n1 : nd (setG g (45 + k) (min 20 ((ue g k) + 5))) = nd g := nd_set (by omega)
                have n2 : nu (setG g (45 + k) (min 20 ((ue g k) + 5))) = nu g := nu_set (by omega)
                have x1 : ul (setG g (45 + k) (min 20 ((ue g k) + 5))) k = ul g k := by rw [ul_set, if_neg (by omega)]
                refine e_aload_n dX12_grinds_111 rfl ?_
                refine e_get (.ref (m + 11)) dX12_grinds_112 tf_12_41 (rk_s k36) (congrArg va_rf (rk_r11 k36)) ?_
                refine e_iload_n dX12_grinds_115 rfl ?_
                refine e_dup2 dX12_grinds_116 rfl rfl ?_
                refine z_ild (ul (setG g (45 + k) (min 20 ((ue g k) + 5))) k) dX12_grinds_117 (rk_a11 k36) (by decide) (by omega) (by omega) ((congrArg (rI h33 (m + 11)) (show 6 * s' + k = 6 + k by omega)).trans (rB_ul NB1 (by omega) (by omega))) ?_
                have y41 := wB_u (rB_w NB1) (show 0 ≤ k by omega) (by omega)
                refine z_iconst (1) dX12_grinds_118 rfl ?_
                refine z_isub dX12_grinds_119 ?_
                refine z_ist dX12_grinds_120 (rk_a11 k36) (by decide) (by omega) (by omega) (fun h42 e43 => ?_)
                have f44 := frm_1 e43
                have k45 := rk_q (frm_s f44) k36
                have H46 := rM_c f44 (fun a k q => by omega) H37
                have H47 := rC_c f44 (fun a k q => by omega) H38
                have H48 := rQ_c f44 (fun a k q1 q2 q3 => by omega) H39
                have FR49 := frm_t FR40 (frm_m (S' := (fun a i => a = m + 11 ∨ a = m + 13)) f44 (fun a k q => by omega))
                have e'' := e43
                rw [show 6 * s' + k = 6 + k by omega] at e''
                have NB2 : rB h42 m (setG (setG g (45 + k) (min 20 ((ue g k) + 5))) (33 + k) ((ul (setG g (45 + k) (min 20 ((ue g k) + 5))) k) - 1)) := rB_setul NB1 e'' (by omega) (by omega) (by omega) (by omega)
                have eG : (setG (setG g (45 + k) (min 20 ((ue g k) + 5))) (33 + k) ((ul (setG g (45 + k) (min 20 ((ue g k) + 5))) k) - 1)) = ugG g k := by unfold ugG; rw [x1]
                refine z_iconst (1) dX12_grinds_121 rfl ?_
                refine z_bret dX12_grinds_122 rfl (Or.inr rfl) ⟨rfl, ?_⟩
                have C : gkP g q s' k := Or.inr ⟨by omega, by omega, by omega, by first | exact (fun z => absurd z.1 (by omega)) | exact (fun z => absurd z.2 (by assumption))⟩
                have eC : gkG g q s' k = ugG g k := by unfold gkG; rw [if_pos C, if_neg (by omega)]
                rw [← eG] at eC
                refine z_q1 (kq _ FR49 ?_ ?_ ?_) C
                · rw [eC]; exact NB2
                · rw [eC]; exact rM_setul (rM_setue H46 (by omega) (by omega)) (by omega) (by omega)
                · rw [eC]; exact rC_setul (rC_setue H47 (by omega) (by omega)) (by omega) (by omega)
              · skip
                refine z_iconst (0) dX12_grinds_90 rfl ?_
                refine z_bret dX12_grinds_91 rfl (Or.inl rfl) ⟨rfl, ?_⟩
                have C : ¬ gkP g q s' k := by
                  rintro (⟨z0, z1, z2, z3⟩ | ⟨z0, z1, z2, z3⟩) <;> first | omega | exact z3 ⟨by omega, by assumption⟩
                have eC : gkG g q s' k = g := by unfold gkG; rw [if_neg C]
                refine z_q0 (kq _ FR0 ?_ ?_ ?_) C <;> rw [eC] <;> assumption
        · skip
          refine e_iload_n dX12_grinds_50 rfl ?_
          refine e_goto 60 dX12_grinds_51 rfl ?_
          refine e_istore (L' := [_, _, _, _, _]) dX12_grinds_60 (Nat.le_of_ble_eq_true rfl) rfl ?_
          refine e_iload dX12_grinds_62 rfl ?_
          refine z_iconst (-1) dX12_grinds_64 rfl ?_
          refine z_icmp_eq 80 dX12_grinds_65 rfl ⟨by omega, by omega⟩ ⟨by omega, by omega⟩ (fun c50 => ?_) (fun c50 => ?_)
          · skip
            refine e_aload_n dX12_grinds_80 rfl ?_
            refine e_get (.ref (m + 11)) dX12_grinds_81 tf_12_41 (rk_s hk) (congrArg va_rf (rk_r11 hk)) ?_
            refine e_iload_n dX12_grinds_84 rfl ?_
            refine z_ild (ul g k) dX12_grinds_85 (rk_a11 hk) (by decide) (by omega) (by omega) ((congrArg (rI h (m + 11)) (show 6 * s' + k = 6 + k by omega)).trans (rB_ul HB (by omega) (by omega))) ?_
            have y51 := wB_u (rB_w HB) (show 0 ≤ k by omega) (by omega)
            refine z_iconst (1) dX12_grinds_86 rfl ?_
            refine z_icmp_ne 92 dX12_grinds_87 rfl ⟨by omega, by omega⟩ ⟨by omega, by omega⟩ (fun c52 => ?_) (fun c52 => ?_)
            · skip
              refine e_aload_n dX12_grinds_92 rfl ?_
              refine e_get (.ref (m + 13)) dX12_grinds_93 tf_12_47 (rk_s hk) (congrArg va_rf (rk_r13 hk)) ?_
              refine e_iload_n dX12_grinds_96 rfl ?_
              refine z_bipush (20) dX12_grinds_97 rfl ?_
              refine e_aload_n dX12_grinds_99 rfl ?_
              refine e_get (.ref (m + 13)) dX12_grinds_100 tf_12_47 (rk_s hk) (congrArg va_rf (rk_r13 hk)) ?_
              refine e_iload_n dX12_grinds_103 rfl ?_
              refine z_ild (ue g k) dX12_grinds_104 (rk_a13 hk) (by decide) (by omega) (by omega) ((congrArg (rI h (m + 13)) (show 6 * s' + k = 6 + k by omega)).trans (rB_ue HB (by omega) (by omega))) ?_
              have y53 := wB_u (rB_w HB) (show 0 ≤ k by omega) (by omega)
              refine z_iconst (5) dX12_grinds_105 rfl ?_
              refine z_iadd dX12_grinds_106 ?_
              refine e_callS [.int _, .int _] dX12_grinds_107 tm_12_340 rfl (Nat.le_of_ble_eq_true rfl) (Nat.le_refl _) (Nat.le_refl _) rfl (zp_X12_lesser 20 ⟨by omega, by omega⟩ ((ue g k) + 5) ⟨by omega, by omega⟩ ?_)
              refine z_ist dX12_grinds_110 (rk_a13 hk) (by decide) (by omega) (by omega) (fun h54 e55 => ?_)
              have f56 := frm_1 e55
              have k57 := rk_q (frm_s f56) hk
              have H58 := rM_c f56 (fun a k q => by omega) HM
              have H59 := rC_c f56 (fun a k q => by omega) HC
              have H60 := rQ_c f56 (fun a k q1 q2 q3 => by omega) HQ
              have FR61 := frm_t FR0 (frm_m (S' := (fun a i => a = m + 11 ∨ a = m + 13)) f56 (fun a k q => by omega))
              have e' := e55
              rw [show 6 * s' + k = 6 + k by omega] at e'
              have NB1 : rB h54 m (setG g (45 + k) (min 20 ((ue g k) + 5))) := rB_setue HB e' (by omega) (by omega) (by omega) (by omega)
              have n1 : nd (setG g (45 + k) (min 20 ((ue g k) + 5))) = nd g := nd_set (by omega)
              have n2 : nu (setG g (45 + k) (min 20 ((ue g k) + 5))) = nu g := nu_set (by omega)
              have x1 : ul (setG g (45 + k) (min 20 ((ue g k) + 5))) k = ul g k := by rw [ul_set, if_neg (by omega)]
              refine e_aload_n dX12_grinds_111 rfl ?_
              refine e_get (.ref (m + 11)) dX12_grinds_112 tf_12_41 (rk_s k57) (congrArg va_rf (rk_r11 k57)) ?_
              refine e_iload_n dX12_grinds_115 rfl ?_
              refine e_dup2 dX12_grinds_116 rfl rfl ?_
              refine z_ild (ul (setG g (45 + k) (min 20 ((ue g k) + 5))) k) dX12_grinds_117 (rk_a11 k57) (by decide) (by omega) (by omega) ((congrArg (rI h54 (m + 11)) (show 6 * s' + k = 6 + k by omega)).trans (rB_ul NB1 (by omega) (by omega))) ?_
              have y62 := wB_u (rB_w NB1) (show 0 ≤ k by omega) (by omega)
              refine z_iconst (1) dX12_grinds_118 rfl ?_
              refine z_isub dX12_grinds_119 ?_
              refine z_ist dX12_grinds_120 (rk_a11 k57) (by decide) (by omega) (by omega) (fun h63 e64 => ?_)
              have f65 := frm_1 e64
              have k66 := rk_q (frm_s f65) k57
              have H67 := rM_c f65 (fun a k q => by omega) H58
              have H68 := rC_c f65 (fun a k q => by omega) H59
              have H69 := rQ_c f65 (fun a k q1 q2 q3 => by omega) H60
              have FR70 := frm_t FR61 (frm_m (S' := (fun a i => a = m + 11 ∨ a = m + 13)) f65 (fun a k q => by omega))
              have e'' := e64
              rw [show 6 * s' + k = 6 + k by omega] at e''
              have NB2 : rB h63 m (setG (setG g (45 + k) (min 20 ((ue g k) + 5))) (33 + k) ((ul (setG g (45 + k) (min 20 ((ue g k) + 5))) k) - 1)) := rB_setul NB1 e'' (by omega) (by omega) (by omega) (by omega)
              have eG : (setG (setG g (45 + k) (min 20 ((ue g k) + 5))) (33 + k) ((ul (setG g (45 + k) (min 20 ((ue g k) + 5))) k) - 1)) = ugG g k := by unfold ugG; rw [x1]
              refine z_iconst (1) dX12_grinds_121 rfl ?_
              refine z_bret dX12_grinds_122 rfl (Or.inr rfl) ⟨rfl, ?_⟩
              have C : gkP g q s' k := Or.inr ⟨by omega, by omega, by omega, by first | exact (fun z => absurd z.1 (by omega)) | exact (fun z => absurd z.2 (by assumption))⟩
              have eC : gkG g q s' k = ugG g k := by unfold gkG; rw [if_pos C, if_neg (by omega)]
              rw [← eG] at eC
              refine z_q1 (kq _ FR70 ?_ ?_ ?_) C
              · rw [eC]; exact NB2
              · rw [eC]; exact rM_setul (rM_setue H67 (by omega) (by omega)) (by omega) (by omega)
              · rw [eC]; exact rC_setul (rC_setue H68 (by omega) (by omega)) (by omega) (by omega)
            · skip
              refine z_iconst (0) dX12_grinds_90 rfl ?_
              refine z_bret dX12_grinds_91 rfl (Or.inl rfl) ⟨rfl, ?_⟩
              have C : ¬ gkP g q s' k := by
                rintro (⟨z0, z1, z2, z3⟩ | ⟨z0, z1, z2, z3⟩) <;> first | omega | exact z3 ⟨by omega, by assumption⟩
              have eC : gkG g q s' k = g := by unfold gkG; rw [if_neg C]
              refine z_q0 (kq _ FR0 ?_ ?_ ?_) C <;> rw [eC] <;> assumption
          · skip
            refine e_aload_n dX12_grinds_68 rfl ?_
            refine z_get (q 3) dX12_grinds_69 tf_12_322 (rk_s hk) (Or.inl rfl) HQ.2.2.2.2.1 ?_
            have y71 := wfQ_e HQ.1
            refine e_iload dX12_grinds_72 rfl ?_
            refine e_callS [.int _, .int _] dX12_grinds_74 tm_12_107 rfl (Nat.le_of_ble_eq_true rfl) (Nat.le_refl _) (Nat.le_refl _) rfl (zp_X12_has (q 3) ⟨by omega, by omega⟩ k ⟨by omega, by omega⟩ (by omega) (by omega) (by omega) ?_)
            refine z_ifb_ne 90 dX12_grinds_77 rfl (fun c72 => ?_) (fun c72 => ?_)
            · skip
              refine z_iconst (0) dX12_grinds_90 rfl ?_
              refine z_bret dX12_grinds_91 rfl (Or.inl rfl) ⟨rfl, ?_⟩
              have C : ¬ gkP g q s' k := by
                rintro (⟨z0, z1, z2, z3⟩ | ⟨z0, z1, z2, z3⟩) <;> first | omega | exact z3 ⟨by omega, by assumption⟩
              have eC : gkG g q s' k = g := by unfold gkG; rw [if_neg C]
              refine z_q0 (kq _ FR0 ?_ ?_ ?_) C <;> rw [eC] <;> assumption
            · skip
              refine e_aload_n dX12_grinds_80 rfl ?_
              refine e_get (.ref (m + 11)) dX12_grinds_81 tf_12_41 (rk_s hk) (congrArg va_rf (rk_r11 hk)) ?_
              refine e_iload_n dX12_grinds_84 rfl ?_
              refine z_ild (ul g k) dX12_grinds_85 (rk_a11 hk) (by decide) (by omega) (by omega) ((congrArg (rI h (m + 11)) (show 6 * s' + k = 6 + k by omega)).trans (rB_ul HB (by omega) (by omega))) ?_
              have y73 := wB_u (rB_w HB) (show 0 ≤ k by omega) (by omega)
              refine z_iconst (1) dX12_grinds_86 rfl ?_
              refine z_icmp_ne 92 dX12_grinds_87 rfl ⟨by omega, by omega⟩ ⟨by omega, by omega⟩ (fun c74 => ?_) (fun c74 => ?_)
              · skip
                refine e_aload_n dX12_grinds_92 rfl ?_
                refine e_get (.ref (m + 13)) dX12_grinds_93 tf_12_47 (rk_s hk) (congrArg va_rf (rk_r13 hk)) ?_
                refine e_iload_n dX12_grinds_96 rfl ?_
                refine z_bipush (20) dX12_grinds_97 rfl ?_
                refine e_aload_n dX12_grinds_99 rfl ?_
                refine e_get (.ref (m + 13)) dX12_grinds_100 tf_12_47 (rk_s hk) (congrArg va_rf (rk_r13 hk)) ?_
                refine e_iload_n dX12_grinds_103 rfl ?_
                refine z_ild (ue g k) dX12_grinds_104 (rk_a13 hk) (by decide) (by omega) (by omega) ((congrArg (rI h (m + 13)) (show 6 * s' + k = 6 + k by omega)).trans (rB_ue HB (by omega) (by omega))) ?_
                have y75 := wB_u (rB_w HB) (show 0 ≤ k by omega) (by omega)
                refine z_iconst (5) dX12_grinds_105 rfl ?_
                refine z_iadd dX12_grinds_106 ?_
                refine e_callS [.int _, .int _] dX12_grinds_107 tm_12_340 rfl (Nat.le_of_ble_eq_true rfl) (Nat.le_refl _) (Nat.le_refl _) rfl (zp_X12_lesser 20 ⟨by omega, by omega⟩ ((ue g k) + 5) ⟨by omega, by omega⟩ ?_)
                refine z_ist dX12_grinds_110 (rk_a13 hk) (by decide) (by omega) (by omega) (fun h76 e77 => ?_)
                have f78 := frm_1 e77
                have k79 := rk_q (frm_s f78) hk
                have H80 := rM_c f78 (fun a k q => by omega) HM
                have H81 := rC_c f78 (fun a k q => by omega) HC
                have H82 := rQ_c f78 (fun a k q1 q2 q3 => by omega) HQ
                have FR83 := frm_t FR0 (frm_m (S' := (fun a i => a = m + 11 ∨ a = m + 13)) f78 (fun a k q => by omega))
                have e' := e77
                rw [show 6 * s' + k = 6 + k by omega] at e'
                have NB1 : rB h76 m (setG g (45 + k) (min 20 ((ue g k) + 5))) := rB_setue HB e' (by omega) (by omega) (by omega) (by omega)
                have n1 : nd (setG g (45 + k) (min 20 ((ue g k) + 5))) = nd g := nd_set (by omega)
                have n2 : nu (setG g (45 + k) (min 20 ((ue g k) + 5))) = nu g := nu_set (by omega)
                have x1 : ul (setG g (45 + k) (min 20 ((ue g k) + 5))) k = ul g k := by rw [ul_set, if_neg (by omega)]
                refine e_aload_n dX12_grinds_111 rfl ?_
                refine e_get (.ref (m + 11)) dX12_grinds_112 tf_12_41 (rk_s k79) (congrArg va_rf (rk_r11 k79)) ?_
                refine e_iload_n dX12_grinds_115 rfl ?_
                refine e_dup2 dX12_grinds_116 rfl rfl ?_
                refine z_ild (ul (setG g (45 + k) (min 20 ((ue g k) + 5))) k) dX12_grinds_117 (rk_a11 k79) (by decide) (by omega) (by omega) ((congrArg (rI h76 (m + 11)) (show 6 * s' + k = 6 + k by omega)).trans (rB_ul NB1 (by omega) (by omega))) ?_
                have y84 := wB_u (rB_w NB1) (show 0 ≤ k by omega) (by omega)
                refine z_iconst (1) dX12_grinds_118 rfl ?_
                refine z_isub dX12_grinds_119 ?_
                refine z_ist dX12_grinds_120 (rk_a11 k79) (by decide) (by omega) (by omega) (fun h85 e86 => ?_)
                have f87 := frm_1 e86
                have k88 := rk_q (frm_s f87) k79
                have H89 := rM_c f87 (fun a k q => by omega) H80
                have H90 := rC_c f87 (fun a k q => by omega) H81
                have H91 := rQ_c f87 (fun a k q1 q2 q3 => by omega) H82
                have FR92 := frm_t FR83 (frm_m (S' := (fun a i => a = m + 11 ∨ a = m + 13)) f87 (fun a k q => by omega))
                have e'' := e86
                rw [show 6 * s' + k = 6 + k by omega] at e''
                have NB2 : rB h85 m (setG (setG g (45 + k) (min 20 ((ue g k) + 5))) (33 + k) ((ul (setG g (45 + k) (min 20 ((ue g k) + 5))) k) - 1)) := rB_setul NB1 e'' (by omega) (by omega) (by omega) (by omega)
                have eG : (setG (setG g (45 + k) (min 20 ((ue g k) + 5))) (33 + k) ((ul (setG g (45 + k) (min 20 ((ue g k) + 5))) k) - 1)) = ugG g k := by unfold ugG; rw [x1]
                refine z_iconst (1) dX12_grinds_121 rfl ?_
                refine z_bret dX12_grinds_122 rfl (Or.inr rfl) ⟨rfl, ?_⟩
                have C : gkP g q s' k := Or.inr ⟨by omega, by omega, by omega, by first | exact (fun z => absurd z.1 (by omega)) | exact (fun z => absurd z.2 (by assumption))⟩
                have eC : gkG g q s' k = ugG g k := by unfold gkG; rw [if_pos C, if_neg (by omega)]
                rw [← eG] at eC
                refine z_q1 (kq _ FR92 ?_ ?_ ?_) C
                · rw [eC]; exact NB2
                · rw [eC]; exact rM_setul (rM_setue H89 (by omega) (by omega)) (by omega) (by omega)
                · rw [eC]; exact rC_setul (rC_setue H90 (by omega) (by omega)) (by omega) (by omega)
              · skip
                refine z_iconst (0) dX12_grinds_90 rfl ?_
                refine z_bret dX12_grinds_91 rfl (Or.inl rfl) ⟨rfl, ?_⟩
                have C : ¬ gkP g q s' k := by
                  rintro (⟨z0, z1, z2, z3⟩ | ⟨z0, z1, z2, z3⟩) <;> first | omega | exact z3 ⟨by omega, by assumption⟩
                have eC : gkG g q s' k = g := by unfold gkG; rw [if_neg C]
                refine z_q0 (kq _ FR0 ?_ ?_ ?_) C <;> rw [eC] <;> assumption
      · skip
        refine z_iconst (-1) dX12_grinds_42 rfl ?_
        refine e_goto 60 dX12_grinds_43 rfl ?_
        refine e_istore (L' := [_, _, _, _, _]) dX12_grinds_60 (Nat.le_of_ble_eq_true rfl) rfl ?_
        refine e_iload dX12_grinds_62 rfl ?_
        refine z_iconst (-1) dX12_grinds_64 rfl ?_
        refine z_icmp_eq 80 dX12_grinds_65 rfl ⟨by omega, by omega⟩ ⟨by omega, by omega⟩ (fun c93 => ?_) (fun c93 => ?_)
        · skip
          refine e_aload_n dX12_grinds_80 rfl ?_
          refine e_get (.ref (m + 11)) dX12_grinds_81 tf_12_41 (rk_s hk) (congrArg va_rf (rk_r11 hk)) ?_
          refine e_iload_n dX12_grinds_84 rfl ?_
          refine z_ild (ul g k) dX12_grinds_85 (rk_a11 hk) (by decide) (by omega) (by omega) ((congrArg (rI h (m + 11)) (show 6 * s' + k = 6 + k by omega)).trans (rB_ul HB (by omega) (by omega))) ?_
          have y94 := wB_u (rB_w HB) (show 0 ≤ k by omega) (by omega)
          refine z_iconst (1) dX12_grinds_86 rfl ?_
          refine z_icmp_ne 92 dX12_grinds_87 rfl ⟨by omega, by omega⟩ ⟨by omega, by omega⟩ (fun c95 => ?_) (fun c95 => ?_)
          · skip
            refine e_aload_n dX12_grinds_92 rfl ?_
            refine e_get (.ref (m + 13)) dX12_grinds_93 tf_12_47 (rk_s hk) (congrArg va_rf (rk_r13 hk)) ?_
            refine e_iload_n dX12_grinds_96 rfl ?_
            refine z_bipush (20) dX12_grinds_97 rfl ?_
            refine e_aload_n dX12_grinds_99 rfl ?_
            refine e_get (.ref (m + 13)) dX12_grinds_100 tf_12_47 (rk_s hk) (congrArg va_rf (rk_r13 hk)) ?_
            refine e_iload_n dX12_grinds_103 rfl ?_
            refine z_ild (ue g k) dX12_grinds_104 (rk_a13 hk) (by decide) (by omega) (by omega) ((congrArg (rI h (m + 13)) (show 6 * s' + k = 6 + k by omega)).trans (rB_ue HB (by omega) (by omega))) ?_
            have y96 := wB_u (rB_w HB) (show 0 ≤ k by omega) (by omega)
            refine z_iconst (5) dX12_grinds_105 rfl ?_
            refine z_iadd dX12_grinds_106 ?_
            refine e_callS [.int _, .int _] dX12_grinds_107 tm_12_340 rfl (Nat.le_of_ble_eq_true rfl) (Nat.le_refl _) (Nat.le_refl _) rfl (zp_X12_lesser 20 ⟨by omega, by omega⟩ ((ue g k) + 5) ⟨by omega, by omega⟩ ?_)
            refine z_ist dX12_grinds_110 (rk_a13 hk) (by decide) (by omega) (by omega) (fun h97 e98 => ?_)
            have f99 := frm_1 e98
            have k100 := rk_q (frm_s f99) hk
            have H101 := rM_c f99 (fun a k q => by omega) HM
            have H102 := rC_c f99 (fun a k q => by omega) HC
            have H103 := rQ_c f99 (fun a k q1 q2 q3 => by omega) HQ
            have FR104 := frm_t FR0 (frm_m (S' := (fun a i => a = m + 11 ∨ a = m + 13)) f99 (fun a k q => by omega))
            have e' := e98
            rw [show 6 * s' + k = 6 + k by omega] at e'
            have NB1 : rB h97 m (setG g (45 + k) (min 20 ((ue g k) + 5))) := rB_setue HB e' (by omega) (by omega) (by omega) (by omega)
            have n1 : nd (setG g (45 + k) (min 20 ((ue g k) + 5))) = nd g := nd_set (by omega)
            have n2 : nu (setG g (45 + k) (min 20 ((ue g k) + 5))) = nu g := nu_set (by omega)
            have x1 : ul (setG g (45 + k) (min 20 ((ue g k) + 5))) k = ul g k := by rw [ul_set, if_neg (by omega)]
            refine e_aload_n dX12_grinds_111 rfl ?_
            refine e_get (.ref (m + 11)) dX12_grinds_112 tf_12_41 (rk_s k100) (congrArg va_rf (rk_r11 k100)) ?_
            refine e_iload_n dX12_grinds_115 rfl ?_
            refine e_dup2 dX12_grinds_116 rfl rfl ?_
            refine z_ild (ul (setG g (45 + k) (min 20 ((ue g k) + 5))) k) dX12_grinds_117 (rk_a11 k100) (by decide) (by omega) (by omega) ((congrArg (rI h97 (m + 11)) (show 6 * s' + k = 6 + k by omega)).trans (rB_ul NB1 (by omega) (by omega))) ?_
            have y105 := wB_u (rB_w NB1) (show 0 ≤ k by omega) (by omega)
            refine z_iconst (1) dX12_grinds_118 rfl ?_
            refine z_isub dX12_grinds_119 ?_
            refine z_ist dX12_grinds_120 (rk_a11 k100) (by decide) (by omega) (by omega) (fun h106 e107 => ?_)
            have f108 := frm_1 e107
            have k109 := rk_q (frm_s f108) k100
            have H110 := rM_c f108 (fun a k q => by omega) H101
            have H111 := rC_c f108 (fun a k q => by omega) H102
            have H112 := rQ_c f108 (fun a k q1 q2 q3 => by omega) H103
            have FR113 := frm_t FR104 (frm_m (S' := (fun a i => a = m + 11 ∨ a = m + 13)) f108 (fun a k q => by omega))
            have e'' := e107
            rw [show 6 * s' + k = 6 + k by omega] at e''
            have NB2 : rB h106 m (setG (setG g (45 + k) (min 20 ((ue g k) + 5))) (33 + k) ((ul (setG g (45 + k) (min 20 ((ue g k) + 5))) k) - 1)) := rB_setul NB1 e'' (by omega) (by omega) (by omega) (by omega)
            have eG : (setG (setG g (45 + k) (min 20 ((ue g k) + 5))) (33 + k) ((ul (setG g (45 + k) (min 20 ((ue g k) + 5))) k) - 1)) = ugG g k := by unfold ugG; rw [x1]
            refine z_iconst (1) dX12_grinds_121 rfl ?_
            refine z_bret dX12_grinds_122 rfl (Or.inr rfl) ⟨rfl, ?_⟩
            have C : gkP g q s' k := Or.inr ⟨by omega, by omega, by omega, by first | exact (fun z => absurd z.1 (by omega)) | exact (fun z => absurd z.2 (by assumption))⟩
            have eC : gkG g q s' k = ugG g k := by unfold gkG; rw [if_pos C, if_neg (by omega)]
            rw [← eG] at eC
            refine z_q1 (kq _ FR113 ?_ ?_ ?_) C
            · rw [eC]; exact NB2
            · rw [eC]; exact rM_setul (rM_setue H110 (by omega) (by omega)) (by omega) (by omega)
            · rw [eC]; exact rC_setul (rC_setue H111 (by omega) (by omega)) (by omega) (by omega)
          · skip
            refine z_iconst (0) dX12_grinds_90 rfl ?_
            refine z_bret dX12_grinds_91 rfl (Or.inl rfl) ⟨rfl, ?_⟩
            have C : ¬ gkP g q s' k := by
              rintro (⟨z0, z1, z2, z3⟩ | ⟨z0, z1, z2, z3⟩) <;> first | omega | exact z3 ⟨by omega, by assumption⟩
            have eC : gkG g q s' k = g := by unfold gkG; rw [if_neg C]
            refine z_q0 (kq _ FR0 ?_ ?_ ?_) C <;> rw [eC] <;> assumption
        · exfalso; omega
    · skip
      refine z_iconst (0) dX12_grinds_23 rfl ?_
      refine z_bret dX12_grinds_24 rfl (Or.inl rfl) ⟨rfl, ?_⟩
      have C : ¬ gkP g q s' k := by
        rintro (⟨z0, z1, z2, z3⟩ | ⟨z0, z1, z2, z3⟩) <;> first | omega | exact z3 ⟨by omega, by assumption⟩
      have eC : gkG g q s' k = g := by unfold gkG; rw [if_neg C]
      refine z_q0 (kq _ FR0 ?_ ?_ ?_) C <;> rw [eC] <;> assumption
  · skip
    skip
    refine e_aload_n dX12_grinds_4 rfl ?_
    refine e_iload_n dX12_grinds_5 rfl ?_
    refine e_callV [.int _] dX12_grinds_6 tm_12_295 rfl (Nat.le_of_ble_eq_true rfl) (rk_s hk) (Nat.le_of_ble_eq_true rfl) (Nat.le_refl _) (Nat.le_refl _) rfl (zp_X12_isDown hk HB k ⟨by omega, by omega⟩ ?_)
    refine z_ifb_ne 25 dX12_grinds_9 rfl (fun c114 => ?_) (fun c114 => ?_)
    · skip
      refine z_bipush (6) dX12_grinds_25 rfl ?_
      refine e_iload_n dX12_grinds_27 rfl ?_
      refine z_imul dX12_grinds_28 ?_
      refine e_iload_n dX12_grinds_29 rfl ?_
      refine z_iadd dX12_grinds_30 ?_
      refine e_istore_n (L' := [_, _, _, _, _]) dX12_grinds_31 (Nat.le_of_ble_eq_true rfl) rfl ?_
      refine e_aload_n dX12_grinds_32 rfl ?_
      refine e_get (.ref (m + 15)) dX12_grinds_33 tf_12_53 (rk_s hk) (congrArg va_rf (rk_r15 hk)) ?_
      refine e_iload_n dX12_grinds_36 rfl ?_
      refine z_ild (dm g k) dX12_grinds_37 (rk_a15 hk) (by decide) (by omega) (by omega) ((congrArg (rI h (m + 15)) (show 6 * s' + k = k by omega)).trans (rM_d HM (by omega) (by omega))) ?_
      have y115 := wM_d (rM_w HM) (show 0 ≤ k by omega) (by omega)
      refine z_iconst (-1) dX12_grinds_38 rfl ?_
      refine z_icmp_ne 46 dX12_grinds_39 rfl ⟨by omega, by omega⟩ ⟨by omega, by omega⟩ (fun c116 => ?_) (fun c116 => ?_)
      · skip
        refine e_iload_n dX12_grinds_46 rfl ?_
        refine z_if_ne 54 dX12_grinds_47 rfl ⟨by omega, by omega⟩ (fun c117 => ?_) (fun c117 => ?_)
        · skip
          refine e_aload_n dX12_grinds_54 rfl ?_
          refine e_get (.ref (m + 15)) dX12_grinds_55 tf_12_53 (rk_s hk) (congrArg va_rf (rk_r15 hk)) ?_
          refine e_iload_n dX12_grinds_58 rfl ?_
          refine z_ild (dm g k) dX12_grinds_59 (rk_a15 hk) (by decide) (by omega) (by omega) ((congrArg (rI h (m + 15)) (show 6 * s' + k = k by omega)).trans (rM_d HM (by omega) (by omega))) ?_
          have y118 := wM_d (rM_w HM) (show 0 ≤ k by omega) (by omega)
          refine e_istore (L' := [_, _, _, _, _]) dX12_grinds_60 (Nat.le_of_ble_eq_true rfl) rfl ?_
          refine e_iload dX12_grinds_62 rfl ?_
          refine z_iconst (-1) dX12_grinds_64 rfl ?_
          refine z_icmp_eq 80 dX12_grinds_65 rfl ⟨by omega, by omega⟩ ⟨by omega, by omega⟩ (fun c119 => ?_) (fun c119 => ?_)
          · skip
            refine e_aload_n dX12_grinds_80 rfl ?_
            refine e_get (.ref (m + 11)) dX12_grinds_81 tf_12_41 (rk_s hk) (congrArg va_rf (rk_r11 hk)) ?_
            refine e_iload_n dX12_grinds_84 rfl ?_
            refine z_ild (dl g k) dX12_grinds_85 (rk_a11 hk) (by decide) (by omega) (by omega) ((congrArg (rI h (m + 11)) (show 6 * s' + k = k by omega)).trans (rB_dl HB (by omega) (by omega))) ?_
            have y120 := wB_d (rB_w HB) (show 0 ≤ k by omega) (by omega)
            refine z_iconst (1) dX12_grinds_86 rfl ?_
            refine z_icmp_ne 92 dX12_grinds_87 rfl ⟨by omega, by omega⟩ ⟨by omega, by omega⟩ (fun c121 => ?_) (fun c121 => ?_)
            · skip
              refine e_aload_n dX12_grinds_92 rfl ?_
              refine e_get (.ref (m + 13)) dX12_grinds_93 tf_12_47 (rk_s hk) (congrArg va_rf (rk_r13 hk)) ?_
              refine e_iload_n dX12_grinds_96 rfl ?_
              refine z_bipush (20) dX12_grinds_97 rfl ?_
              refine e_aload_n dX12_grinds_99 rfl ?_
              refine e_get (.ref (m + 13)) dX12_grinds_100 tf_12_47 (rk_s hk) (congrArg va_rf (rk_r13 hk)) ?_
              refine e_iload_n dX12_grinds_103 rfl ?_
              refine z_ild (de g k) dX12_grinds_104 (rk_a13 hk) (by decide) (by omega) (by omega) ((congrArg (rI h (m + 13)) (show 6 * s' + k = k by omega)).trans (rB_de HB (by omega) (by omega))) ?_
              have y122 := wB_d (rB_w HB) (show 0 ≤ k by omega) (by omega)
              refine z_iconst (5) dX12_grinds_105 rfl ?_
              refine z_iadd dX12_grinds_106 ?_
              refine e_callS [.int _, .int _] dX12_grinds_107 tm_12_340 rfl (Nat.le_of_ble_eq_true rfl) (Nat.le_refl _) (Nat.le_refl _) rfl (zp_X12_lesser 20 ⟨by omega, by omega⟩ ((de g k) + 5) ⟨by omega, by omega⟩ ?_)
              refine z_ist dX12_grinds_110 (rk_a13 hk) (by decide) (by omega) (by omega) (fun h123 e124 => ?_)
              have f125 := frm_1 e124
              have k126 := rk_q (frm_s f125) hk
              have H127 := rM_c f125 (fun a k q => by omega) HM
              have H128 := rC_c f125 (fun a k q => by omega) HC
              have H129 := rQ_c f125 (fun a k q1 q2 q3 => by omega) HQ
              have FR130 := frm_t FR0 (frm_m (S' := (fun a i => a = m + 11 ∨ a = m + 13)) f125 (fun a k q => by omega))
              have e' := e124
              rw [show 6 * s' + k = k by omega] at e'
              have NB1 : rB h123 m (setG g (15 + k) (min 20 ((de g k) + 5))) := rB_setde HB e' (by omega) (by omega) (by omega) (by omega)
              have n1 : nd (setG g (15 + k) (min 20 ((de g k) + 5))) = nd g := nd_set (by omega)
              have n2 : nu (setG g (15 + k) (min 20 ((de g k) + 5))) = nu g := nu_set (by omega)
              have x1 : dl (setG g (15 + k) (min 20 ((de g k) + 5))) k = dl g k := by rw [dl_set, if_neg (by omega)]
              refine e_aload_n dX12_grinds_111 rfl ?_
              refine e_get (.ref (m + 11)) dX12_grinds_112 tf_12_41 (rk_s k126) (congrArg va_rf (rk_r11 k126)) ?_
              refine e_iload_n dX12_grinds_115 rfl ?_
              refine e_dup2 dX12_grinds_116 rfl rfl ?_
              refine z_ild (dl (setG g (15 + k) (min 20 ((de g k) + 5))) k) dX12_grinds_117 (rk_a11 k126) (by decide) (by omega) (by omega) ((congrArg (rI h123 (m + 11)) (show 6 * s' + k = k by omega)).trans (rB_dl NB1 (by omega) (by omega))) ?_
              have y131 := wB_d (rB_w NB1) (show 0 ≤ k by omega) (by omega)
              refine z_iconst (1) dX12_grinds_118 rfl ?_
              refine z_isub dX12_grinds_119 ?_
              refine z_ist dX12_grinds_120 (rk_a11 k126) (by decide) (by omega) (by omega) (fun h132 e133 => ?_)
              have f134 := frm_1 e133
              have k135 := rk_q (frm_s f134) k126
              have H136 := rM_c f134 (fun a k q => by omega) H127
              have H137 := rC_c f134 (fun a k q => by omega) H128
              have H138 := rQ_c f134 (fun a k q1 q2 q3 => by omega) H129
              have FR139 := frm_t FR130 (frm_m (S' := (fun a i => a = m + 11 ∨ a = m + 13)) f134 (fun a k q => by omega))
              have e'' := e133
              rw [show 6 * s' + k = k by omega] at e''
              have NB2 : rB h132 m (setG (setG g (15 + k) (min 20 ((de g k) + 5))) (3 + k) ((dl (setG g (15 + k) (min 20 ((de g k) + 5))) k) - 1)) := rB_setdl NB1 e'' (by omega) (by omega) (by omega) (by omega)
              have eG : (setG (setG g (15 + k) (min 20 ((de g k) + 5))) (3 + k) ((dl (setG g (15 + k) (min 20 ((de g k) + 5))) k) - 1)) = dgG g k := by unfold dgG; rw [x1]
              refine z_iconst (1) dX12_grinds_121 rfl ?_
              refine z_bret dX12_grinds_122 rfl (Or.inr rfl) ⟨rfl, ?_⟩
              have C : gkP g q s' k := Or.inl ⟨by omega, by omega, by omega, by first | exact (fun z => absurd z.1 (by omega)) | exact (fun z => absurd z.2 (by assumption))⟩
              have eC : gkG g q s' k = dgG g k := by unfold gkG; rw [if_pos C, if_pos (by omega)]
              rw [← eG] at eC
              refine z_q1 (kq _ FR139 ?_ ?_ ?_) C
              · rw [eC]; exact NB2
              · rw [eC]; exact rM_setdl (rM_setde H136 (by omega) (by omega)) (by omega) (by omega)
              · rw [eC]; exact rC_setdl (rC_setde H137 (by omega) (by omega)) (by omega) (by omega)
            · skip
              refine z_iconst (0) dX12_grinds_90 rfl ?_
              refine z_bret dX12_grinds_91 rfl (Or.inl rfl) ⟨rfl, ?_⟩
              have C : ¬ gkP g q s' k := by
                rintro (⟨z0, z1, z2, z3⟩ | ⟨z0, z1, z2, z3⟩) <;> first | omega | exact z3 ⟨by omega, by assumption⟩
              have eC : gkG g q s' k = g := by unfold gkG; rw [if_neg C]
              refine z_q0 (kq _ FR0 ?_ ?_ ?_) C <;> rw [eC] <;> assumption
          · skip
            refine e_aload_n dX12_grinds_68 rfl ?_
            refine z_get (q 3) dX12_grinds_69 tf_12_322 (rk_s hk) (Or.inl rfl) HQ.2.2.2.2.1 ?_
            have y140 := wfQ_e HQ.1
            refine e_iload dX12_grinds_72 rfl ?_
            refine e_callS [.int _, .int _] dX12_grinds_74 tm_12_107 rfl (Nat.le_of_ble_eq_true rfl) (Nat.le_refl _) (Nat.le_refl _) rfl (zp_X12_has (q 3) ⟨by omega, by omega⟩ (dm g k) ⟨by omega, by omega⟩ (by omega) (by omega) (by omega) ?_)
            refine z_ifb_ne 90 dX12_grinds_77 rfl (fun c141 => ?_) (fun c141 => ?_)
            · skip
              refine z_iconst (0) dX12_grinds_90 rfl ?_
              refine z_bret dX12_grinds_91 rfl (Or.inl rfl) ⟨rfl, ?_⟩
              have C : ¬ gkP g q s' k := by
                rintro (⟨z0, z1, z2, z3⟩ | ⟨z0, z1, z2, z3⟩) <;> first | omega | exact z3 ⟨by omega, by assumption⟩
              have eC : gkG g q s' k = g := by unfold gkG; rw [if_neg C]
              refine z_q0 (kq _ FR0 ?_ ?_ ?_) C <;> rw [eC] <;> assumption
            · skip
              refine e_aload_n dX12_grinds_80 rfl ?_
              refine e_get (.ref (m + 11)) dX12_grinds_81 tf_12_41 (rk_s hk) (congrArg va_rf (rk_r11 hk)) ?_
              refine e_iload_n dX12_grinds_84 rfl ?_
              refine z_ild (dl g k) dX12_grinds_85 (rk_a11 hk) (by decide) (by omega) (by omega) ((congrArg (rI h (m + 11)) (show 6 * s' + k = k by omega)).trans (rB_dl HB (by omega) (by omega))) ?_
              have y142 := wB_d (rB_w HB) (show 0 ≤ k by omega) (by omega)
              refine z_iconst (1) dX12_grinds_86 rfl ?_
              refine z_icmp_ne 92 dX12_grinds_87 rfl ⟨by omega, by omega⟩ ⟨by omega, by omega⟩ (fun c143 => ?_) (fun c143 => ?_)
              · skip
                refine e_aload_n dX12_grinds_92 rfl ?_
                refine e_get (.ref (m + 13)) dX12_grinds_93 tf_12_47 (rk_s hk) (congrArg va_rf (rk_r13 hk)) ?_
                refine e_iload_n dX12_grinds_96 rfl ?_
                refine z_bipush (20) dX12_grinds_97 rfl ?_
                refine e_aload_n dX12_grinds_99 rfl ?_
                refine e_get (.ref (m + 13)) dX12_grinds_100 tf_12_47 (rk_s hk) (congrArg va_rf (rk_r13 hk)) ?_
                refine e_iload_n dX12_grinds_103 rfl ?_
                refine z_ild (de g k) dX12_grinds_104 (rk_a13 hk) (by decide) (by omega) (by omega) ((congrArg (rI h (m + 13)) (show 6 * s' + k = k by omega)).trans (rB_de HB (by omega) (by omega))) ?_
                have y144 := wB_d (rB_w HB) (show 0 ≤ k by omega) (by omega)
                refine z_iconst (5) dX12_grinds_105 rfl ?_
                refine z_iadd dX12_grinds_106 ?_
                refine e_callS [.int _, .int _] dX12_grinds_107 tm_12_340 rfl (Nat.le_of_ble_eq_true rfl) (Nat.le_refl _) (Nat.le_refl _) rfl (zp_X12_lesser 20 ⟨by omega, by omega⟩ ((de g k) + 5) ⟨by omega, by omega⟩ ?_)
                refine z_ist dX12_grinds_110 (rk_a13 hk) (by decide) (by omega) (by omega) (fun h145 e146 => ?_)
                have f147 := frm_1 e146
                have k148 := rk_q (frm_s f147) hk
                have H149 := rM_c f147 (fun a k q => by omega) HM
                have H150 := rC_c f147 (fun a k q => by omega) HC
                have H151 := rQ_c f147 (fun a k q1 q2 q3 => by omega) HQ
                have FR152 := frm_t FR0 (frm_m (S' := (fun a i => a = m + 11 ∨ a = m + 13)) f147 (fun a k q => by omega))
                have e' := e146
                rw [show 6 * s' + k = k by omega] at e'
                have NB1 : rB h145 m (setG g (15 + k) (min 20 ((de g k) + 5))) := rB_setde HB e' (by omega) (by omega) (by omega) (by omega)
                have n1 : nd (setG g (15 + k) (min 20 ((de g k) + 5))) = nd g := nd_set (by omega)
                have n2 : nu (setG g (15 + k) (min 20 ((de g k) + 5))) = nu g := nu_set (by omega)
                have x1 : dl (setG g (15 + k) (min 20 ((de g k) + 5))) k = dl g k := by rw [dl_set, if_neg (by omega)]
                refine e_aload_n dX12_grinds_111 rfl ?_
                refine e_get (.ref (m + 11)) dX12_grinds_112 tf_12_41 (rk_s k148) (congrArg va_rf (rk_r11 k148)) ?_
                refine e_iload_n dX12_grinds_115 rfl ?_
                refine e_dup2 dX12_grinds_116 rfl rfl ?_
                refine z_ild (dl (setG g (15 + k) (min 20 ((de g k) + 5))) k) dX12_grinds_117 (rk_a11 k148) (by decide) (by omega) (by omega) ((congrArg (rI h145 (m + 11)) (show 6 * s' + k = k by omega)).trans (rB_dl NB1 (by omega) (by omega))) ?_
                have y153 := wB_d (rB_w NB1) (show 0 ≤ k by omega) (by omega)
                refine z_iconst (1) dX12_grinds_118 rfl ?_
                refine z_isub dX12_grinds_119 ?_
                refine z_ist dX12_grinds_120 (rk_a11 k148) (by decide) (by omega) (by omega) (fun h154 e155 => ?_)
                have f156 := frm_1 e155
                have k157 := rk_q (frm_s f156) k148
                have H158 := rM_c f156 (fun a k q => by omega) H149
                have H159 := rC_c f156 (fun a k q => by omega) H150
                have H160 := rQ_c f156 (fun a k q1 q2 q3 => by omega) H151
                have FR161 := frm_t FR152 (frm_m (S' := (fun a i => a = m + 11 ∨ a = m + 13)) f156 (fun a k q => by omega))
                have e'' := e155
                rw [show 6 * s' + k = k by omega] at e''
                have NB2 : rB h154 m (setG (setG g (15 + k) (min 20 ((de g k) + 5))) (3 + k) ((dl (setG g (15 + k) (min 20 ((de g k) + 5))) k) - 1)) := rB_setdl NB1 e'' (by omega) (by omega) (by omega) (by omega)
                have eG : (setG (setG g (15 + k) (min 20 ((de g k) + 5))) (3 + k) ((dl (setG g (15 + k) (min 20 ((de g k) + 5))) k) - 1)) = dgG g k := by unfold dgG; rw [x1]
                refine z_iconst (1) dX12_grinds_121 rfl ?_
                refine z_bret dX12_grinds_122 rfl (Or.inr rfl) ⟨rfl, ?_⟩
                have C : gkP g q s' k := Or.inl ⟨by omega, by omega, by omega, by first | exact (fun z => absurd z.1 (by omega)) | exact (fun z => absurd z.2 (by assumption))⟩
                have eC : gkG g q s' k = dgG g k := by unfold gkG; rw [if_pos C, if_pos (by omega)]
                rw [← eG] at eC
                refine z_q1 (kq _ FR161 ?_ ?_ ?_) C
                · rw [eC]; exact NB2
                · rw [eC]; exact rM_setdl (rM_setde H158 (by omega) (by omega)) (by omega) (by omega)
                · rw [eC]; exact rC_setdl (rC_setde H159 (by omega) (by omega)) (by omega) (by omega)
              · skip
                refine z_iconst (0) dX12_grinds_90 rfl ?_
                refine z_bret dX12_grinds_91 rfl (Or.inl rfl) ⟨rfl, ?_⟩
                have C : ¬ gkP g q s' k := by
                  rintro (⟨z0, z1, z2, z3⟩ | ⟨z0, z1, z2, z3⟩) <;> first | omega | exact z3 ⟨by omega, by assumption⟩
                have eC : gkG g q s' k = g := by unfold gkG; rw [if_neg C]
                refine z_q0 (kq _ FR0 ?_ ?_ ?_) C <;> rw [eC] <;> assumption
        · skip
          refine e_iload_n dX12_grinds_50 rfl ?_
          refine e_goto 60 dX12_grinds_51 rfl ?_
          refine e_istore (L' := [_, _, _, _, _]) dX12_grinds_60 (Nat.le_of_ble_eq_true rfl) rfl ?_
          refine e_iload dX12_grinds_62 rfl ?_
          refine z_iconst (-1) dX12_grinds_64 rfl ?_
          refine z_icmp_eq 80 dX12_grinds_65 rfl ⟨by omega, by omega⟩ ⟨by omega, by omega⟩ (fun c162 => ?_) (fun c162 => ?_)
          · skip
            refine e_aload_n dX12_grinds_80 rfl ?_
            refine e_get (.ref (m + 11)) dX12_grinds_81 tf_12_41 (rk_s hk) (congrArg va_rf (rk_r11 hk)) ?_
            refine e_iload_n dX12_grinds_84 rfl ?_
            refine z_ild (dl g k) dX12_grinds_85 (rk_a11 hk) (by decide) (by omega) (by omega) ((congrArg (rI h (m + 11)) (show 6 * s' + k = k by omega)).trans (rB_dl HB (by omega) (by omega))) ?_
            have y163 := wB_d (rB_w HB) (show 0 ≤ k by omega) (by omega)
            refine z_iconst (1) dX12_grinds_86 rfl ?_
            refine z_icmp_ne 92 dX12_grinds_87 rfl ⟨by omega, by omega⟩ ⟨by omega, by omega⟩ (fun c164 => ?_) (fun c164 => ?_)
            · skip
              refine e_aload_n dX12_grinds_92 rfl ?_
              refine e_get (.ref (m + 13)) dX12_grinds_93 tf_12_47 (rk_s hk) (congrArg va_rf (rk_r13 hk)) ?_
              refine e_iload_n dX12_grinds_96 rfl ?_
              refine z_bipush (20) dX12_grinds_97 rfl ?_
              refine e_aload_n dX12_grinds_99 rfl ?_
              refine e_get (.ref (m + 13)) dX12_grinds_100 tf_12_47 (rk_s hk) (congrArg va_rf (rk_r13 hk)) ?_
              refine e_iload_n dX12_grinds_103 rfl ?_
              refine z_ild (de g k) dX12_grinds_104 (rk_a13 hk) (by decide) (by omega) (by omega) ((congrArg (rI h (m + 13)) (show 6 * s' + k = k by omega)).trans (rB_de HB (by omega) (by omega))) ?_
              have y165 := wB_d (rB_w HB) (show 0 ≤ k by omega) (by omega)
              refine z_iconst (5) dX12_grinds_105 rfl ?_
              refine z_iadd dX12_grinds_106 ?_
              refine e_callS [.int _, .int _] dX12_grinds_107 tm_12_340 rfl (Nat.le_of_ble_eq_true rfl) (Nat.le_refl _) (Nat.le_refl _) rfl (zp_X12_lesser 20 ⟨by omega, by omega⟩ ((de g k) + 5) ⟨by omega, by omega⟩ ?_)
              refine z_ist dX12_grinds_110 (rk_a13 hk) (by decide) (by omega) (by omega) (fun h166 e167 => ?_)
              have f168 := frm_1 e167
              have k169 := rk_q (frm_s f168) hk
              have H170 := rM_c f168 (fun a k q => by omega) HM
              have H171 := rC_c f168 (fun a k q => by omega) HC
              have H172 := rQ_c f168 (fun a k q1 q2 q3 => by omega) HQ
              have FR173 := frm_t FR0 (frm_m (S' := (fun a i => a = m + 11 ∨ a = m + 13)) f168 (fun a k q => by omega))
              have e' := e167
              rw [show 6 * s' + k = k by omega] at e'
              have NB1 : rB h166 m (setG g (15 + k) (min 20 ((de g k) + 5))) := rB_setde HB e' (by omega) (by omega) (by omega) (by omega)
              have n1 : nd (setG g (15 + k) (min 20 ((de g k) + 5))) = nd g := nd_set (by omega)
              have n2 : nu (setG g (15 + k) (min 20 ((de g k) + 5))) = nu g := nu_set (by omega)
              have x1 : dl (setG g (15 + k) (min 20 ((de g k) + 5))) k = dl g k := by rw [dl_set, if_neg (by omega)]
              refine e_aload_n dX12_grinds_111 rfl ?_
              refine e_get (.ref (m + 11)) dX12_grinds_112 tf_12_41 (rk_s k169) (congrArg va_rf (rk_r11 k169)) ?_
              refine e_iload_n dX12_grinds_115 rfl ?_
              refine e_dup2 dX12_grinds_116 rfl rfl ?_
              refine z_ild (dl (setG g (15 + k) (min 20 ((de g k) + 5))) k) dX12_grinds_117 (rk_a11 k169) (by decide) (by omega) (by omega) ((congrArg (rI h166 (m + 11)) (show 6 * s' + k = k by omega)).trans (rB_dl NB1 (by omega) (by omega))) ?_
              have y174 := wB_d (rB_w NB1) (show 0 ≤ k by omega) (by omega)
              refine z_iconst (1) dX12_grinds_118 rfl ?_
              refine z_isub dX12_grinds_119 ?_
              refine z_ist dX12_grinds_120 (rk_a11 k169) (by decide) (by omega) (by omega) (fun h175 e176 => ?_)
              have f177 := frm_1 e176
              have k178 := rk_q (frm_s f177) k169
              have H179 := rM_c f177 (fun a k q => by omega) H170
              have H180 := rC_c f177 (fun a k q => by omega) H171
              have H181 := rQ_c f177 (fun a k q1 q2 q3 => by omega) H172
              have FR182 := frm_t FR173 (frm_m (S' := (fun a i => a = m + 11 ∨ a = m + 13)) f177 (fun a k q => by omega))
              have e'' := e176
              rw [show 6 * s' + k = k by omega] at e''
              have NB2 : rB h175 m (setG (setG g (15 + k) (min 20 ((de g k) + 5))) (3 + k) ((dl (setG g (15 + k) (min 20 ((de g k) + 5))) k) - 1)) := rB_setdl NB1 e'' (by omega) (by omega) (by omega) (by omega)
              have eG : (setG (setG g (15 + k) (min 20 ((de g k) + 5))) (3 + k) ((dl (setG g (15 + k) (min 20 ((de g k) + 5))) k) - 1)) = dgG g k := by unfold dgG; rw [x1]
              refine z_iconst (1) dX12_grinds_121 rfl ?_
              refine z_bret dX12_grinds_122 rfl (Or.inr rfl) ⟨rfl, ?_⟩
              have C : gkP g q s' k := Or.inl ⟨by omega, by omega, by omega, by first | exact (fun z => absurd z.1 (by omega)) | exact (fun z => absurd z.2 (by assumption))⟩
              have eC : gkG g q s' k = dgG g k := by unfold gkG; rw [if_pos C, if_pos (by omega)]
              rw [← eG] at eC
              refine z_q1 (kq _ FR182 ?_ ?_ ?_) C
              · rw [eC]; exact NB2
              · rw [eC]; exact rM_setdl (rM_setde H179 (by omega) (by omega)) (by omega) (by omega)
              · rw [eC]; exact rC_setdl (rC_setde H180 (by omega) (by omega)) (by omega) (by omega)
            · skip
              refine z_iconst (0) dX12_grinds_90 rfl ?_
              refine z_bret dX12_grinds_91 rfl (Or.inl rfl) ⟨rfl, ?_⟩
              have C : ¬ gkP g q s' k := by
                rintro (⟨z0, z1, z2, z3⟩ | ⟨z0, z1, z2, z3⟩) <;> first | omega | exact z3 ⟨by omega, by assumption⟩
              have eC : gkG g q s' k = g := by unfold gkG; rw [if_neg C]
              refine z_q0 (kq _ FR0 ?_ ?_ ?_) C <;> rw [eC] <;> assumption
          · skip
            refine e_aload_n dX12_grinds_68 rfl ?_
            refine z_get (q 3) dX12_grinds_69 tf_12_322 (rk_s hk) (Or.inl rfl) HQ.2.2.2.2.1 ?_
            have y183 := wfQ_e HQ.1
            refine e_iload dX12_grinds_72 rfl ?_
            refine e_callS [.int _, .int _] dX12_grinds_74 tm_12_107 rfl (Nat.le_of_ble_eq_true rfl) (Nat.le_refl _) (Nat.le_refl _) rfl (zp_X12_has (q 3) ⟨by omega, by omega⟩ k ⟨by omega, by omega⟩ (by omega) (by omega) (by omega) ?_)
            refine z_ifb_ne 90 dX12_grinds_77 rfl (fun c184 => ?_) (fun c184 => ?_)
            · skip
              refine z_iconst (0) dX12_grinds_90 rfl ?_
              refine z_bret dX12_grinds_91 rfl (Or.inl rfl) ⟨rfl, ?_⟩
              have C : ¬ gkP g q s' k := by
                rintro (⟨z0, z1, z2, z3⟩ | ⟨z0, z1, z2, z3⟩) <;> first | omega | exact z3 ⟨by omega, by assumption⟩
              have eC : gkG g q s' k = g := by unfold gkG; rw [if_neg C]
              refine z_q0 (kq _ FR0 ?_ ?_ ?_) C <;> rw [eC] <;> assumption
            · skip
              refine e_aload_n dX12_grinds_80 rfl ?_
              refine e_get (.ref (m + 11)) dX12_grinds_81 tf_12_41 (rk_s hk) (congrArg va_rf (rk_r11 hk)) ?_
              refine e_iload_n dX12_grinds_84 rfl ?_
              refine z_ild (dl g k) dX12_grinds_85 (rk_a11 hk) (by decide) (by omega) (by omega) ((congrArg (rI h (m + 11)) (show 6 * s' + k = k by omega)).trans (rB_dl HB (by omega) (by omega))) ?_
              have y185 := wB_d (rB_w HB) (show 0 ≤ k by omega) (by omega)
              refine z_iconst (1) dX12_grinds_86 rfl ?_
              refine z_icmp_ne 92 dX12_grinds_87 rfl ⟨by omega, by omega⟩ ⟨by omega, by omega⟩ (fun c186 => ?_) (fun c186 => ?_)
              · skip
                refine e_aload_n dX12_grinds_92 rfl ?_
                refine e_get (.ref (m + 13)) dX12_grinds_93 tf_12_47 (rk_s hk) (congrArg va_rf (rk_r13 hk)) ?_
                refine e_iload_n dX12_grinds_96 rfl ?_
                refine z_bipush (20) dX12_grinds_97 rfl ?_
                refine e_aload_n dX12_grinds_99 rfl ?_
                refine e_get (.ref (m + 13)) dX12_grinds_100 tf_12_47 (rk_s hk) (congrArg va_rf (rk_r13 hk)) ?_
                refine e_iload_n dX12_grinds_103 rfl ?_
                refine z_ild (de g k) dX12_grinds_104 (rk_a13 hk) (by decide) (by omega) (by omega) ((congrArg (rI h (m + 13)) (show 6 * s' + k = k by omega)).trans (rB_de HB (by omega) (by omega))) ?_
                have y187 := wB_d (rB_w HB) (show 0 ≤ k by omega) (by omega)
                refine z_iconst (5) dX12_grinds_105 rfl ?_
                refine z_iadd dX12_grinds_106 ?_
                refine e_callS [.int _, .int _] dX12_grinds_107 tm_12_340 rfl (Nat.le_of_ble_eq_true rfl) (Nat.le_refl _) (Nat.le_refl _) rfl (zp_X12_lesser 20 ⟨by omega, by omega⟩ ((de g k) + 5) ⟨by omega, by omega⟩ ?_)
                refine z_ist dX12_grinds_110 (rk_a13 hk) (by decide) (by omega) (by omega) (fun h188 e189 => ?_)
                have f190 := frm_1 e189
                have k191 := rk_q (frm_s f190) hk
                have H192 := rM_c f190 (fun a k q => by omega) HM
                have H193 := rC_c f190 (fun a k q => by omega) HC
                have H194 := rQ_c f190 (fun a k q1 q2 q3 => by omega) HQ
                have FR195 := frm_t FR0 (frm_m (S' := (fun a i => a = m + 11 ∨ a = m + 13)) f190 (fun a k q => by omega))
                have e' := e189
                rw [show 6 * s' + k = k by omega] at e'
                have NB1 : rB h188 m (setG g (15 + k) (min 20 ((de g k) + 5))) := rB_setde HB e' (by omega) (by omega) (by omega) (by omega)
                have n1 : nd (setG g (15 + k) (min 20 ((de g k) + 5))) = nd g := nd_set (by omega)
                have n2 : nu (setG g (15 + k) (min 20 ((de g k) + 5))) = nu g := nu_set (by omega)
                have x1 : dl (setG g (15 + k) (min 20 ((de g k) + 5))) k = dl g k := by rw [dl_set, if_neg (by omega)]
                refine e_aload_n dX12_grinds_111 rfl ?_
                refine e_get (.ref (m + 11)) dX12_grinds_112 tf_12_41 (rk_s k191) (congrArg va_rf (rk_r11 k191)) ?_
                refine e_iload_n dX12_grinds_115 rfl ?_
                refine e_dup2 dX12_grinds_116 rfl rfl ?_
                refine z_ild (dl (setG g (15 + k) (min 20 ((de g k) + 5))) k) dX12_grinds_117 (rk_a11 k191) (by decide) (by omega) (by omega) ((congrArg (rI h188 (m + 11)) (show 6 * s' + k = k by omega)).trans (rB_dl NB1 (by omega) (by omega))) ?_
                have y196 := wB_d (rB_w NB1) (show 0 ≤ k by omega) (by omega)
                refine z_iconst (1) dX12_grinds_118 rfl ?_
                refine z_isub dX12_grinds_119 ?_
                refine z_ist dX12_grinds_120 (rk_a11 k191) (by decide) (by omega) (by omega) (fun h197 e198 => ?_)
                have f199 := frm_1 e198
                have k200 := rk_q (frm_s f199) k191
                have H201 := rM_c f199 (fun a k q => by omega) H192
                have H202 := rC_c f199 (fun a k q => by omega) H193
                have H203 := rQ_c f199 (fun a k q1 q2 q3 => by omega) H194
                have FR204 := frm_t FR195 (frm_m (S' := (fun a i => a = m + 11 ∨ a = m + 13)) f199 (fun a k q => by omega))
                have e'' := e198
                rw [show 6 * s' + k = k by omega] at e''
                have NB2 : rB h197 m (setG (setG g (15 + k) (min 20 ((de g k) + 5))) (3 + k) ((dl (setG g (15 + k) (min 20 ((de g k) + 5))) k) - 1)) := rB_setdl NB1 e'' (by omega) (by omega) (by omega) (by omega)
                have eG : (setG (setG g (15 + k) (min 20 ((de g k) + 5))) (3 + k) ((dl (setG g (15 + k) (min 20 ((de g k) + 5))) k) - 1)) = dgG g k := by unfold dgG; rw [x1]
                refine z_iconst (1) dX12_grinds_121 rfl ?_
                refine z_bret dX12_grinds_122 rfl (Or.inr rfl) ⟨rfl, ?_⟩
                have C : gkP g q s' k := Or.inl ⟨by omega, by omega, by omega, by first | exact (fun z => absurd z.1 (by omega)) | exact (fun z => absurd z.2 (by assumption))⟩
                have eC : gkG g q s' k = dgG g k := by unfold gkG; rw [if_pos C, if_pos (by omega)]
                rw [← eG] at eC
                refine z_q1 (kq _ FR204 ?_ ?_ ?_) C
                · rw [eC]; exact NB2
                · rw [eC]; exact rM_setdl (rM_setde H201 (by omega) (by omega)) (by omega) (by omega)
                · rw [eC]; exact rC_setdl (rC_setde H202 (by omega) (by omega)) (by omega) (by omega)
              · skip
                refine z_iconst (0) dX12_grinds_90 rfl ?_
                refine z_bret dX12_grinds_91 rfl (Or.inl rfl) ⟨rfl, ?_⟩
                have C : ¬ gkP g q s' k := by
                  rintro (⟨z0, z1, z2, z3⟩ | ⟨z0, z1, z2, z3⟩) <;> first | omega | exact z3 ⟨by omega, by assumption⟩
                have eC : gkG g q s' k = g := by unfold gkG; rw [if_neg C]
                refine z_q0 (kq _ FR0 ?_ ?_ ?_) C <;> rw [eC] <;> assumption
      · skip
        refine z_iconst (-1) dX12_grinds_42 rfl ?_
        refine e_goto 60 dX12_grinds_43 rfl ?_
        refine e_istore (L' := [_, _, _, _, _]) dX12_grinds_60 (Nat.le_of_ble_eq_true rfl) rfl ?_
        refine e_iload dX12_grinds_62 rfl ?_
        refine z_iconst (-1) dX12_grinds_64 rfl ?_
        refine z_icmp_eq 80 dX12_grinds_65 rfl ⟨by omega, by omega⟩ ⟨by omega, by omega⟩ (fun c205 => ?_) (fun c205 => ?_)
        · skip
          refine e_aload_n dX12_grinds_80 rfl ?_
          refine e_get (.ref (m + 11)) dX12_grinds_81 tf_12_41 (rk_s hk) (congrArg va_rf (rk_r11 hk)) ?_
          refine e_iload_n dX12_grinds_84 rfl ?_
          refine z_ild (dl g k) dX12_grinds_85 (rk_a11 hk) (by decide) (by omega) (by omega) ((congrArg (rI h (m + 11)) (show 6 * s' + k = k by omega)).trans (rB_dl HB (by omega) (by omega))) ?_
          have y206 := wB_d (rB_w HB) (show 0 ≤ k by omega) (by omega)
          refine z_iconst (1) dX12_grinds_86 rfl ?_
          refine z_icmp_ne 92 dX12_grinds_87 rfl ⟨by omega, by omega⟩ ⟨by omega, by omega⟩ (fun c207 => ?_) (fun c207 => ?_)
          · skip
            refine e_aload_n dX12_grinds_92 rfl ?_
            refine e_get (.ref (m + 13)) dX12_grinds_93 tf_12_47 (rk_s hk) (congrArg va_rf (rk_r13 hk)) ?_
            refine e_iload_n dX12_grinds_96 rfl ?_
            refine z_bipush (20) dX12_grinds_97 rfl ?_
            refine e_aload_n dX12_grinds_99 rfl ?_
            refine e_get (.ref (m + 13)) dX12_grinds_100 tf_12_47 (rk_s hk) (congrArg va_rf (rk_r13 hk)) ?_
            refine e_iload_n dX12_grinds_103 rfl ?_
            refine z_ild (de g k) dX12_grinds_104 (rk_a13 hk) (by decide) (by omega) (by omega) ((congrArg (rI h (m + 13)) (show 6 * s' + k = k by omega)).trans (rB_de HB (by omega) (by omega))) ?_
            have y208 := wB_d (rB_w HB) (show 0 ≤ k by omega) (by omega)
            refine z_iconst (5) dX12_grinds_105 rfl ?_
            refine z_iadd dX12_grinds_106 ?_
            refine e_callS [.int _, .int _] dX12_grinds_107 tm_12_340 rfl (Nat.le_of_ble_eq_true rfl) (Nat.le_refl _) (Nat.le_refl _) rfl (zp_X12_lesser 20 ⟨by omega, by omega⟩ ((de g k) + 5) ⟨by omega, by omega⟩ ?_)
            refine z_ist dX12_grinds_110 (rk_a13 hk) (by decide) (by omega) (by omega) (fun h209 e210 => ?_)
            have f211 := frm_1 e210
            have k212 := rk_q (frm_s f211) hk
            have H213 := rM_c f211 (fun a k q => by omega) HM
            have H214 := rC_c f211 (fun a k q => by omega) HC
            have H215 := rQ_c f211 (fun a k q1 q2 q3 => by omega) HQ
            have FR216 := frm_t FR0 (frm_m (S' := (fun a i => a = m + 11 ∨ a = m + 13)) f211 (fun a k q => by omega))
            have e' := e210
            rw [show 6 * s' + k = k by omega] at e'
            have NB1 : rB h209 m (setG g (15 + k) (min 20 ((de g k) + 5))) := rB_setde HB e' (by omega) (by omega) (by omega) (by omega)
            have n1 : nd (setG g (15 + k) (min 20 ((de g k) + 5))) = nd g := nd_set (by omega)
            have n2 : nu (setG g (15 + k) (min 20 ((de g k) + 5))) = nu g := nu_set (by omega)
            have x1 : dl (setG g (15 + k) (min 20 ((de g k) + 5))) k = dl g k := by rw [dl_set, if_neg (by omega)]
            refine e_aload_n dX12_grinds_111 rfl ?_
            refine e_get (.ref (m + 11)) dX12_grinds_112 tf_12_41 (rk_s k212) (congrArg va_rf (rk_r11 k212)) ?_
            refine e_iload_n dX12_grinds_115 rfl ?_
            refine e_dup2 dX12_grinds_116 rfl rfl ?_
            refine z_ild (dl (setG g (15 + k) (min 20 ((de g k) + 5))) k) dX12_grinds_117 (rk_a11 k212) (by decide) (by omega) (by omega) ((congrArg (rI h209 (m + 11)) (show 6 * s' + k = k by omega)).trans (rB_dl NB1 (by omega) (by omega))) ?_
            have y217 := wB_d (rB_w NB1) (show 0 ≤ k by omega) (by omega)
            refine z_iconst (1) dX12_grinds_118 rfl ?_
            refine z_isub dX12_grinds_119 ?_
            refine z_ist dX12_grinds_120 (rk_a11 k212) (by decide) (by omega) (by omega) (fun h218 e219 => ?_)
            have f220 := frm_1 e219
            have k221 := rk_q (frm_s f220) k212
            have H222 := rM_c f220 (fun a k q => by omega) H213
            have H223 := rC_c f220 (fun a k q => by omega) H214
            have H224 := rQ_c f220 (fun a k q1 q2 q3 => by omega) H215
            have FR225 := frm_t FR216 (frm_m (S' := (fun a i => a = m + 11 ∨ a = m + 13)) f220 (fun a k q => by omega))
            have e'' := e219
            rw [show 6 * s' + k = k by omega] at e''
            have NB2 : rB h218 m (setG (setG g (15 + k) (min 20 ((de g k) + 5))) (3 + k) ((dl (setG g (15 + k) (min 20 ((de g k) + 5))) k) - 1)) := rB_setdl NB1 e'' (by omega) (by omega) (by omega) (by omega)
            have eG : (setG (setG g (15 + k) (min 20 ((de g k) + 5))) (3 + k) ((dl (setG g (15 + k) (min 20 ((de g k) + 5))) k) - 1)) = dgG g k := by unfold dgG; rw [x1]
            refine z_iconst (1) dX12_grinds_121 rfl ?_
            refine z_bret dX12_grinds_122 rfl (Or.inr rfl) ⟨rfl, ?_⟩
            have C : gkP g q s' k := Or.inl ⟨by omega, by omega, by omega, by first | exact (fun z => absurd z.1 (by omega)) | exact (fun z => absurd z.2 (by assumption))⟩
            have eC : gkG g q s' k = dgG g k := by unfold gkG; rw [if_pos C, if_pos (by omega)]
            rw [← eG] at eC
            refine z_q1 (kq _ FR225 ?_ ?_ ?_) C
            · rw [eC]; exact NB2
            · rw [eC]; exact rM_setdl (rM_setde H222 (by omega) (by omega)) (by omega) (by omega)
            · rw [eC]; exact rC_setdl (rC_setde H223 (by omega) (by omega)) (by omega) (by omega)
          · skip
            refine z_iconst (0) dX12_grinds_90 rfl ?_
            refine z_bret dX12_grinds_91 rfl (Or.inl rfl) ⟨rfl, ?_⟩
            have C : ¬ gkP g q s' k := by
              rintro (⟨z0, z1, z2, z3⟩ | ⟨z0, z1, z2, z3⟩) <;> first | omega | exact z3 ⟨by omega, by assumption⟩
            have eC : gkG g q s' k = g := by unfold gkG; rw [if_neg C]
            refine z_q0 (kq _ FR0 ?_ ?_ ?_) C <;> rw [eC] <;> assumption
        · exfalso; omega
    · skip
      refine e_goto 23 dX12_grinds_12 rfl ?_
      refine z_iconst (0) dX12_grinds_23 rfl ?_
      refine z_bret dX12_grinds_24 rfl (Or.inl rfl) ⟨rfl, ?_⟩
      have C : ¬ gkP g q s' k := by
        rintro (⟨z0, z1, z2, z3⟩ | ⟨z0, z1, z2, z3⟩) <;> first | omega | exact z3 ⟨by omega, by assumption⟩
      have eC : gkG g q s' k = g := by unfold gkG; rw [if_neg C]
      refine z_q0 (kq _ FR0 ?_ ?_ ?_) C <;> rw [eC] <;> assumption
set_option maxHeartbeats 2000000 in
theorem zp_X12_dayEnds {ad : mA} {dd : Nat} {h : mH} {Q : mQ} {m : Nat} {g q : Int → Int} {n : Int} (hk : rk h m) (HB : rB h m g) (HM : rM h m g) (HC : rC h m g) (HQ : rQ h m q n)   (pn : n < 1000) (kq : ∀ h1, frm (fun a i => a = m + 13 ∨ (a = m ∧ (i = 33 ∨ (36 ≤ i ∧ i ≤ 38)))) h h1 → (rB h1 m (dyG g q)) → (rM h1 m (dyG g q)) → (rC h1 m (dyG g q)) → (rQ h1 m (dyQ q) (n + 1)) → Q (some (.int (zI (bZ (q 0 < 99))))) h1) : mCal TB0 ad (dd + 3) M_X12_dayEnds [.ref m] h 0 0 Q := by
  refine ⟨Nat.le_of_ble_eq_true rfl, ?_⟩
  show mEv TB0 ad M_X12_dayEnds (dd + 3) (0, 0) (mCal TB0 ad (dd + 2)) (fun v h' z => z.1 = 0 ∧ Q v h') 0 [some (.ref m), none] [] h (0, 0)
  have FR0 : frm (fun a i => a = m + 13 ∨ (a = m ∧ (i = 33 ∨ (36 ≤ i ∧ i ≤ 38)))) h h := frm_0 h
  have w1 := rB_n HB
  have w2 := rB_nd HB
  have w3 := rB_nu HB
  have wq := wfQ_e HQ.1
  refine e_aload_n dX12_dayEnds_0 rfl ?_
  refine z_get (q 0) dX12_dayEnds_1 tf_12_313 (rk_s hk) (Or.inl rfl) HQ.2.1 ?_
  have y1 := wfQ_e HQ.1
  refine z_bipush (99) dX12_dayEnds_4 rfl ?_
  refine z_icmp_ne 11 dX12_dayEnds_6 rfl ⟨by omega, by omega⟩ ⟨by omega, by omega⟩ (fun c2 => ?_) (fun c2 => ?_)
  · skip
    refine z_iconst (0) dX12_dayEnds_11 rfl ?_
    refine e_istore_n (L' := [_, _]) dX12_dayEnds_12 (Nat.le_of_ble_eq_true rfl) rfl ?_
    have lp3 : ∀ (n3 : Nat) (i : Int) (h3 : mH), (12 - i).toNat = n3 → (rk h3 m) → (rM h3 m g) → (rC h3 m g) → (rQ h3 m q n) → (frm (fun a i => a = m + 13 ∨ (a = m ∧ (i = 33 ∨ (36 ≤ i ∧ i ≤ 38)))) h h3) → (0 ≤ i) → (i ≤ 12) → (∀ j : Int, 0 ≤ j → j < 12 → -2147483648 < rI h (m + 13) j → rI h3 (m + 13) j = if j < i ∧ ¬ hasZ (orZ (q 6 + 64 * q 7) (q 4 + 64 * q 5)) j then max 0 (rI h (m + 13) j - 1) else rI h (m + 13) j) → (frm (fun a _ => a = m + 13) h h3) → mEv TB0 ad M_X12_dayEnds (dd + 3) (0, 0) (mCal TB0 ad (dd + 2)) (fun v h' z => z.1 = 0 ∧ Q v h') 13 [some (.ref m), some (.int (zI i))] [] h3 (0, 0) := by
      intro n3
      induction n3 using Nat.strongRecOn with
      | ind n3 ih3 =>
      intro i h3 hn3 k4 H5 H6 H7 FR8 I1 I2 I3 I4
      refine e_iload_n dX12_dayEnds_13 rfl ?_
      refine z_bipush (12) dX12_dayEnds_14 rfl ?_
      refine z_icmp_ge 46 dX12_dayEnds_16 rfl ⟨by omega, by omega⟩ ⟨by omega, by omega⟩ (fun c9 => ?_) (fun c9 => ?_)
      · skip
        skip
        refine e_aload_n dX12_dayEnds_46 rfl ?_
        refine z_iconst (0) dX12_dayEnds_47 rfl ?_
        refine z_put dX12_dayEnds_48 tf_12_322 (rk_s k4) rfl (Or.inl rfl) (fun h10 e11 => ?_)
        have f12 := frm_1 e11
        have k13 := rk_q (frm_s f12) k4
        have H14 := rM_c f12 (fun a k q => by omega) H5
        have H15 := rC_c f12 (fun a k q => by omega) H6
        have FR16 := frm_t FR8 (frm_m (S' := (fun a i => a = m + 13 ∨ (a = m ∧ (i = 33 ∨ (36 ≤ i ∧ i ≤ 38))))) f12 (fun a k q => by omega))
        refine e_aload_n dX12_dayEnds_51 rfl ?_
        refine z_iconst (0) dX12_dayEnds_52 rfl ?_
        refine z_put dX12_dayEnds_53 tf_12_325 (rk_s k13) rfl (Or.inl rfl) (fun h17 e18 => ?_)
        have f19 := frm_1 e18
        have k20 := rk_q (frm_s f19) k13
        have H21 := rM_c f19 (fun a k q => by omega) H14
        have H22 := rC_c f19 (fun a k q => by omega) H15
        have FR23 := frm_t FR16 (frm_m (S' := (fun a i => a = m + 13 ∨ (a = m ∧ (i = 33 ∨ (36 ≤ i ∧ i ≤ 38))))) f19 (fun a k q => by omega))
        refine e_aload_n dX12_dayEnds_56 rfl ?_
        refine z_iconst (0) dX12_dayEnds_57 rfl ?_
        refine z_put dX12_dayEnds_58 tf_12_328 (rk_s k20) rfl (Or.inl rfl) (fun h24 e25 => ?_)
        have f26 := frm_1 e25
        have k27 := rk_q (frm_s f26) k20
        have H28 := rM_c f26 (fun a k q => by omega) H21
        have H29 := rC_c f26 (fun a k q => by omega) H22
        have FR30 := frm_t FR23 (frm_m (S' := (fun a i => a = m + 13 ∨ (a = m ∧ (i = 33 ∨ (36 ≤ i ∧ i ≤ 38))))) f26 (fun a k q => by omega))
        refine e_aload_n dX12_dayEnds_61 rfl ?_
        refine e_dup dX12_dayEnds_62 rfl ?_
        refine z_get (q 0) dX12_dayEnds_63 tf_12_313 (rk_s k27) (Or.inl rfl) (((frm_r f26 (by omega)).trans ((frm_r f19 (by omega)).trans (frm_r f12 (by omega)))).trans H7.2.1) ?_
        refine z_iconst (1) dX12_dayEnds_66 rfl ?_
        refine z_iadd dX12_dayEnds_67 ?_
        refine z_put dX12_dayEnds_68 tf_12_313 (rk_s k27) rfl (Or.inl rfl) (fun h31 e32 => ?_)
        have f33 := frm_1 e32
        have k34 := rk_q (frm_s f33) k27
        have H35 := rM_c f33 (fun a k q => by omega) H28
        have H36 := rC_c f33 (fun a k q => by omega) H29
        have FR37 := frm_t FR30 (frm_m (S' := (fun a i => a = m + 13 ∨ (a = m ∧ (i = 33 ∨ (36 ≤ i ∧ i ≤ 38))))) f33 (fun a k q => by omega))
        refine z_iconst (1) dX12_dayEnds_71 rfl ?_
        refine z_bret dX12_dayEnds_72 rfl (Or.inr rfl) ⟨rfl, ?_⟩
        have C : q 0 < 99 := by omega
        have eG : dyG g q = rstG g (orZ (q 6) (q 4)) (orZ (q 7) (q 5)) := by unfold dyG; rw [if_pos C]
        have o1 := orZ_b (q 6) (q 4)
        have o2 := orZ_b (q 7) (q 5)
        have hb : rB h3 m (rstG g (orZ (q 6) (q 4)) (orZ (q 7) (q 5))) := rB_rst HB I4 (by omega) (by omega) (fun j a c z => by
          refine (I3 j a c z).trans ?_
          rw [← or_2 (by omega) (by omega) (by omega) (by omega)]
          by_cases x : hasZ (orZ (q 6 + 64 * q 7) (q 4 + 64 * q 5)) j
          · rw [if_neg (fun u => u.2 x), if_neg (fun u => u x)]
          · rw [if_pos ⟨by omega, x⟩, if_pos x])
        refine z_q1 (kq _ FR37 ?_ ?_ ?_ ?_) C
        · rw [eG]; exact rB_c f33 (fun a k q => by omega) (rB_c f26 (fun a k q => by omega) (rB_c f19 (fun a k q => by omega) (rB_c f12 (fun a k q => by omega) hb)))
        · rw [eG]; exact rM_rst (rB_w HB) H35
        · rw [eG]; exact rC_rst (rB_w HB) H36
        · unfold dyQ; rw [if_pos C]; exact ⟨wfQ_day HQ.1 pn C, (show rI h31 m 33 = ((q 0) + 1) from (rI_eq e32 ⟨by omega, by omega⟩)), (((frm_r f33 (by omega)).trans ((frm_r f26 (by omega)).trans ((frm_r f19 (by omega)).trans (frm_r f12 (by omega)))))).trans H7.2.2.1, (((frm_r f33 (by omega)).trans ((frm_r f26 (by omega)).trans ((frm_r f19 (by omega)).trans (frm_r f12 (by omega)))))).trans H7.2.2.2.1, (show rI h31 m 36 = 0 from (((frm_r f33 (by omega)).trans ((frm_r f26 (by omega)).trans (frm_r f19 (by omega)))).trans (rI_eq e11 ⟨by omega, by omega⟩))), (show rI h31 m 37 = 0 from (((frm_r f33 (by omega)).trans (frm_r f26 (by omega))).trans (rI_eq e18 ⟨by omega, by omega⟩))), (show rI h31 m 38 = 0 from ((frm_r f33 (by omega)).trans (rI_eq e25 ⟨by omega, by omega⟩)))⟩
      · skip
        refine e_aload_n dX12_dayEnds_19 rfl ?_
        refine z_get (q 6 + 64 * q 7) dX12_dayEnds_20 tf_12_328 (rk_s k4) (Or.inl rfl) H7.2.2.2.2.2.2 ?_
        have y38 := wfQ_e H7.1
        refine e_aload_n dX12_dayEnds_23 rfl ?_
        refine z_get (q 4 + 64 * q 5) dX12_dayEnds_24 tf_12_325 (rk_s k4) (Or.inl rfl) H7.2.2.2.2.2.1 ?_
        have y39 := wfQ_e H7.1
        refine z_ior dX12_dayEnds_27 (by omega) (by omega) (by omega) (by omega) ?_
        have y40 := orZ_b (q 6 + 64 * q 7) (q 4 + 64 * q 5)
        refine e_iload_n dX12_dayEnds_28 rfl ?_
        refine e_callS [.int _, .int _] dX12_dayEnds_29 tm_12_107 rfl (Nat.le_of_ble_eq_true rfl) (Nat.le_refl _) (Nat.le_refl _) rfl (zp_X12_has (orZ (q 6 + 64 * q 7) (q 4 + 64 * q 5)) ⟨by omega, by omega⟩ i ⟨by omega, by omega⟩ (by omega) (by omega) (by omega) ?_)
        refine z_ifb_ne 40 dX12_dayEnds_32 rfl (fun c41 => ?_) (fun c41 => ?_)
        · skip
          refine z_iinc (L' := [_, _]) dX12_dayEnds_40 rfl rfl ?_
          refine e_goto 13 dX12_dayEnds_43 rfl ?_
          exact ih3 _ (by omega) (i + 1) h3 rfl k4 H5 H6 H7 FR8 (by omega) (by omega) (fun j a c z => by
                    refine (I3 j a c z).trans ?_
                    by_cases y : j = i
                    · subst y
                      rw [if_neg (by omega), if_neg (fun u => u.2 (by assumption))]
                    · by_cases x : j < i ∧ ¬ hasZ (orZ (q 6 + 64 * q 7) (q 4 + 64 * q 5)) j
                      · rw [if_pos x, if_pos ⟨by omega, x.2⟩]
                      · rw [if_neg x, if_neg (fun u => x ⟨by omega, u.2⟩)]) I4
        · skip
          refine e_aload_n dX12_dayEnds_35 rfl ?_
          refine e_iload_n dX12_dayEnds_36 rfl ?_
          refine e_callV [.int _] dX12_dayEnds_37 tm_12_337 rfl (Nat.le_of_ble_eq_true rfl) (rk_s k4) (Nat.le_of_ble_eq_true rfl) (Nat.le_refl _) (Nat.le_refl _) rfl (zp_X12_blunts k4 i ⟨by omega, by omega⟩ (by omega) (fun  h42 f43 p44 => ?_))
          have k45 := rk_q (frm_s f43) k4
          have H46 := rM_c f43 (fun a k q => by omega) H5
          have H47 := rC_c f43 (fun a k q => by omega) H6
          have H48 := rQ_c f43 (fun a k q1 q2 q3 => by omega) H7
          have FR49 := frm_t FR8 (frm_m (S' := (fun a i => a = m + 13 ∨ (a = m ∧ (i = 33 ∨ (36 ≤ i ∧ i ≤ 38))))) f43 (fun a k q => by omega))
          skip
          refine z_iinc (L' := [_, _]) dX12_dayEnds_40 rfl rfl ?_
          refine e_goto 13 dX12_dayEnds_43 rfl ?_
          exact ih3 _ (by omega) (i + 1) h42 rfl k45 H46 H47 H48 FR49 (by omega) (by omega) (fun j a c z => by
                    by_cases y : j = i
                    · subst y
                      have e0 : rI h3 (m + 13) j = rI h (m + 13) j := (I3 j a c z).trans (if_neg (by omega))
                      rw [if_pos ⟨by omega, by assumption⟩, ← e0]
                      exact p44 (by rw [e0]; exact z)
                    · refine (((frm_r f43 (by omega))).trans (I3 j a c z)).trans ?_
                      by_cases x : j < i ∧ ¬ hasZ (orZ (q 6 + 64 * q 7) (q 4 + 64 * q 5)) j
                      · rw [if_pos x, if_pos ⟨by omega, x.2⟩]
                      · rw [if_neg x, if_neg (fun u => x ⟨by omega, u.2⟩)]) (frm_t I4 (frm_m f43 (fun a k q => by omega)))
    exact lp3 _ 0 h rfl hk HM HC HQ FR0 (by omega) (by omega) (fun j a c z => (if_neg (by omega)).symm) (frm_0 h)
  · skip
    refine z_iconst (0) dX12_dayEnds_9 rfl ?_
    refine z_bret dX12_dayEnds_10 rfl (Or.inl rfl) ⟨rfl, ?_⟩
    have C : ¬ q 0 < 99 := by omega
    have eG : dyG g q = g := by unfold dyG; rw [if_neg C]
    refine z_q0 (kq _ FR0 ?_ ?_ ?_ ?_) C
    · rw [eG]; assumption
    · rw [eG]; assumption
    · rw [eG]; assumption
    · unfold dyQ; rw [if_neg C]; exact rQ_1 HQ pn

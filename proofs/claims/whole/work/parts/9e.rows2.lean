/-! ROWS: the reference's small words -/
theorem dX12_isLiked_0 : decode cX12_isLiked 0 = .ok (.iload_n 3, 1) := by decide +kernel
theorem dX12_isLiked_1 : decode cX12_isLiked 1 = .ok (.bipush 6, 2) := by decide +kernel
theorem dX12_isLiked_3 : decode cX12_isLiked 3 = .ok (.if_icmp .ne 7, 3) := by decide +kernel
theorem dX12_isLiked_6 : decode cX12_isLiked 6 = .ok (.iconst 1, 1) := by decide +kernel
theorem dX12_isLiked_7 : decode cX12_isLiked 7 = .ok (.goto 16, 3) := by decide +kernel
theorem dX12_isLiked_10 : decode cX12_isLiked 10 = .ok (.aload_n 0, 1) := by decide +kernel
theorem dX12_isLiked_11 : decode cX12_isLiked 11 = .ok (.iload_n 2, 1) := by decide +kernel
theorem dX12_isLiked_12 : decode cX12_isLiked 12 = .ok (.iload_n 1, 1) := by decide +kernel
theorem dX12_isLiked_13 : decode cX12_isLiked 13 = .ok (.invokevirtual 283, 3) := by decide +kernel
theorem dX12_isLiked_16 : decode cX12_isLiked 16 = .ok (.aload_n 0, 1) := by decide +kernel
theorem dX12_isLiked_17 : decode cX12_isLiked 17 = .ok (.iload_n 3, 1) := by decide +kernel
theorem dX12_isLiked_18 : decode cX12_isLiked 18 = .ok (.iload_n 1, 1) := by decide +kernel
theorem dX12_isLiked_19 : decode cX12_isLiked 19 = .ok (.invokevirtual 283, 3) := by decide +kernel
theorem dX12_isLiked_22 : decode cX12_isLiked 22 = .ok (.isub, 1) := by decide +kernel
theorem dX12_isLiked_23 : decode cX12_isLiked 23 = .ok (.istore 4, 2) := by decide +kernel
theorem dX12_isLiked_25 : decode cX12_isLiked 25 = .ok (.iload 4, 2) := by decide +kernel
theorem dX12_isLiked_27 : decode cX12_isLiked 27 = .ok (.ifCond .gt 13, 3) := by decide +kernel
theorem dX12_isLiked_30 : decode cX12_isLiked 30 = .ok (.iload 4, 2) := by decide +kernel
theorem dX12_isLiked_32 : decode cX12_isLiked 32 = .ok (.ifCond .ne 12, 3) := by decide +kernel
theorem dX12_isLiked_35 : decode cX12_isLiked 35 = .ok (.iload_n 2, 1) := by decide +kernel
theorem dX12_isLiked_36 : decode cX12_isLiked 36 = .ok (.iload_n 3, 1) := by decide +kernel
theorem dX12_isLiked_37 : decode cX12_isLiked 37 = .ok (.if_icmp .ge 7, 3) := by decide +kernel
theorem dX12_isLiked_40 : decode cX12_isLiked 40 = .ok (.iconst 1, 1) := by decide +kernel
theorem dX12_isLiked_41 : decode cX12_isLiked 41 = .ok (.goto 4, 3) := by decide +kernel
theorem dX12_isLiked_44 : decode cX12_isLiked 44 = .ok (.iconst 0, 1) := by decide +kernel
theorem dX12_isLiked_45 : decode cX12_isLiked 45 = .ok (.ireturn, 1) := by decide +kernel
theorem dX12_layOthers_0 : decode cX12_layOthers 0 = .ok (.iconst 0, 1) := by decide +kernel
theorem dX12_layOthers_1 : decode cX12_layOthers 1 = .ok (.istore_n 1, 1) := by decide +kernel
theorem dX12_layOthers_2 : decode cX12_layOthers 2 = .ok (.iload_n 1, 1) := by decide +kernel
theorem dX12_layOthers_3 : decode cX12_layOthers 3 = .ok (.bipush 6, 2) := by decide +kernel
theorem dX12_layOthers_5 : decode cX12_layOthers 5 = .ok (.if_icmp .ge 17, 3) := by decide +kernel
theorem dX12_layOthers_8 : decode cX12_layOthers 8 = .ok (.aload_n 0, 1) := by decide +kernel
theorem dX12_layOthers_9 : decode cX12_layOthers 9 = .ok (.getfield 62, 3) := by decide +kernel
theorem dX12_layOthers_12 : decode cX12_layOthers 12 = .ok (.iload_n 1, 1) := by decide +kernel
theorem dX12_layOthers_13 : decode cX12_layOthers 13 = .ok (.bipush 6, 2) := by decide +kernel
theorem dX12_layOthers_15 : decode cX12_layOthers 15 = .ok (.iastore, 1) := by decide +kernel
theorem dX12_layOthers_16 : decode cX12_layOthers 16 = .ok (.iinc 1 1, 3) := by decide +kernel
theorem dX12_layOthers_19 : decode cX12_layOthers 19 = .ok (.goto (-17), 3) := by decide +kernel
theorem dX12_layOthers_22 : decode cX12_layOthers 22 = .ok (.iconst 0, 1) := by decide +kernel
theorem dX12_layOthers_23 : decode cX12_layOthers 23 = .ok (.istore_n 1, 1) := by decide +kernel
theorem dX12_layOthers_24 : decode cX12_layOthers 24 = .ok (.iload_n 1, 1) := by decide +kernel
theorem dX12_layOthers_25 : decode cX12_layOthers 25 = .ok (.aload_n 0, 1) := by decide +kernel
theorem dX12_layOthers_26 : decode cX12_layOthers 26 = .ok (.getfield 271, 3) := by decide +kernel
theorem dX12_layOthers_29 : decode cX12_layOthers 29 = .ok (.if_icmp .ge 32, 3) := by decide +kernel
theorem dX12_layOthers_32 : decode cX12_layOthers 32 = .ok (.aload_n 0, 1) := by decide +kernel
theorem dX12_layOthers_33 : decode cX12_layOthers 33 = .ok (.getfield 56, 3) := by decide +kernel
theorem dX12_layOthers_36 : decode cX12_layOthers 36 = .ok (.iload_n 1, 1) := by decide +kernel
theorem dX12_layOthers_37 : decode cX12_layOthers 37 = .ok (.iaload, 1) := by decide +kernel
theorem dX12_layOthers_38 : decode cX12_layOthers 38 = .ok (.bipush 6, 2) := by decide +kernel
theorem dX12_layOthers_40 : decode cX12_layOthers 40 = .ok (.if_icmp .ge 15, 3) := by decide +kernel
theorem dX12_layOthers_43 : decode cX12_layOthers 43 = .ok (.aload_n 0, 1) := by decide +kernel
theorem dX12_layOthers_44 : decode cX12_layOthers 44 = .ok (.getfield 62, 3) := by decide +kernel
theorem dX12_layOthers_47 : decode cX12_layOthers 47 = .ok (.aload_n 0, 1) := by decide +kernel
theorem dX12_layOthers_48 : decode cX12_layOthers 48 = .ok (.getfield 56, 3) := by decide +kernel
theorem dX12_layOthers_51 : decode cX12_layOthers 51 = .ok (.iload_n 1, 1) := by decide +kernel
theorem dX12_layOthers_52 : decode cX12_layOthers 52 = .ok (.iaload, 1) := by decide +kernel
theorem dX12_layOthers_53 : decode cX12_layOthers 53 = .ok (.iload_n 1, 1) := by decide +kernel
theorem dX12_layOthers_54 : decode cX12_layOthers 54 = .ok (.iastore, 1) := by decide +kernel
theorem dX12_layOthers_55 : decode cX12_layOthers 55 = .ok (.iinc 1 1, 3) := by decide +kernel
theorem dX12_layOthers_58 : decode cX12_layOthers 58 = .ok (.goto (-34), 3) := by decide +kernel
theorem dX12_layOthers_61 : decode cX12_layOthers 61 = .ok (.return_, 1) := by decide +kernel
theorem dX12_wouldLeave_0 : decode cX12_wouldLeave 0 = .ok (.aload_n 0, 1) := by decide +kernel
theorem dX12_wouldLeave_1 : decode cX12_wouldLeave 1 = .ok (.getfield 56, 3) := by decide +kernel
theorem dX12_wouldLeave_4 : decode cX12_wouldLeave 4 = .ok (.iload_n 1, 1) := by decide +kernel
theorem dX12_wouldLeave_5 : decode cX12_wouldLeave 5 = .ok (.iaload, 1) := by decide +kernel
theorem dX12_wouldLeave_6 : decode cX12_wouldLeave 6 = .ok (.iload_n 2, 1) := by decide +kernel
theorem dX12_wouldLeave_7 : decode cX12_wouldLeave 7 = .ok (.if_icmp .eq 37, 3) := by decide +kernel
theorem dX12_wouldLeave_10 : decode cX12_wouldLeave 10 = .ok (.aload_n 0, 1) := by decide +kernel
theorem dX12_wouldLeave_11 : decode cX12_wouldLeave 11 = .ok (.iload_n 1, 1) := by decide +kernel
theorem dX12_wouldLeave_12 : decode cX12_wouldLeave 12 = .ok (.iload_n 2, 1) := by decide +kernel
theorem dX12_wouldLeave_13 : decode cX12_wouldLeave 13 = .ok (.aload_n 0, 1) := by decide +kernel
theorem dX12_wouldLeave_14 : decode cX12_wouldLeave 14 = .ok (.getfield 56, 3) := by decide +kernel
theorem dX12_wouldLeave_17 : decode cX12_wouldLeave 17 = .ok (.iload_n 1, 1) := by decide +kernel
theorem dX12_wouldLeave_18 : decode cX12_wouldLeave 18 = .ok (.iaload, 1) := by decide +kernel
theorem dX12_wouldLeave_19 : decode cX12_wouldLeave 19 = .ok (.invokevirtual 382, 3) := by decide +kernel
theorem dX12_wouldLeave_22 : decode cX12_wouldLeave 22 = .ok (.ifCond .eq 22, 3) := by decide +kernel
theorem dX12_wouldLeave_25 : decode cX12_wouldLeave 25 = .ok (.aload_n 0, 1) := by decide +kernel
theorem dX12_wouldLeave_26 : decode cX12_wouldLeave 26 = .ok (.iload_n 2, 1) := by decide +kernel
theorem dX12_wouldLeave_27 : decode cX12_wouldLeave 27 = .ok (.iload_n 1, 1) := by decide +kernel
theorem dX12_wouldLeave_28 : decode cX12_wouldLeave 28 = .ok (.aload_n 0, 1) := by decide +kernel
theorem dX12_wouldLeave_29 : decode cX12_wouldLeave 29 = .ok (.getfield 62, 3) := by decide +kernel
theorem dX12_wouldLeave_32 : decode cX12_wouldLeave 32 = .ok (.iload_n 2, 1) := by decide +kernel
theorem dX12_wouldLeave_33 : decode cX12_wouldLeave 33 = .ok (.iaload, 1) := by decide +kernel
theorem dX12_wouldLeave_34 : decode cX12_wouldLeave 34 = .ok (.invokevirtual 385, 3) := by decide +kernel
theorem dX12_wouldLeave_37 : decode cX12_wouldLeave 37 = .ok (.ifCond .eq 7, 3) := by decide +kernel
theorem dX12_wouldLeave_40 : decode cX12_wouldLeave 40 = .ok (.iconst 1, 1) := by decide +kernel
theorem dX12_wouldLeave_41 : decode cX12_wouldLeave 41 = .ok (.goto 4, 3) := by decide +kernel
theorem dX12_wouldLeave_44 : decode cX12_wouldLeave 44 = .ok (.iconst 0, 1) := by decide +kernel
theorem dX12_wouldLeave_45 : decode cX12_wouldLeave 45 = .ok (.ireturn, 1) := by decide +kernel
theorem dX12_leavingNow_0 : decode cX12_leavingNow 0 = .ok (.aload_n 0, 1) := by decide +kernel
theorem dX12_leavingNow_1 : decode cX12_leavingNow 1 = .ok (.invokevirtual 388, 3) := by decide +kernel
theorem dX12_leavingNow_4 : decode cX12_leavingNow 4 = .ok (.iconst 0, 1) := by decide +kernel
theorem dX12_leavingNow_5 : decode cX12_leavingNow 5 = .ok (.istore_n 1, 1) := by decide +kernel
theorem dX12_leavingNow_6 : decode cX12_leavingNow 6 = .ok (.iconst 0, 1) := by decide +kernel
theorem dX12_leavingNow_7 : decode cX12_leavingNow 7 = .ok (.istore_n 2, 1) := by decide +kernel
theorem dX12_leavingNow_8 : decode cX12_leavingNow 8 = .ok (.iload_n 2, 1) := by decide +kernel
theorem dX12_leavingNow_9 : decode cX12_leavingNow 9 = .ok (.aload_n 0, 1) := by decide +kernel
theorem dX12_leavingNow_10 : decode cX12_leavingNow 10 = .ok (.getfield 271, 3) := by decide +kernel
theorem dX12_leavingNow_13 : decode cX12_leavingNow 13 = .ok (.if_icmp .ge 42, 3) := by decide +kernel
theorem dX12_leavingNow_16 : decode cX12_leavingNow 16 = .ok (.iconst 0, 1) := by decide +kernel
theorem dX12_leavingNow_17 : decode cX12_leavingNow 17 = .ok (.istore_n 3, 1) := by decide +kernel
theorem dX12_leavingNow_18 : decode cX12_leavingNow 18 = .ok (.iload_n 3, 1) := by decide +kernel
theorem dX12_leavingNow_19 : decode cX12_leavingNow 19 = .ok (.aload_n 0, 1) := by decide +kernel
theorem dX12_leavingNow_20 : decode cX12_leavingNow 20 = .ok (.getfield 274, 3) := by decide +kernel
theorem dX12_leavingNow_23 : decode cX12_leavingNow 23 = .ok (.if_icmp .ge 26, 3) := by decide +kernel
theorem dX12_leavingNow_26 : decode cX12_leavingNow 26 = .ok (.iload_n 1, 1) := by decide +kernel
theorem dX12_leavingNow_27 : decode cX12_leavingNow 27 = .ok (.aload_n 0, 1) := by decide +kernel
theorem dX12_leavingNow_28 : decode cX12_leavingNow 28 = .ok (.iload_n 2, 1) := by decide +kernel
theorem dX12_leavingNow_29 : decode cX12_leavingNow 29 = .ok (.iload_n 3, 1) := by decide +kernel
theorem dX12_leavingNow_30 : decode cX12_leavingNow 30 = .ok (.invokevirtual 391, 3) := by decide +kernel
theorem dX12_leavingNow_33 : decode cX12_leavingNow 33 = .ok (.ifCond .eq 7, 3) := by decide +kernel
theorem dX12_leavingNow_36 : decode cX12_leavingNow 36 = .ok (.iconst 1, 1) := by decide +kernel
theorem dX12_leavingNow_37 : decode cX12_leavingNow 37 = .ok (.goto 4, 3) := by decide +kernel
theorem dX12_leavingNow_40 : decode cX12_leavingNow 40 = .ok (.iconst 0, 1) := by decide +kernel
theorem dX12_leavingNow_41 : decode cX12_leavingNow 41 = .ok (.iadd, 1) := by decide +kernel
theorem dX12_leavingNow_42 : decode cX12_leavingNow 42 = .ok (.istore_n 1, 1) := by decide +kernel
theorem dX12_leavingNow_43 : decode cX12_leavingNow 43 = .ok (.iinc 3 1, 3) := by decide +kernel
theorem dX12_leavingNow_46 : decode cX12_leavingNow 46 = .ok (.goto (-28), 3) := by decide +kernel
theorem dX12_leavingNow_49 : decode cX12_leavingNow 49 = .ok (.iinc 2 1, 3) := by decide +kernel
theorem dX12_leavingNow_52 : decode cX12_leavingNow 52 = .ok (.goto (-44), 3) := by decide +kernel
theorem dX12_leavingNow_55 : decode cX12_leavingNow 55 = .ok (.iload_n 1, 1) := by decide +kernel
theorem dX12_leavingNow_56 : decode cX12_leavingNow 56 = .ok (.ireturn, 1) := by decide +kernel
theorem dX12_layTold_0 : decode cX12_layTold 0 = .ok (.iconst 0, 1) := by decide +kernel
theorem dX12_layTold_1 : decode cX12_layTold 1 = .ok (.istore_n 1, 1) := by decide +kernel
theorem dX12_layTold_2 : decode cX12_layTold 2 = .ok (.iload_n 1, 1) := by decide +kernel
theorem dX12_layTold_3 : decode cX12_layTold 3 = .ok (.bipush 6, 2) := by decide +kernel
theorem dX12_layTold_5 : decode cX12_layTold 5 = .ok (.if_icmp .ge 42, 3) := by decide +kernel
theorem dX12_layTold_8 : decode cX12_layTold 8 = .ok (.aload_n 0, 1) := by decide +kernel
theorem dX12_layTold_9 : decode cX12_layTold 9 = .ok (.getfield 56, 3) := by decide +kernel
theorem dX12_layTold_12 : decode cX12_layTold 12 = .ok (.iload_n 1, 1) := by decide +kernel
theorem dX12_layTold_13 : decode cX12_layTold 13 = .ok (.iload_n 1, 1) := by decide +kernel
theorem dX12_layTold_14 : decode cX12_layTold 14 = .ok (.aload_n 0, 1) := by decide +kernel
theorem dX12_layTold_15 : decode cX12_layTold 15 = .ok (.getfield 271, 3) := by decide +kernel
theorem dX12_layTold_18 : decode cX12_layTold 18 = .ok (.if_icmp .ge 20, 3) := by decide +kernel
theorem dX12_layTold_21 : decode cX12_layTold 21 = .ok (.aload_n 0, 1) := by decide +kernel
theorem dX12_layTold_22 : decode cX12_layTold 22 = .ok (.iload_n 1, 1) := by decide +kernel
theorem dX12_layTold_23 : decode cX12_layTold 23 = .ok (.invokevirtual 286, 3) := by decide +kernel
theorem dX12_layTold_26 : decode cX12_layTold 26 = .ok (.ifCond .eq 12, 3) := by decide +kernel
theorem dX12_layTold_29 : decode cX12_layTold 29 = .ok (.aload_n 0, 1) := by decide +kernel
theorem dX12_layTold_30 : decode cX12_layTold 30 = .ok (.getfield 53, 3) := by decide +kernel
theorem dX12_layTold_33 : decode cX12_layTold 33 = .ok (.iload_n 1, 1) := by decide +kernel
theorem dX12_layTold_34 : decode cX12_layTold 34 = .ok (.iaload, 1) := by decide +kernel
theorem dX12_layTold_35 : decode cX12_layTold 35 = .ok (.goto 5, 3) := by decide +kernel
theorem dX12_layTold_38 : decode cX12_layTold 38 = .ok (.bipush 6, 2) := by decide +kernel
theorem dX12_layTold_40 : decode cX12_layTold 40 = .ok (.iastore, 1) := by decide +kernel
theorem dX12_layTold_41 : decode cX12_layTold 41 = .ok (.iinc 1 1, 3) := by decide +kernel
theorem dX12_layTold_44 : decode cX12_layTold 44 = .ok (.goto (-42), 3) := by decide +kernel
theorem dX12_layTold_47 : decode cX12_layTold 47 = .ok (.return_, 1) := by decide +kernel
theorem dX12_inRow_0 : decode cX12_inRow 0 = .ok (.iconst 0, 1) := by decide +kernel
theorem dX12_inRow_1 : decode cX12_inRow 1 = .ok (.istore_n 1, 1) := by decide +kernel
theorem dX12_inRow_2 : decode cX12_inRow 2 = .ok (.iconst 0, 1) := by decide +kernel
theorem dX12_inRow_3 : decode cX12_inRow 3 = .ok (.istore_n 2, 1) := by decide +kernel
theorem dX12_inRow_4 : decode cX12_inRow 4 = .ok (.iload_n 2, 1) := by decide +kernel
theorem dX12_inRow_5 : decode cX12_inRow 5 = .ok (.bipush 6, 2) := by decide +kernel
theorem dX12_inRow_7 : decode cX12_inRow 7 = .ok (.if_icmp .ge 28, 3) := by decide +kernel
theorem dX12_inRow_10 : decode cX12_inRow 10 = .ok (.iload_n 1, 1) := by decide +kernel
theorem dX12_inRow_11 : decode cX12_inRow 11 = .ok (.aload_n 0, 1) := by decide +kernel
theorem dX12_inRow_12 : decode cX12_inRow 12 = .ok (.getfield 56, 3) := by decide +kernel
theorem dX12_inRow_15 : decode cX12_inRow 15 = .ok (.iload_n 2, 1) := by decide +kernel
theorem dX12_inRow_16 : decode cX12_inRow 16 = .ok (.iaload, 1) := by decide +kernel
theorem dX12_inRow_17 : decode cX12_inRow 17 = .ok (.bipush 6, 2) := by decide +kernel
theorem dX12_inRow_19 : decode cX12_inRow 19 = .ok (.if_icmp .ge 7, 3) := by decide +kernel
theorem dX12_inRow_22 : decode cX12_inRow 22 = .ok (.iconst 1, 1) := by decide +kernel
theorem dX12_inRow_23 : decode cX12_inRow 23 = .ok (.goto 4, 3) := by decide +kernel
theorem dX12_inRow_26 : decode cX12_inRow 26 = .ok (.iconst 0, 1) := by decide +kernel
theorem dX12_inRow_27 : decode cX12_inRow 27 = .ok (.iadd, 1) := by decide +kernel
theorem dX12_inRow_28 : decode cX12_inRow 28 = .ok (.istore_n 1, 1) := by decide +kernel
theorem dX12_inRow_29 : decode cX12_inRow 29 = .ok (.iinc 2 1, 3) := by decide +kernel
theorem dX12_inRow_32 : decode cX12_inRow 32 = .ok (.goto (-28), 3) := by decide +kernel
theorem dX12_inRow_35 : decode cX12_inRow 35 = .ok (.iload_n 1, 1) := by decide +kernel
theorem dX12_inRow_36 : decode cX12_inRow 36 = .ok (.ireturn, 1) := by decide +kernel
theorem dX12_sumOfRow_0 : decode cX12_sumOfRow 0 = .ok (.iconst 0, 1) := by decide +kernel
theorem dX12_sumOfRow_1 : decode cX12_sumOfRow 1 = .ok (.istore_n 1, 1) := by decide +kernel
theorem dX12_sumOfRow_2 : decode cX12_sumOfRow 2 = .ok (.iconst 0, 1) := by decide +kernel
theorem dX12_sumOfRow_3 : decode cX12_sumOfRow 3 = .ok (.istore_n 2, 1) := by decide +kernel
theorem dX12_sumOfRow_4 : decode cX12_sumOfRow 4 = .ok (.iload_n 2, 1) := by decide +kernel
theorem dX12_sumOfRow_5 : decode cX12_sumOfRow 5 = .ok (.bipush 6, 2) := by decide +kernel
theorem dX12_sumOfRow_7 : decode cX12_sumOfRow 7 = .ok (.if_icmp .ge 38, 3) := by decide +kernel
theorem dX12_sumOfRow_10 : decode cX12_sumOfRow 10 = .ok (.iload_n 1, 1) := by decide +kernel
theorem dX12_sumOfRow_11 : decode cX12_sumOfRow 11 = .ok (.aload_n 0, 1) := by decide +kernel
theorem dX12_sumOfRow_12 : decode cX12_sumOfRow 12 = .ok (.getfield 56, 3) := by decide +kernel
theorem dX12_sumOfRow_15 : decode cX12_sumOfRow 15 = .ok (.iload_n 2, 1) := by decide +kernel
theorem dX12_sumOfRow_16 : decode cX12_sumOfRow 16 = .ok (.iaload, 1) := by decide +kernel
theorem dX12_sumOfRow_17 : decode cX12_sumOfRow 17 = .ok (.bipush 6, 2) := by decide +kernel
theorem dX12_sumOfRow_19 : decode cX12_sumOfRow 19 = .ok (.if_icmp .ge 17, 3) := by decide +kernel
theorem dX12_sumOfRow_22 : decode cX12_sumOfRow 22 = .ok (.aload_n 0, 1) := by decide +kernel
theorem dX12_sumOfRow_23 : decode cX12_sumOfRow 23 = .ok (.iload_n 2, 1) := by decide +kernel
theorem dX12_sumOfRow_24 : decode cX12_sumOfRow 24 = .ok (.aload_n 0, 1) := by decide +kernel
theorem dX12_sumOfRow_25 : decode cX12_sumOfRow 25 = .ok (.getfield 56, 3) := by decide +kernel
theorem dX12_sumOfRow_28 : decode cX12_sumOfRow 28 = .ok (.iload_n 2, 1) := by decide +kernel
theorem dX12_sumOfRow_29 : decode cX12_sumOfRow 29 = .ok (.iaload, 1) := by decide +kernel
theorem dX12_sumOfRow_30 : decode cX12_sumOfRow 30 = .ok (.invokevirtual 283, 3) := by decide +kernel
theorem dX12_sumOfRow_33 : decode cX12_sumOfRow 33 = .ok (.goto 4, 3) := by decide +kernel
theorem dX12_sumOfRow_36 : decode cX12_sumOfRow 36 = .ok (.iconst 0, 1) := by decide +kernel
theorem dX12_sumOfRow_37 : decode cX12_sumOfRow 37 = .ok (.iadd, 1) := by decide +kernel
theorem dX12_sumOfRow_38 : decode cX12_sumOfRow 38 = .ok (.istore_n 1, 1) := by decide +kernel
theorem dX12_sumOfRow_39 : decode cX12_sumOfRow 39 = .ok (.iinc 2 1, 3) := by decide +kernel
theorem dX12_sumOfRow_42 : decode cX12_sumOfRow 42 = .ok (.goto (-38), 3) := by decide +kernel
theorem dX12_sumOfRow_45 : decode cX12_sumOfRow 45 = .ok (.iload_n 1, 1) := by decide +kernel
theorem dX12_sumOfRow_46 : decode cX12_sumOfRow 46 = .ok (.ireturn, 1) := by decide +kernel
theorem dX12_leastOfRow_0 : decode cX12_leastOfRow 0 = .ok (.ldc_w 402, 3) := by decide +kernel
theorem dX12_leastOfRow_3 : decode cX12_leastOfRow 3 = .ok (.istore_n 1, 1) := by decide +kernel
theorem dX12_leastOfRow_4 : decode cX12_leastOfRow 4 = .ok (.iconst 0, 1) := by decide +kernel
theorem dX12_leastOfRow_5 : decode cX12_leastOfRow 5 = .ok (.istore_n 2, 1) := by decide +kernel
theorem dX12_leastOfRow_6 : decode cX12_leastOfRow 6 = .ok (.iload_n 2, 1) := by decide +kernel
theorem dX12_leastOfRow_7 : decode cX12_leastOfRow 7 = .ok (.bipush 6, 2) := by decide +kernel
theorem dX12_leastOfRow_9 : decode cX12_leastOfRow 9 = .ok (.if_icmp .ge 40, 3) := by decide +kernel
theorem dX12_leastOfRow_12 : decode cX12_leastOfRow 12 = .ok (.aload_n 0, 1) := by decide +kernel
theorem dX12_leastOfRow_13 : decode cX12_leastOfRow 13 = .ok (.getfield 56, 3) := by decide +kernel
theorem dX12_leastOfRow_16 : decode cX12_leastOfRow 16 = .ok (.iload_n 2, 1) := by decide +kernel
theorem dX12_leastOfRow_17 : decode cX12_leastOfRow 17 = .ok (.iaload, 1) := by decide +kernel
theorem dX12_leastOfRow_18 : decode cX12_leastOfRow 18 = .ok (.bipush 6, 2) := by decide +kernel
theorem dX12_leastOfRow_20 : decode cX12_leastOfRow 20 = .ok (.if_icmp .ge 21, 3) := by decide +kernel
theorem dX12_leastOfRow_23 : decode cX12_leastOfRow 23 = .ok (.iload_n 1, 1) := by decide +kernel
theorem dX12_leastOfRow_24 : decode cX12_leastOfRow 24 = .ok (.aload_n 0, 1) := by decide +kernel
theorem dX12_leastOfRow_25 : decode cX12_leastOfRow 25 = .ok (.iload_n 2, 1) := by decide +kernel
theorem dX12_leastOfRow_26 : decode cX12_leastOfRow 26 = .ok (.aload_n 0, 1) := by decide +kernel
theorem dX12_leastOfRow_27 : decode cX12_leastOfRow 27 = .ok (.getfield 56, 3) := by decide +kernel
theorem dX12_leastOfRow_30 : decode cX12_leastOfRow 30 = .ok (.iload_n 2, 1) := by decide +kernel
theorem dX12_leastOfRow_31 : decode cX12_leastOfRow 31 = .ok (.iaload, 1) := by decide +kernel
theorem dX12_leastOfRow_32 : decode cX12_leastOfRow 32 = .ok (.invokevirtual 283, 3) := by decide +kernel
theorem dX12_leastOfRow_35 : decode cX12_leastOfRow 35 = .ok (.invokestatic 340, 3) := by decide +kernel
theorem dX12_leastOfRow_38 : decode cX12_leastOfRow 38 = .ok (.goto 4, 3) := by decide +kernel
theorem dX12_leastOfRow_41 : decode cX12_leastOfRow 41 = .ok (.iload_n 1, 1) := by decide +kernel
theorem dX12_leastOfRow_42 : decode cX12_leastOfRow 42 = .ok (.istore_n 1, 1) := by decide +kernel
theorem dX12_leastOfRow_43 : decode cX12_leastOfRow 43 = .ok (.iinc 2 1, 3) := by decide +kernel
theorem dX12_leastOfRow_46 : decode cX12_leastOfRow 46 = .ok (.goto (-40), 3) := by decide +kernel
theorem dX12_leastOfRow_49 : decode cX12_leastOfRow 49 = .ok (.iload_n 1, 1) := by decide +kernel
theorem dX12_leastOfRow_50 : decode cX12_leastOfRow 50 = .ok (.ireturn, 1) := by decide +kernel
theorem dX12_changedBy_0 : decode cX12_changedBy 0 = .ok (.iconst 0, 1) := by decide +kernel
theorem dX12_changedBy_1 : decode cX12_changedBy 1 = .ok (.istore_n 1, 1) := by decide +kernel
theorem dX12_changedBy_2 : decode cX12_changedBy 2 = .ok (.iconst 0, 1) := by decide +kernel
theorem dX12_changedBy_3 : decode cX12_changedBy 3 = .ok (.istore_n 2, 1) := by decide +kernel
theorem dX12_changedBy_4 : decode cX12_changedBy 4 = .ok (.iload_n 2, 1) := by decide +kernel
theorem dX12_changedBy_5 : decode cX12_changedBy 5 = .ok (.aload_n 0, 1) := by decide +kernel
theorem dX12_changedBy_6 : decode cX12_changedBy 6 = .ok (.getfield 271, 3) := by decide +kernel
theorem dX12_changedBy_9 : decode cX12_changedBy 9 = .ok (.if_icmp .ge 45, 3) := by decide +kernel
theorem dX12_changedBy_12 : decode cX12_changedBy 12 = .ok (.iload_n 1, 1) := by decide +kernel
theorem dX12_changedBy_13 : decode cX12_changedBy 13 = .ok (.aload_n 0, 1) := by decide +kernel
theorem dX12_changedBy_14 : decode cX12_changedBy 14 = .ok (.getfield 56, 3) := by decide +kernel
theorem dX12_changedBy_17 : decode cX12_changedBy 17 = .ok (.iload_n 2, 1) := by decide +kernel
theorem dX12_changedBy_18 : decode cX12_changedBy 18 = .ok (.iaload, 1) := by decide +kernel
theorem dX12_changedBy_19 : decode cX12_changedBy 19 = .ok (.aload_n 0, 1) := by decide +kernel
theorem dX12_changedBy_20 : decode cX12_changedBy 20 = .ok (.iload_n 2, 1) := by decide +kernel
theorem dX12_changedBy_21 : decode cX12_changedBy 21 = .ok (.invokevirtual 286, 3) := by decide +kernel
theorem dX12_changedBy_24 : decode cX12_changedBy 24 = .ok (.ifCond .eq 12, 3) := by decide +kernel
theorem dX12_changedBy_27 : decode cX12_changedBy 27 = .ok (.aload_n 0, 1) := by decide +kernel
theorem dX12_changedBy_28 : decode cX12_changedBy 28 = .ok (.getfield 53, 3) := by decide +kernel
theorem dX12_changedBy_31 : decode cX12_changedBy 31 = .ok (.iload_n 2, 1) := by decide +kernel
theorem dX12_changedBy_32 : decode cX12_changedBy 32 = .ok (.iaload, 1) := by decide +kernel
theorem dX12_changedBy_33 : decode cX12_changedBy 33 = .ok (.goto 5, 3) := by decide +kernel
theorem dX12_changedBy_36 : decode cX12_changedBy 36 = .ok (.bipush 6, 2) := by decide +kernel
theorem dX12_changedBy_38 : decode cX12_changedBy 38 = .ok (.if_icmp .eq 7, 3) := by decide +kernel
theorem dX12_changedBy_41 : decode cX12_changedBy 41 = .ok (.iconst 1, 1) := by decide +kernel
theorem dX12_changedBy_42 : decode cX12_changedBy 42 = .ok (.goto 4, 3) := by decide +kernel
theorem dX12_changedBy_45 : decode cX12_changedBy 45 = .ok (.iconst 0, 1) := by decide +kernel
theorem dX12_changedBy_46 : decode cX12_changedBy 46 = .ok (.iadd, 1) := by decide +kernel
theorem dX12_changedBy_47 : decode cX12_changedBy 47 = .ok (.istore_n 1, 1) := by decide +kernel
theorem dX12_changedBy_48 : decode cX12_changedBy 48 = .ok (.iinc 2 1, 3) := by decide +kernel
theorem dX12_changedBy_51 : decode cX12_changedBy 51 = .ok (.goto (-47), 3) := by decide +kernel
theorem dX12_changedBy_54 : decode cX12_changedBy 54 = .ok (.iload_n 1, 1) := by decide +kernel
theorem dX12_changedBy_55 : decode cX12_changedBy 55 = .ok (.ireturn, 1) := by decide +kernel
set_option maxRecDepth 20000 in
theorem tm_12_385 : tMet TB0 12 385 = some (0, M_X12_isLiked) := rfl
set_option maxRecDepth 20000 in
theorem tm_12_388 : tMet TB0 12 388 = some (0, M_X12_layOthers) := rfl
set_option maxRecDepth 20000 in
theorem tm_12_391 : tMet TB0 12 391 = some (0, M_X12_wouldLeave) := rfl
theorem tl_12_402 : tLdc TB0 12 402 = some (.inl (1000000)) := rfl
def rRw (h : mH) (m : Nat) (g r : Int → Int) : Prop := (isRw g r ∧ rbs r) ∧ ∀ d : Int, 0 ≤ d → d < 6 → rI h (m + 16) d = r d
theorem rRw_c {S : Nat → Nat → Prop} {h h1 : mH} {m : Nat} {g r : Int → Int} (f : frm S h h1) (z : ∀ a k, a = m + 16 → ¬ S a k) (H : rRw h m g r) : rRw h1 m g r := ⟨H.1, fun d a e => (frm_r f (z _ _ rfl)).trans (H.2 d a e)⟩
theorem isRw_f {g r : Int → Int} (h : isRw g r) {d : Int} (a : 0 ≤ d) (b : d < 6) : r d = 6 ∨ (d < nd g ∧ 0 ≤ r d ∧ r d < nu g) := by
  rcases h d a b with q | q
  · exact Or.inl q
  · exact Or.inr q.1
def rOw (h : mH) (m : Nat) (r : Int → Int) : Prop := ∀ u : Int, 0 ≤ u → u < 6 → own r u (rI h (m + 18) u)
theorem rOw_c {S : Nat → Nat → Prop} {h h1 : mH} {m : Nat} {r : Int → Int} (f : frm S h h1) (z : ∀ a k, a = m + 18 → ¬ S a k) (H : rOw h m r) : rOw h1 m r := fun u a e => by rw [frm_r f (z _ _ rfl)]; exact H u a e
theorem own_b {g r : Int → Int} {u x : Int} (h : isRw g r) (u1 : u < 6) (o : own r u x) : x = 6 ∨ ((0 ≤ x ∧ x < 6) ∧ x < nd g ∧ r x = u) := by
  rcases o with q | q
  · exact Or.inl q.1
  · rcases isRw_f h q.1.1 q.1.2 with z | z
    · omega
    · exact Or.inr ⟨q.1, z.1, q.2⟩
theorem lv_own {g r : Int → Int} {d u x : Int} (h : isRw g r) (u1 : u < 6) (o : own r u x) : lvP g r d u ↔ (r d = 6 ∨ KY g d (r d) < KY g d u) ∧ (x = 6 ∨ KY g x u < KY g d u) := by
  unfold lvP
  constructor
  · rintro ⟨a, b⟩
    refine ⟨a, ?_⟩
    rcases o with q | q
    · exact Or.inl q.1
    · exact Or.inr (b x q.1.1 q.1.2 q.2)
  · rintro ⟨a, b⟩
    refine ⟨a, fun e e0 e1 q => ?_⟩
    rcases o with z | z
    · exact absurd q (z.2 e e0 e1)
    · rcases h x z.1.1 z.1.2 with y | y
      · omega
      · have ee := y.2 e e0 e1 (by rw [z.2]; exact q)
        rw [ee]
        rcases b with b | b
        · omega
        · exact b
/-- owners among the first d -/
def ownN (r : Int → Int) (n u x : Int) : Prop := (x = 6 ∧ ∀ d, 0 ≤ d → d < n → r d ≠ u) ∨ ((0 ≤ x ∧ x < 6 ∧ x < n) ∧ r x = u)
theorem ownN_e {g r : Int → Int} {n u x : Int} (h : isRw g r) (u1 : u < 6) (e : n = nd g) (o : ownN r n u x) : own r u x := by
  rcases o with q | q
  · refine Or.inl ⟨q.1, fun d a b => ?_⟩
    by_cases z : d < n
    · exact q.2 d a z
    · rcases isRw_f h a b with y | y <;> omega
  · exact Or.inr ⟨⟨q.1.1, q.1.2.1⟩, q.2⟩
theorem ownN_s {g r : Int → Int} {n u x : Int} (h : isRw g r) (n0 : 0 ≤ n) (n1 : n < 6) (u0 : 0 ≤ u) (u1 : u < 6) (o : ownN r n u x) : (r n = u → ownN r (n + 1) u n) ∧ (r n ≠ u → ownN r (n + 1) u x) := by
  refine ⟨fun q => Or.inr ⟨⟨n0, n1, by omega⟩, q⟩, fun q => ?_⟩
  rcases o with z | z
  · exact Or.inl ⟨z.1, fun d a b => by
      by_cases y : d = n
      · rw [y]; exact q
      · exact z.2 d a (by omega)⟩
  · exact Or.inr ⟨by omega, z.2⟩
def inR (r : Int → Int) : Int := sumZ (fun d => bZ (r d < 6)) 6
def sfR (g r : Int → Int) : Int := sumZ (fun d => if r d < 6 then fitZ g d (r d) else 0) 6
def lmN (g r : Int → Int) : Nat → Int
  | 0 => 1000000
  | k + 1 => if r (k : Int) < 6 then min (lmN g r k) (fitZ g k (r (k : Int))) else lmN g r k
theorem lm_s {g r : Int → Int} {i : Int} (h : 0 ≤ i) : lmN g r (i + 1).toNat = if r i < 6 then min (lmN g r i.toNat) (fitZ g i (r i)) else lmN g r i.toNat := by
  rw [show (i + 1).toNat = i.toNat + 1 by omega]
  show (if r (i.toNat : Int) < 6 then min (lmN g r i.toNat) (fitZ g (i.toNat : Int) (r (i.toNat : Int))) else lmN g r i.toNat) = _
  rw [Int.toNat_of_nonneg h]
theorem lm_b (g r : Int → Int) (n : Nat) : 0 ≤ lmN g r n ∧ lmN g r n ≤ 1000000 := by
  induction n with
  | zero => exact ⟨by show (0 : Int) ≤ 1000000; omega, Int.le_refl _⟩
  | succ n ih =>
    have f := fitZ_b g (n : Int) (r (n : Int))
    have e : lmN g r (n + 1) = if r (n : Int) < 6 then min (lmN g r n) (fitZ g n (r (n : Int))) else lmN g r n := rfl
    rw [e]
    split <;> omega
def lfR (g r : Int → Int) : Int := lmN g r 6
def chR (g r : Int → Int) : Int := sumZ (fun d => bZ (r d ≠ tlR g d)) (nd g).toNat
theorem inR_b (r : Int → Int) : 0 ≤ inR r ∧ inR r ≤ 6 := by
  have := sumZ_b (f := fun d => bZ (r d < 6)) (lo := 0) (hi := 1) (n := 6) (fun i _ _ => ⟨bZ_lo _, bZ_hi _⟩)
  unfold inR; omega
theorem sfR_b (g r : Int → Int) : 0 ≤ sfR g r ∧ sfR g r ≤ 180 := by
  have := sumZ_b (f := fun d => if r d < 6 then fitZ g d (r d) else 0) (lo := 0) (hi := 30) (n := 6) (fun i _ _ => by
    have := fitZ_b g i (r i)
    split <;> omega)
  unfold sfR; omega
theorem chR_b {g : Int → Int} (n : 0 ≤ nd g ∧ nd g ≤ 6) (r : Int → Int) : 0 ≤ chR g r ∧ chR g r ≤ 6 := by
  have := sumZ_b (f := fun d => bZ (r d ≠ tlR g d)) (lo := 0) (hi := 1) (n := (nd g).toNat) (fun i _ _ => ⟨bZ_lo _, bZ_hi _⟩)
  unfold chR; omega
theorem lvN_b {g : Int → Int} (n : (0 ≤ nd g ∧ nd g ≤ 6) ∧ (0 ≤ nu g ∧ nu g ≤ 6)) (r : Int → Int) : 0 ≤ lvN g r ∧ lvN g r ≤ 36 := by
  have h1 : ∀ d, 0 ≤ sumZ (fun u => lvB g r d u) (nu g).toNat ∧ sumZ (fun u => lvB g r d u) (nu g).toNat ≤ 6 := fun d => by
    have := sumZ_b (f := fun u => lvB g r d u) (lo := 0) (hi := 1) (n := (nu g).toNat) (fun i _ _ => by have := lvB_b g r d i; omega)
    omega
  have := sumZ_b (f := fun d => sumZ (fun u => lvB g r d u) (nu g).toNat) (lo := 0) (hi := 6) (n := (nd g).toNat) (fun i _ _ => h1 i)
  unfold lvN; omega
theorem tlR_m {g : Int → Int} {d : Int} (a : 0 ≤ d) (b : d < nd g) : tlR g d = if dm g d = -1 then 6 else dm g d := by unfold tlR; rw [upv_in a b]
set_option maxHeartbeats 400000 in
theorem zp_X12_likesK {ad : mA} {dd : Nat} {h : mH} {Q : mQ} {m : Nat} {g : Int → Int} (hk : rk h m) (HB : rB h m g)  (d : Int) (d_r : -2147483648 ≤ d ∧ d < 2147483648) (u : Int) (u_r : -2147483648 ≤ u ∧ u < 2147483648) (o : Int) (o_r : -2147483648 ≤ o ∧ o < 2147483648) (p1 : 0 ≤ d ∧ d < nd g) (p2 : 0 ≤ u ∧ u < nu g) (p3 : o = 6 ∨ (0 ≤ o ∧ o < nu g)) (kq : Q (some (.int (zI (bZ (o = 6 ∨ KY g d o < KY g d u))))) h) : mCal TB0 ad (dd + 3) M_X12_likes [.ref m, .int (zI d), .int (zI u), .int (zI o)] h 0 0 Q := by
  refine ⟨Nat.le_of_ble_eq_true rfl, ?_⟩
  show mEv TB0 ad M_X12_likes (dd + 3) (0, 0) (mCal TB0 ad (dd + 2)) (fun v h' z => z.1 = 0 ∧ Q v h') 0 [some (.ref m), some (.int (zI d)), some (.int (zI u)), some (.int (zI o)), none] [] h (0, 0)
  have w1 := rB_n HB
  have w2 := rB_nd HB
  have w3 := rB_nu HB
  refine e_iload_n dX12_likes_0 rfl ?_
  refine z_bipush (6) dX12_likes_1 rfl ?_
  refine z_icmp_ne 10 dX12_likes_3 rfl ⟨by omega, by omega⟩ ⟨by omega, by omega⟩ (fun c1 => ?_) (fun c1 => ?_)
  · skip
    refine e_aload_n dX12_likes_10 rfl ?_
    refine e_iload_n dX12_likes_11 rfl ?_
    refine e_iload_n dX12_likes_12 rfl ?_
    refine e_callV [.int _, .int _] dX12_likes_13 tm_12_283 rfl (Nat.le_of_ble_eq_true rfl) (rk_s hk) (Nat.le_of_ble_eq_true rfl) (Nat.le_refl _) (Nat.le_refl _) rfl (zp_X12_fitOf hk HB d ⟨by omega, by omega⟩ u ⟨by omega, by omega⟩ (by omega) ?_)
    have y2 := fitZ_b g d u
    refine e_aload_n dX12_likes_16 rfl ?_
    refine e_iload_n dX12_likes_17 rfl ?_
    refine e_iload_n dX12_likes_18 rfl ?_
    refine e_callV [.int _, .int _] dX12_likes_19 tm_12_283 rfl (Nat.le_of_ble_eq_true rfl) (rk_s hk) (Nat.le_of_ble_eq_true rfl) (Nat.le_refl _) (Nat.le_refl _) rfl (zp_X12_fitOf hk HB d ⟨by omega, by omega⟩ o ⟨by omega, by omega⟩ (by omega) ?_)
    have y3 := fitZ_b g d o
    refine z_isub dX12_likes_22 ?_
    refine e_istore (L' := [_, _, _, _, _]) dX12_likes_23 (Nat.le_of_ble_eq_true rfl) rfl ?_
    refine e_iload dX12_likes_25 rfl ?_
    refine z_if_gt 40 dX12_likes_27 rfl ⟨by omega, by omega⟩ (fun c4 => ?_) (fun c4 => ?_)
    · skip
      refine z_iconst (1) dX12_likes_40 rfl ?_
      refine e_goto 45 dX12_likes_41 rfl ?_
      refine z_bret dX12_likes_45 rfl (Or.inr rfl) ⟨rfl, ?_⟩
      refine z_q1 kq ?_
      unfold KY; omega
    · skip
      refine e_iload dX12_likes_30 rfl ?_
      refine z_if_ne 44 dX12_likes_32 rfl ⟨by omega, by omega⟩ (fun c5 => ?_) (fun c5 => ?_)
      · skip
        refine z_iconst (0) dX12_likes_44 rfl ?_
        refine z_bret dX12_likes_45 rfl (Or.inl rfl) ⟨rfl, ?_⟩
        refine z_q0 kq ?_
        unfold KY; omega
      · skip
        refine e_iload_n dX12_likes_35 rfl ?_
        refine e_iload_n dX12_likes_36 rfl ?_
        refine z_icmp_ge 44 dX12_likes_37 rfl ⟨by omega, by omega⟩ ⟨by omega, by omega⟩ (fun c6 => ?_) (fun c6 => ?_)
        · skip
          refine z_iconst (0) dX12_likes_44 rfl ?_
          refine z_bret dX12_likes_45 rfl (Or.inl rfl) ⟨rfl, ?_⟩
          refine z_q0 kq ?_
          unfold KY; omega
        · skip
          refine z_iconst (1) dX12_likes_40 rfl ?_
          refine e_goto 45 dX12_likes_41 rfl ?_
          refine z_bret dX12_likes_45 rfl (Or.inr rfl) ⟨rfl, ?_⟩
          refine z_q1 kq ?_
          unfold KY; omega
  · skip
    refine z_iconst (1) dX12_likes_6 rfl ?_
    refine e_goto 23 dX12_likes_7 rfl ?_
    refine e_istore (L' := [_, _, _, _, _]) dX12_likes_23 (Nat.le_of_ble_eq_true rfl) rfl ?_
    refine e_iload dX12_likes_25 rfl ?_
    refine z_if_gt 40 dX12_likes_27 rfl ⟨by omega, by omega⟩ (fun c7 => ?_) (fun c7 => ?_)
    · skip
      refine z_iconst (1) dX12_likes_40 rfl ?_
      refine e_goto 45 dX12_likes_41 rfl ?_
      refine z_bret dX12_likes_45 rfl (Or.inr rfl) ⟨rfl, ?_⟩
      refine z_q1 kq ?_
      unfold KY; omega
    · exfalso; omega
set_option maxHeartbeats 400000 in
theorem zp_X12_isLikedK {ad : mA} {dd : Nat} {h : mH} {Q : mQ} {m : Nat} {g : Int → Int} (hk : rk h m) (HB : rB h m g)  (u : Int) (u_r : -2147483648 ≤ u ∧ u < 2147483648) (d : Int) (d_r : -2147483648 ≤ d ∧ d < 2147483648) (o : Int) (o_r : -2147483648 ≤ o ∧ o < 2147483648) (p1 : 0 ≤ d ∧ d < nd g) (p2 : 0 ≤ u ∧ u < nu g) (p3 : o = 6 ∨ (0 ≤ o ∧ o < nd g)) (kq : Q (some (.int (zI (bZ (o = 6 ∨ KY g o u < KY g d u))))) h) : mCal TB0 ad (dd + 3) M_X12_isLiked [.ref m, .int (zI u), .int (zI d), .int (zI o)] h 0 0 Q := by
  refine ⟨Nat.le_of_ble_eq_true rfl, ?_⟩
  show mEv TB0 ad M_X12_isLiked (dd + 3) (0, 0) (mCal TB0 ad (dd + 2)) (fun v h' z => z.1 = 0 ∧ Q v h') 0 [some (.ref m), some (.int (zI u)), some (.int (zI d)), some (.int (zI o)), none] [] h (0, 0)
  have w1 := rB_n HB
  have w2 := rB_nd HB
  have w3 := rB_nu HB
  refine e_iload_n dX12_isLiked_0 rfl ?_
  refine z_bipush (6) dX12_isLiked_1 rfl ?_
  refine z_icmp_ne 10 dX12_isLiked_3 rfl ⟨by omega, by omega⟩ ⟨by omega, by omega⟩ (fun c1 => ?_) (fun c1 => ?_)
  · skip
    refine e_aload_n dX12_isLiked_10 rfl ?_
    refine e_iload_n dX12_isLiked_11 rfl ?_
    refine e_iload_n dX12_isLiked_12 rfl ?_
    refine e_callV [.int _, .int _] dX12_isLiked_13 tm_12_283 rfl (Nat.le_of_ble_eq_true rfl) (rk_s hk) (Nat.le_of_ble_eq_true rfl) (Nat.le_refl _) (Nat.le_refl _) rfl (zp_X12_fitOf hk HB d ⟨by omega, by omega⟩ u ⟨by omega, by omega⟩ (by omega) ?_)
    have y2 := fitZ_b g d u
    refine e_aload_n dX12_isLiked_16 rfl ?_
    refine e_iload_n dX12_isLiked_17 rfl ?_
    refine e_iload_n dX12_isLiked_18 rfl ?_
    refine e_callV [.int _, .int _] dX12_isLiked_19 tm_12_283 rfl (Nat.le_of_ble_eq_true rfl) (rk_s hk) (Nat.le_of_ble_eq_true rfl) (Nat.le_refl _) (Nat.le_refl _) rfl (zp_X12_fitOf hk HB o ⟨by omega, by omega⟩ u ⟨by omega, by omega⟩ (by omega) ?_)
    have y3 := fitZ_b g o u
    refine z_isub dX12_isLiked_22 ?_
    refine e_istore (L' := [_, _, _, _, _]) dX12_isLiked_23 (Nat.le_of_ble_eq_true rfl) rfl ?_
    refine e_iload dX12_isLiked_25 rfl ?_
    refine z_if_gt 40 dX12_isLiked_27 rfl ⟨by omega, by omega⟩ (fun c4 => ?_) (fun c4 => ?_)
    · skip
      refine z_iconst (1) dX12_isLiked_40 rfl ?_
      refine e_goto 45 dX12_isLiked_41 rfl ?_
      refine z_bret dX12_isLiked_45 rfl (Or.inr rfl) ⟨rfl, ?_⟩
      refine z_q1 kq ?_
      unfold KY; omega
    · skip
      refine e_iload dX12_isLiked_30 rfl ?_
      refine z_if_ne 44 dX12_isLiked_32 rfl ⟨by omega, by omega⟩ (fun c5 => ?_) (fun c5 => ?_)
      · skip
        refine z_iconst (0) dX12_isLiked_44 rfl ?_
        refine z_bret dX12_isLiked_45 rfl (Or.inl rfl) ⟨rfl, ?_⟩
        refine z_q0 kq ?_
        unfold KY; omega
      · skip
        refine e_iload_n dX12_isLiked_35 rfl ?_
        refine e_iload_n dX12_isLiked_36 rfl ?_
        refine z_icmp_ge 44 dX12_isLiked_37 rfl ⟨by omega, by omega⟩ ⟨by omega, by omega⟩ (fun c6 => ?_) (fun c6 => ?_)
        · skip
          refine z_iconst (0) dX12_isLiked_44 rfl ?_
          refine z_bret dX12_isLiked_45 rfl (Or.inl rfl) ⟨rfl, ?_⟩
          refine z_q0 kq ?_
          unfold KY; omega
        · skip
          refine z_iconst (1) dX12_isLiked_40 rfl ?_
          refine e_goto 45 dX12_isLiked_41 rfl ?_
          refine z_bret dX12_isLiked_45 rfl (Or.inr rfl) ⟨rfl, ?_⟩
          refine z_q1 kq ?_
          unfold KY; omega
  · skip
    refine z_iconst (1) dX12_isLiked_6 rfl ?_
    refine e_goto 23 dX12_isLiked_7 rfl ?_
    refine e_istore (L' := [_, _, _, _, _]) dX12_isLiked_23 (Nat.le_of_ble_eq_true rfl) rfl ?_
    refine e_iload dX12_isLiked_25 rfl ?_
    refine z_if_gt 40 dX12_isLiked_27 rfl ⟨by omega, by omega⟩ (fun c7 => ?_) (fun c7 => ?_)
    · skip
      refine z_iconst (1) dX12_isLiked_40 rfl ?_
      refine e_goto 45 dX12_isLiked_41 rfl ?_
      refine z_bret dX12_isLiked_45 rfl (Or.inr rfl) ⟨rfl, ?_⟩
      refine z_q1 kq ?_
      unfold KY; omega
    · exfalso; omega
set_option maxHeartbeats 1000000 in
theorem zp_X12_layOthers {ad : mA} {dd : Nat} {h : mH} {Q : mQ} {m : Nat} {g r : Int → Int} (hk : rk h m) (HB : rB h m g) (HW : rRw h m g r)    (kq : ∀ h1, frm (fun a k => a = m + 18) h h1 → (rOw h1 m r) → Q none h1) : mCal TB0 ad (dd + 1) M_X12_layOthers [.ref m] h 0 0 Q := by
  refine ⟨Nat.le_of_ble_eq_true rfl, ?_⟩
  show mEv TB0 ad M_X12_layOthers (dd + 1) (0, 0) (mCal TB0 ad (dd + 0)) (fun v h' z => z.1 = 0 ∧ Q v h') 0 [some (.ref m), none] [] h (0, 0)
  have FR0 : frm (fun a k => a = m + 18) h h := frm_0 h
  have w1 := rB_n HB
  have w2 := rB_nd HB
  have w3 := rB_nu HB
  refine z_iconst (0) dX12_layOthers_0 rfl ?_
  refine e_istore_n (L' := [_, _]) dX12_layOthers_1 (Nat.le_of_ble_eq_true rfl) rfl ?_
  have lp1 : ∀ (n1 : Nat) (u : Int) (h1 : mH), (6 - u).toNat = n1 → (rk h1 m) → (rB h1 m g) → (rRw h1 m g r) → (frm (fun a k => a = m + 18) h h1) → (0 ≤ u ∧ u ≤ 6) → (∀ x : Int, 0 ≤ x → x < u → rI h1 (m + 18) x = 6) → mEv TB0 ad M_X12_layOthers (dd + 1) (0, 0) (mCal TB0 ad (dd + 0)) (fun v h' z => z.1 = 0 ∧ Q v h') 2 [some (.ref m), some (.int (zI u))] [] h1 (0, 0) := by
    intro n1
    induction n1 using Nat.strongRecOn with
    | ind n1 ih1 =>
    intro u h1 hn1 k2 H3 H4 FR5 I1 I2
    refine e_iload_n dX12_layOthers_2 rfl ?_
    refine z_bipush (6) dX12_layOthers_3 rfl ?_
    refine z_icmp_ge 22 dX12_layOthers_5 rfl ⟨by omega, by omega⟩ ⟨by omega, by omega⟩ (fun c6 => ?_) (fun c6 => ?_)
    · skip
      refine z_iconst (0) dX12_layOthers_22 rfl ?_
      refine e_istore_n (L' := [_, _]) dX12_layOthers_23 (Nat.le_of_ble_eq_true rfl) rfl ?_
      have lp7 : ∀ (n7 : Nat) (d : Int) (h7 : mH), (nd g - d).toNat = n7 → (rk h7 m) → (rB h7 m g) → (rRw h7 m g r) → (frm (fun a k => a = m + 18) h h7) → (0 ≤ d ∧ d ≤ nd g) → (∀ x : Int, 0 ≤ x → x < 6 → ownN r d x (rI h7 (m + 18) x)) → mEv TB0 ad M_X12_layOthers (dd + 1) (0, 0) (mCal TB0 ad (dd + 0)) (fun v h' z => z.1 = 0 ∧ Q v h') 24 [some (.ref m), some (.int (zI d))] [] h7 (0, 0) := by
        intro n7
        induction n7 using Nat.strongRecOn with
        | ind n7 ih7 =>
        intro d h7 hn7 k8 H9 H10 FR11 J1 J2
        refine e_iload_n dX12_layOthers_24 rfl ?_
        refine e_aload_n dX12_layOthers_25 rfl ?_
        refine z_get (nd g) dX12_layOthers_26 tf_12_271 (rk_s k8) (Or.inl rfl) (rB_nd H9) ?_
        have y12 := rB_n H9
        refine z_icmp_ge 61 dX12_layOthers_29 rfl ⟨by omega, by omega⟩ ⟨by omega, by omega⟩ (fun c13 => ?_) (fun c13 => ?_)
        · skip
          refine e_vret dX12_layOthers_61 rfl ⟨rfl, ?_⟩
          exact kq _ FR11 (fun u a b => ownN_e HW.1.1 b (by omega) (J2 u a b))
        · skip
          refine e_aload_n dX12_layOthers_32 rfl ?_
          refine e_get (.ref (m + 16)) dX12_layOthers_33 tf_12_56 (rk_s k8) (congrArg va_rf (rk_r16 k8)) ?_
          refine e_iload_n dX12_layOthers_36 rfl ?_
          refine z_ild (r d) dX12_layOthers_37 (rk_a16 k8) (by decide) (by omega) (by omega) (H10.2 d (by omega) (by omega)) ?_
          have y14 := isRw_f H10.1.1 (show 0 ≤ d by omega) (by omega)
          have y15 := H10.1.2 d (by omega) (by omega)
          refine z_bipush (6) dX12_layOthers_38 rfl ?_
          refine z_icmp_ge 55 dX12_layOthers_40 rfl ⟨by omega, by omega⟩ ⟨by omega, by omega⟩ (fun c16 => ?_) (fun c16 => ?_)
          · skip
            refine z_iinc (L' := [_, _]) dX12_layOthers_55 rfl rfl ?_
            refine e_goto 24 dX12_layOthers_58 rfl ?_
            exact ih7 _ (by omega) (d + 1) h7 rfl k8 H9 H10 FR11 (by omega) (fun x a b => (ownN_s HW.1.1 (show 0 ≤ d by omega) (by omega) a b (J2 x a b)).2 (by omega))
          · skip
            refine e_aload_n dX12_layOthers_43 rfl ?_
            refine e_get (.ref (m + 18)) dX12_layOthers_44 tf_12_62 (rk_s k8) (congrArg va_rf (rk_r18 k8)) ?_
            refine e_aload_n dX12_layOthers_47 rfl ?_
            refine e_get (.ref (m + 16)) dX12_layOthers_48 tf_12_56 (rk_s k8) (congrArg va_rf (rk_r16 k8)) ?_
            refine e_iload_n dX12_layOthers_51 rfl ?_
            refine z_ild (r d) dX12_layOthers_52 (rk_a16 k8) (by decide) (by omega) (by omega) (H10.2 d (by omega) (by omega)) ?_
            have y17 := isRw_f H10.1.1 (show 0 ≤ d by omega) (by omega)
            have y18 := H10.1.2 d (by omega) (by omega)
            refine e_iload_n dX12_layOthers_53 rfl ?_
            refine z_ist dX12_layOthers_54 (rk_a18 k8) (by decide) (by omega) (by omega) (fun h19 e20 => ?_)
            have f21 := frm_1 e20
            have k22 := rk_q (frm_s f21) k8
            have H23 := rB_c f21 (fun a k q => by omega) H9
            have H24 := rRw_c f21 (fun a k q => by omega) H10
            have FR25 := frm_t FR11 (frm_m (S' := (fun a k => a = m + 18)) f21 (fun a k q => by omega))
            refine z_iinc (L' := [_, _]) dX12_layOthers_55 rfl rfl ?_
            refine e_goto 24 dX12_layOthers_58 rfl ?_
            exact ih7 _ (by omega) (d + 1) h19 rfl k22 H23 H24 FR25 (by omega) (fun x a b => by
                      have os := ownN_s HW.1.1 (show 0 ≤ d by omega) (by omega) a b (J2 x a b)
                      by_cases q : r d = x
                      · rw [show rI h19 (m + 18) x = d by rw [← q]; exact (rI_eq e20 ⟨by omega, by omega⟩)]; exact os.1 q
                      · rw [show rI h19 (m + 18) x = _ from (frm_r f21 (by omega))]; exact os.2 q)
      exact lp7 _ 0 h1 rfl k2 H3 H4 FR5 (by omega) (fun x a b => Or.inl ⟨I2 x a (by omega), fun e u v => by omega⟩)
    · skip
      refine e_aload_n dX12_layOthers_8 rfl ?_
      refine e_get (.ref (m + 18)) dX12_layOthers_9 tf_12_62 (rk_s k2) (congrArg va_rf (rk_r18 k2)) ?_
      refine e_iload_n dX12_layOthers_12 rfl ?_
      refine z_bipush (6) dX12_layOthers_13 rfl ?_
      refine z_ist dX12_layOthers_15 (rk_a18 k2) (by decide) (by omega) (by omega) (fun h26 e27 => ?_)
      have f28 := frm_1 e27
      have k29 := rk_q (frm_s f28) k2
      have H30 := rB_c f28 (fun a k q => by omega) H3
      have H31 := rRw_c f28 (fun a k q => by omega) H4
      have FR32 := frm_t FR5 (frm_m (S' := (fun a k => a = m + 18)) f28 (fun a k q => by omega))
      refine z_iinc (L' := [_, _]) dX12_layOthers_16 rfl rfl ?_
      refine e_goto 2 dX12_layOthers_19 rfl ?_
      exact ih1 _ (by omega) (u + 1) h26 rfl k29 H30 H31 FR32 (by omega) (fun x a b => by
                by_cases q : x = u
                · rw [q]; exact (rI_eq e27 ⟨by omega, by omega⟩)
                · exact ((frm_r f28 (by omega))).trans (I2 x a (by omega)))
  exact lp1 _ 0 h rfl hk HB HW FR0 (by omega) (fun x a b => by omega)
set_option maxHeartbeats 1000000 in
theorem zp_X12_wouldLeave {ad : mA} {dd : Nat} {h : mH} {Q : mQ} {m : Nat} {g r : Int → Int} (hk : rk h m) (HB : rB h m g) (HW : rRw h m g r) (HO : rOw h m r)  (d : Int) (d_r : -2147483648 ≤ d ∧ d < 2147483648) (u : Int) (u_r : -2147483648 ≤ u ∧ u < 2147483648) (p1 : 0 ≤ d ∧ d < nd g) (p2 : 0 ≤ u ∧ u < nu g) (kq : Q (some (.int (zI (lvB g r d u)))) h) : mCal TB0 ad (dd + 4) M_X12_wouldLeave [.ref m, .int (zI d), .int (zI u)] h 0 0 Q := by
  refine ⟨Nat.le_of_ble_eq_true rfl, ?_⟩
  show mEv TB0 ad M_X12_wouldLeave (dd + 4) (0, 0) (mCal TB0 ad (dd + 3)) (fun v h' z => z.1 = 0 ∧ Q v h') 0 [some (.ref m), some (.int (zI d)), some (.int (zI u))] [] h (0, 0)
  have w1 := rB_n HB
  have w2 := rB_nd HB
  have w3 := rB_nu HB
  have ow := HO u (by omega) (by omega)
  have ob := own_b HW.1.1 (by omega) ow
  have lo := lv_own (d := d) HW.1.1 (by omega) ow
  refine e_aload_n dX12_wouldLeave_0 rfl ?_
  refine e_get (.ref (m + 16)) dX12_wouldLeave_1 tf_12_56 (rk_s hk) (congrArg va_rf (rk_r16 hk)) ?_
  refine e_iload_n dX12_wouldLeave_4 rfl ?_
  refine z_ild (r d) dX12_wouldLeave_5 (rk_a16 hk) (by decide) (by omega) (by omega) (HW.2 d (by omega) (by omega)) ?_
  have y1 := isRw_f HW.1.1 (show 0 ≤ d by omega) (by omega)
  have y2 := HW.1.2 d (by omega) (by omega)
  refine e_iload_n dX12_wouldLeave_6 rfl ?_
  refine z_icmp_eq 44 dX12_wouldLeave_7 rfl ⟨by omega, by omega⟩ ⟨by omega, by omega⟩ (fun c3 => ?_) (fun c3 => ?_)
  · skip
    refine z_iconst (0) dX12_wouldLeave_44 rfl ?_
    refine z_bret dX12_wouldLeave_45 rfl (Or.inl rfl) ⟨rfl, ?_⟩
    refine z_q kq ?_
    first | exact (lvB_1 (lo.mpr ⟨by assumption, by assumption⟩)).symm | exact (lvB_0 (fun z => by have z2 := lo.mp z; first | exact absurd z2.1 (by assumption) | exact absurd z2.2 (by assumption) | (rcases z2.1 with q | q; omega; rw [show r d = u by assumption] at q; omega))).symm
  · skip
    refine e_aload_n dX12_wouldLeave_10 rfl ?_
    refine e_iload_n dX12_wouldLeave_11 rfl ?_
    refine e_iload_n dX12_wouldLeave_12 rfl ?_
    refine e_aload_n dX12_wouldLeave_13 rfl ?_
    refine e_get (.ref (m + 16)) dX12_wouldLeave_14 tf_12_56 (rk_s hk) (congrArg va_rf (rk_r16 hk)) ?_
    refine e_iload_n dX12_wouldLeave_17 rfl ?_
    refine z_ild (r d) dX12_wouldLeave_18 (rk_a16 hk) (by decide) (by omega) (by omega) (HW.2 d (by omega) (by omega)) ?_
    have y4 := isRw_f HW.1.1 (show 0 ≤ d by omega) (by omega)
    have y5 := HW.1.2 d (by omega) (by omega)
    refine e_callV [.int _, .int _, .int _] dX12_wouldLeave_19 tm_12_382 rfl (Nat.le_of_ble_eq_true rfl) (rk_s hk) (Nat.le_of_ble_eq_true rfl) (Nat.le_refl _) (Nat.le_refl _) rfl (zp_X12_likesK hk HB d ⟨by omega, by omega⟩ u ⟨by omega, by omega⟩ (r d) ⟨by omega, by omega⟩ (by omega) (by omega) (by omega) ?_)
    refine z_ifb_eq 44 dX12_wouldLeave_22 rfl (fun c6 => ?_) (fun c6 => ?_)
    · skip
      refine z_iconst (0) dX12_wouldLeave_44 rfl ?_
      refine z_bret dX12_wouldLeave_45 rfl (Or.inl rfl) ⟨rfl, ?_⟩
      refine z_q kq ?_
      first | exact (lvB_1 (lo.mpr ⟨by assumption, by assumption⟩)).symm | exact (lvB_0 (fun z => by have z2 := lo.mp z; first | exact absurd z2.1 (by assumption) | exact absurd z2.2 (by assumption) | (rcases z2.1 with q | q; omega; rw [show r d = u by assumption] at q; omega))).symm
    · skip
      refine e_aload_n dX12_wouldLeave_25 rfl ?_
      refine e_iload_n dX12_wouldLeave_26 rfl ?_
      refine e_iload_n dX12_wouldLeave_27 rfl ?_
      refine e_aload_n dX12_wouldLeave_28 rfl ?_
      refine e_get (.ref (m + 18)) dX12_wouldLeave_29 tf_12_62 (rk_s hk) (congrArg va_rf (rk_r18 hk)) ?_
      refine e_iload_n dX12_wouldLeave_32 rfl ?_
      refine z_ild (rI h (m + 18) u) dX12_wouldLeave_33 (rk_a18 hk) (by decide) (by omega) (by omega) rfl ?_
      have y7 := rI_i h (m + 18) u
      refine e_callV [.int _, .int _, .int _] dX12_wouldLeave_34 tm_12_385 rfl (Nat.le_of_ble_eq_true rfl) (rk_s hk) (Nat.le_of_ble_eq_true rfl) (Nat.le_refl _) (Nat.le_refl _) rfl (zp_X12_isLikedK hk HB u ⟨by omega, by omega⟩ d ⟨by omega, by omega⟩ (rI h (m + 18) u) ⟨by omega, by omega⟩ (by omega) (by omega) (by omega) ?_)
      refine z_ifb_eq 44 dX12_wouldLeave_37 rfl (fun c8 => ?_) (fun c8 => ?_)
      · skip
        refine z_iconst (0) dX12_wouldLeave_44 rfl ?_
        refine z_bret dX12_wouldLeave_45 rfl (Or.inl rfl) ⟨rfl, ?_⟩
        refine z_q kq ?_
        first | exact (lvB_1 (lo.mpr ⟨by assumption, by assumption⟩)).symm | exact (lvB_0 (fun z => by have z2 := lo.mp z; first | exact absurd z2.1 (by assumption) | exact absurd z2.2 (by assumption) | (rcases z2.1 with q | q; omega; rw [show r d = u by assumption] at q; omega))).symm
      · skip
        refine z_iconst (1) dX12_wouldLeave_40 rfl ?_
        refine e_goto 45 dX12_wouldLeave_41 rfl ?_
        refine z_bret dX12_wouldLeave_45 rfl (Or.inr rfl) ⟨rfl, ?_⟩
        refine z_q kq ?_
        first | exact (lvB_1 (lo.mpr ⟨by assumption, by assumption⟩)).symm | exact (lvB_0 (fun z => by have z2 := lo.mp z; first | exact absurd z2.1 (by assumption) | exact absurd z2.2 (by assumption) | (rcases z2.1 with q | q; omega; rw [show r d = u by assumption] at q; omega))).symm
set_option maxHeartbeats 1000000 in
theorem zp_X12_leavingNow {ad : mA} {dd : Nat} {h : mH} {Q : mQ} {m : Nat} {g r : Int → Int} (hk : rk h m) (HB : rB h m g) (HW : rRw h m g r)    (kq : ∀ h1, frm (fun a k => a = m + 18) h h1 → (rOw h1 m r) → Q (some (.int (zI (lvN g r)))) h1) : mCal TB0 ad (dd + 5) M_X12_leavingNow [.ref m] h 0 0 Q := by
  refine ⟨Nat.le_of_ble_eq_true rfl, ?_⟩
  show mEv TB0 ad M_X12_leavingNow (dd + 5) (0, 0) (mCal TB0 ad (dd + 4)) (fun v h' z => z.1 = 0 ∧ Q v h') 0 [some (.ref m), none, none, none] [] h (0, 0)
  have FR0 : frm (fun a k => a = m + 18) h h := frm_0 h
  have w1 := rB_n HB
  have w2 := rB_nd HB
  have w3 := rB_nu HB
  refine e_aload_n dX12_leavingNow_0 rfl ?_
  refine e_callV [] dX12_leavingNow_1 tm_12_388 rfl (Nat.le_of_ble_eq_true rfl) (rk_s hk) (Nat.le_of_ble_eq_true rfl) (Nat.le_refl _) (Nat.le_refl _) rfl (zp_X12_layOthers hk HB HW (fun  h1 f2 p3 => ?_))
  have k4 := rk_q (frm_s f2) hk
  have H5 := rB_c f2 (fun a k q => by omega) HB
  have H6 := rRw_c f2 (fun a k q => by omega) HW
  have FR7 := frm_t FR0 (frm_m (S' := (fun a k => a = m + 18)) f2 (fun a k q => by omega))
  refine z_iconst (0) dX12_leavingNow_4 rfl ?_
  refine e_istore_n (L' := [_, _, _, _]) dX12_leavingNow_5 (Nat.le_of_ble_eq_true rfl) rfl ?_
  refine z_iconst (0) dX12_leavingNow_6 rfl ?_
  refine e_istore_n (L' := [_, _, _, _]) dX12_leavingNow_7 (Nat.le_of_ble_eq_true rfl) rfl ?_
  have lp8 : ∀ (n8 : Nat) (t d : Int), (nd g - d).toNat = n8 → (0 ≤ d ∧ d ≤ nd g) → (0 ≤ t ∧ t ≤ 6 * d) → (t = sumZ (fun d => sumZ (fun u => lvB g r d u) (nu g).toNat) d.toNat) → mEv TB0 ad M_X12_leavingNow (dd + 5) (0, 0) (mCal TB0 ad (dd + 4)) (fun v h' z => z.1 = 0 ∧ Q v h') 8 [some (.ref m), some (.int (zI t)), some (.int (zI d)), none] [] h1 (0, 0) := by
    intro n8
    induction n8 using Nat.strongRecOn with
    | ind n8 ih8 =>
    intro t d  hn8  I1 I2 I3
    refine e_iload_n dX12_leavingNow_8 rfl ?_
    refine e_aload_n dX12_leavingNow_9 rfl ?_
    refine z_get (nd g) dX12_leavingNow_10 tf_12_271 (rk_s k4) (Or.inl rfl) (rB_nd H5) ?_
    have y9 := rB_n H5
    refine z_icmp_ge 55 dX12_leavingNow_13 rfl ⟨by omega, by omega⟩ ⟨by omega, by omega⟩ (fun c10 => ?_) (fun c10 => ?_)
    · skip
      refine e_iload_n dX12_leavingNow_55 rfl ?_
      refine z_iret dX12_leavingNow_56 rfl ⟨rfl, ?_⟩
      refine z_q (kq _ FR7 p3) ?_
      rw [I3, show d = nd g by omega]; rfl
    · skip
      refine z_iconst (0) dX12_leavingNow_16 rfl ?_
      refine e_istore_n (L' := [_, _, _, _]) dX12_leavingNow_17 (Nat.le_of_ble_eq_true rfl) rfl ?_
      have lp11 : ∀ (n11 : Nat) (n u : Int), (nu g - u).toNat = n11 → (0 ≤ u ∧ u ≤ nu g) → (t ≤ n ∧ n ≤ t + u) → (n = t + sumZ (fun u => lvB g r d u) u.toNat) → mEv TB0 ad M_X12_leavingNow (dd + 5) (0, 0) (mCal TB0 ad (dd + 4)) (fun v h' z => z.1 = 0 ∧ Q v h') 18 [some (.ref m), some (.int (zI n)), some (.int (zI d)), some (.int (zI u))] [] h1 (0, 0) := by
        intro n11
        induction n11 using Nat.strongRecOn with
        | ind n11 ih11 =>
        intro n u  hn11  J1 J2 J3
        refine e_iload_n dX12_leavingNow_18 rfl ?_
        refine e_aload_n dX12_leavingNow_19 rfl ?_
        refine z_get (nu g) dX12_leavingNow_20 tf_12_274 (rk_s k4) (Or.inl rfl) (rB_nu H5) ?_
        have y12 := rB_n H5
        refine z_icmp_ge 49 dX12_leavingNow_23 rfl ⟨by omega, by omega⟩ ⟨by omega, by omega⟩ (fun c13 => ?_) (fun c13 => ?_)
        · skip
          refine z_iinc (L' := [_, _, _, _]) dX12_leavingNow_49 rfl rfl ?_
          refine e_goto 8 dX12_leavingNow_52 rfl ?_
          exact mEv_wk (by exact ⟨Or.inr rfl, Or.inr rfl, Or.inr rfl, Or.inl rfl, trivial⟩) (ih8 _ (by omega) n (d + 1)  rfl  (by omega) (by omega) (by rw [sumZ_s (by omega), ← I3]; rw [show nu g = u by omega]; exact J3))
        · skip
          refine e_iload_n dX12_leavingNow_26 rfl ?_
          refine e_aload_n dX12_leavingNow_27 rfl ?_
          refine e_iload_n dX12_leavingNow_28 rfl ?_
          refine e_iload_n dX12_leavingNow_29 rfl ?_
          refine e_callV [.int _, .int _] dX12_leavingNow_30 tm_12_391 rfl (Nat.le_of_ble_eq_true rfl) (rk_s k4) (Nat.le_of_ble_eq_true rfl) (Nat.le_refl _) (Nat.le_refl _) rfl (zp_X12_wouldLeave k4 H5 H6 p3 d ⟨by omega, by omega⟩ u ⟨by omega, by omega⟩ (by omega) (by omega) ?_)
          have y14 := lvB_b g r d u
          refine z_if_eq 40 dX12_leavingNow_33 rfl ⟨by omega, by omega⟩ (fun c15 => ?_) (fun c15 => ?_)
          · skip
            refine z_iconst (0) dX12_leavingNow_40 rfl ?_
            refine z_iadd dX12_leavingNow_41 ?_
            refine e_istore_n (L' := [_, _, _, _]) dX12_leavingNow_42 (Nat.le_of_ble_eq_true rfl) rfl ?_
            refine z_iinc (L' := [_, _, _, _]) dX12_leavingNow_43 rfl rfl ?_
            refine e_goto 18 dX12_leavingNow_46 rfl ?_
            exact ih11 _ (by omega) (n + 0) (u + 1)  rfl  (by omega) (by omega) (by rw [sumZ_s (by omega)]; omega)
          · skip
            refine z_iconst (1) dX12_leavingNow_36 rfl ?_
            refine e_goto 41 dX12_leavingNow_37 rfl ?_
            refine z_iadd dX12_leavingNow_41 ?_
            refine e_istore_n (L' := [_, _, _, _]) dX12_leavingNow_42 (Nat.le_of_ble_eq_true rfl) rfl ?_
            refine z_iinc (L' := [_, _, _, _]) dX12_leavingNow_43 rfl rfl ?_
            refine e_goto 18 dX12_leavingNow_46 rfl ?_
            exact ih11 _ (by omega) (n + 1) (u + 1)  rfl  (by omega) (by omega) (by rw [sumZ_s (by omega)]; omega)
      exact lp11 _ t 0  rfl  (by omega) (by omega) (by show t = t + 0; omega)
  exact lp8 _ 0 0  rfl  (by omega) (by omega) rfl
set_option maxHeartbeats 400000 in
theorem zp_X12_layTold {ad : mA} {dd : Nat} {h : mH} {Q : mQ} {m : Nat} {g : Int → Int} (hk : rk h m) (HB : rB h m g) (HM : rM h m g)   (wf : wfF g) (kq : ∀ h1, frm (fun a k => a = m + 16) h h1 → (rRw h1 m g (tlR g)) → Q none h1) : mCal TB0 ad (dd + 2) M_X12_layTold [.ref m] h 0 0 Q := by
  refine ⟨Nat.le_of_ble_eq_true rfl, ?_⟩
  show mEv TB0 ad M_X12_layTold (dd + 2) (0, 0) (mCal TB0 ad (dd + 1)) (fun v h' z => z.1 = 0 ∧ Q v h') 0 [some (.ref m), none] [] h (0, 0)
  have FR0 : frm (fun a k => a = m + 16) h h := frm_0 h
  have w1 := rB_n HB
  have w2 := rB_nd HB
  have w3 := rB_nu HB
  refine z_iconst (0) dX12_layTold_0 rfl ?_
  refine e_istore_n (L' := [_, _]) dX12_layTold_1 (Nat.le_of_ble_eq_true rfl) rfl ?_
  have lp1 : ∀ (n1 : Nat) (d : Int) (h1 : mH), (6 - d).toNat = n1 → (rk h1 m) → (rB h1 m g) → (rM h1 m g) → (frm (fun a k => a = m + 16) h h1) → (0 ≤ d ∧ d ≤ 6) → (∀ x : Int, 0 ≤ x → x < d → rI h1 (m + 16) x = tlR g x) → mEv TB0 ad M_X12_layTold (dd + 2) (0, 0) (mCal TB0 ad (dd + 1)) (fun v h' z => z.1 = 0 ∧ Q v h') 2 [some (.ref m), some (.int (zI d))] [] h1 (0, 0) := by
    intro n1
    induction n1 using Nat.strongRecOn with
    | ind n1 ih1 =>
    intro d h1 hn1 k2 H3 H4 FR5 I1 I2
    refine e_iload_n dX12_layTold_2 rfl ?_
    refine z_bipush (6) dX12_layTold_3 rfl ?_
    refine z_icmp_ge 47 dX12_layTold_5 rfl ⟨by omega, by omega⟩ ⟨by omega, by omega⟩ (fun c6 => ?_) (fun c6 => ?_)
    · skip
      refine e_vret dX12_layTold_47 rfl ⟨rfl, ?_⟩
      exact kq _ FR5 ⟨⟨tlR_w wf, isRw_b (by omega) (tlR_w wf)⟩, fun x a b => I2 x a (by omega)⟩
    · skip
      refine e_aload_n dX12_layTold_8 rfl ?_
      refine e_get (.ref (m + 16)) dX12_layTold_9 tf_12_56 (rk_s k2) (congrArg va_rf (rk_r16 k2)) ?_
      refine e_iload_n dX12_layTold_12 rfl ?_
      refine e_iload_n dX12_layTold_13 rfl ?_
      refine e_aload_n dX12_layTold_14 rfl ?_
      refine z_get (nd g) dX12_layTold_15 tf_12_271 (rk_s k2) (Or.inl rfl) (rB_nd H3) ?_
      have y7 := rB_n H3
      refine z_icmp_ge 38 dX12_layTold_18 rfl ⟨by omega, by omega⟩ ⟨by omega, by omega⟩ (fun c8 => ?_) (fun c8 => ?_)
      · skip
        refine z_bipush (6) dX12_layTold_38 rfl ?_
        refine z_ist dX12_layTold_40 (rk_a16 k2) (by decide) (by omega) (by omega) (fun h9 e10 => ?_)
        have f11 := frm_1 e10
        have k12 := rk_q (frm_s f11) k2
        have H13 := rB_c f11 (fun a k q => by omega) H3
        have H14 := rM_c f11 (fun a k q => by omega) H4
        have FR15 := frm_t FR5 (frm_m (S' := (fun a k => a = m + 16)) f11 (fun a k q => by omega))
        refine z_iinc (L' := [_, _]) dX12_layTold_41 rfl rfl ?_
        refine e_goto 2 dX12_layTold_44 rfl ?_
        exact ih1 _ (by omega) (d + 1) h9 rfl k12 H13 H14 FR15 (by omega) (fun x a b => by
                  by_cases q : x = d
                  · rw [q]; refine ((rI_eq e10 ⟨by omega, by omega⟩)).trans ?_; have tb := tlR_b wf d; first | (rw [tlR_m (by omega) (by omega), if_neg (by omega)]) | omega | (rw [tlR_m (by omega) (by omega), if_pos (by omega)])
                  · exact ((frm_r f11 (by omega))).trans (I2 x a (by omega)))
      · skip
        refine e_aload_n dX12_layTold_21 rfl ?_
        refine e_iload_n dX12_layTold_22 rfl ?_
        refine e_callV [.int _] dX12_layTold_23 tm_12_286 rfl (Nat.le_of_ble_eq_true rfl) (rk_s k2) (Nat.le_of_ble_eq_true rfl) (Nat.le_refl _) (Nat.le_refl _) rfl (zp_X12_isPaired k2 H4 d ⟨by omega, by omega⟩ (by omega) (by omega) ?_)
        have y16 := wM_d (rM_w H4) (show 0 ≤ d by omega) (by omega)
        refine z_ifb_eq 38 dX12_layTold_26 rfl (fun c17 => ?_) (fun c17 => ?_)
        · skip
          refine z_bipush (6) dX12_layTold_38 rfl ?_
          refine z_ist dX12_layTold_40 (rk_a16 k2) (by decide) (by omega) (by omega) (fun h18 e19 => ?_)
          have f20 := frm_1 e19
          have k21 := rk_q (frm_s f20) k2
          have H22 := rB_c f20 (fun a k q => by omega) H3
          have H23 := rM_c f20 (fun a k q => by omega) H4
          have FR24 := frm_t FR5 (frm_m (S' := (fun a k => a = m + 16)) f20 (fun a k q => by omega))
          refine z_iinc (L' := [_, _]) dX12_layTold_41 rfl rfl ?_
          refine e_goto 2 dX12_layTold_44 rfl ?_
          exact ih1 _ (by omega) (d + 1) h18 rfl k21 H22 H23 FR24 (by omega) (fun x a b => by
                    by_cases q : x = d
                    · rw [q]; refine ((rI_eq e19 ⟨by omega, by omega⟩)).trans ?_; have tb := tlR_b wf d; first | (rw [tlR_m (by omega) (by omega), if_neg (by omega)]) | omega | (rw [tlR_m (by omega) (by omega), if_pos (by omega)])
                    · exact ((frm_r f20 (by omega))).trans (I2 x a (by omega)))
        · skip
          refine e_aload_n dX12_layTold_29 rfl ?_
          refine e_get (.ref (m + 15)) dX12_layTold_30 tf_12_53 (rk_s k2) (congrArg va_rf (rk_r15 k2)) ?_
          refine e_iload_n dX12_layTold_33 rfl ?_
          refine z_ild (dm g d) dX12_layTold_34 (rk_a15 k2) (by decide) (by omega) (by omega) (rM_d H4 (by omega) (by omega)) ?_
          have y25 := wM_d (rM_w H4) (show 0 ≤ d by omega) (by omega)
          refine e_goto 40 dX12_layTold_35 rfl ?_
          refine z_ist dX12_layTold_40 (rk_a16 k2) (by decide) (by omega) (by omega) (fun h26 e27 => ?_)
          have f28 := frm_1 e27
          have k29 := rk_q (frm_s f28) k2
          have H30 := rB_c f28 (fun a k q => by omega) H3
          have H31 := rM_c f28 (fun a k q => by omega) H4
          have FR32 := frm_t FR5 (frm_m (S' := (fun a k => a = m + 16)) f28 (fun a k q => by omega))
          refine z_iinc (L' := [_, _]) dX12_layTold_41 rfl rfl ?_
          refine e_goto 2 dX12_layTold_44 rfl ?_
          exact ih1 _ (by omega) (d + 1) h26 rfl k29 H30 H31 FR32 (by omega) (fun x a b => by
                    by_cases q : x = d
                    · rw [q]; refine ((rI_eq e27 ⟨by omega, by omega⟩)).trans ?_; have tb := tlR_b wf d; first | (rw [tlR_m (by omega) (by omega), if_neg (by omega)]) | omega | (rw [tlR_m (by omega) (by omega), if_pos (by omega)])
                    · exact ((frm_r f28 (by omega))).trans (I2 x a (by omega)))
  exact lp1 _ 0 h rfl hk HB HM FR0 (by omega) (fun x a b => by omega)
set_option maxHeartbeats 400000 in
theorem zp_X12_inRow {ad : mA} {dd : Nat} {h : mH} {Q : mQ} {m : Nat} {g r : Int → Int} (hk : rk h m) (HW : rRw h m g r)    (kq : Q (some (.int (zI (inR r)))) h) : mCal TB0 ad (dd + 1) M_X12_inRow [.ref m] h 0 0 Q := by
  refine ⟨Nat.le_of_ble_eq_true rfl, ?_⟩
  show mEv TB0 ad M_X12_inRow (dd + 1) (0, 0) (mCal TB0 ad (dd + 0)) (fun v h' z => z.1 = 0 ∧ Q v h') 0 [some (.ref m), none, none] [] h (0, 0)
  refine z_iconst (0) dX12_inRow_0 rfl ?_
  refine e_istore_n (L' := [_, _, _]) dX12_inRow_1 (Nat.le_of_ble_eq_true rfl) rfl ?_
  refine z_iconst (0) dX12_inRow_2 rfl ?_
  refine e_istore_n (L' := [_, _, _]) dX12_inRow_3 (Nat.le_of_ble_eq_true rfl) rfl ?_
  have lp1 : ∀ (n1 : Nat) (t d : Int), (6 - d).toNat = n1 → (0 ≤ d ∧ d ≤ 6) → (0 ≤ t ∧ t ≤ d) → (t = sumZ (fun d => bZ (r d < 6)) d.toNat) → mEv TB0 ad M_X12_inRow (dd + 1) (0, 0) (mCal TB0 ad (dd + 0)) (fun v h' z => z.1 = 0 ∧ Q v h') 4 [some (.ref m), some (.int (zI t)), some (.int (zI d))] [] h (0, 0) := by
    intro n1
    induction n1 using Nat.strongRecOn with
    | ind n1 ih1 =>
    intro t d  hn1  I1 I2 I3
    refine e_iload_n dX12_inRow_4 rfl ?_
    refine z_bipush (6) dX12_inRow_5 rfl ?_
    refine z_icmp_ge 35 dX12_inRow_7 rfl ⟨by omega, by omega⟩ ⟨by omega, by omega⟩ (fun c2 => ?_) (fun c2 => ?_)
    · skip
      refine e_iload_n dX12_inRow_35 rfl ?_
      refine z_iret dX12_inRow_36 rfl ⟨rfl, ?_⟩
      refine z_q kq ?_
      rw [I3, show d = 6 by omega]; rfl
    · skip
      refine e_iload_n dX12_inRow_10 rfl ?_
      refine e_aload_n dX12_inRow_11 rfl ?_
      refine e_get (.ref (m + 16)) dX12_inRow_12 tf_12_56 (rk_s hk) (congrArg va_rf (rk_r16 hk)) ?_
      refine e_iload_n dX12_inRow_15 rfl ?_
      refine z_ild (r d) dX12_inRow_16 (rk_a16 hk) (by decide) (by omega) (by omega) (HW.2 d (by omega) (by omega)) ?_
      have y3 := isRw_f HW.1.1 (show 0 ≤ d by omega) (by omega)
      have y4 := HW.1.2 d (by omega) (by omega)
      refine z_bipush (6) dX12_inRow_17 rfl ?_
      refine z_icmp_ge 26 dX12_inRow_19 rfl ⟨by omega, by omega⟩ ⟨by omega, by omega⟩ (fun c5 => ?_) (fun c5 => ?_)
      · skip
        refine z_iconst (0) dX12_inRow_26 rfl ?_
        refine z_iadd dX12_inRow_27 ?_
        refine e_istore_n (L' := [_, _, _]) dX12_inRow_28 (Nat.le_of_ble_eq_true rfl) rfl ?_
        refine z_iinc (L' := [_, _, _]) dX12_inRow_29 rfl rfl ?_
        refine e_goto 4 dX12_inRow_32 rfl ?_
        exact ih1 _ (by omega) (t + 0) (d + 1)  rfl  (by omega) (by omega) (by rw [sumZ_s (by omega)]; first | (rw [bZ_1 (by omega)]; omega) | (rw [bZ_0 (by omega)]; omega))
      · skip
        refine z_iconst (1) dX12_inRow_22 rfl ?_
        refine e_goto 27 dX12_inRow_23 rfl ?_
        refine z_iadd dX12_inRow_27 ?_
        refine e_istore_n (L' := [_, _, _]) dX12_inRow_28 (Nat.le_of_ble_eq_true rfl) rfl ?_
        refine z_iinc (L' := [_, _, _]) dX12_inRow_29 rfl rfl ?_
        refine e_goto 4 dX12_inRow_32 rfl ?_
        exact ih1 _ (by omega) (t + 1) (d + 1)  rfl  (by omega) (by omega) (by rw [sumZ_s (by omega)]; first | (rw [bZ_1 (by omega)]; omega) | (rw [bZ_0 (by omega)]; omega))
  exact lp1 _ 0 0  rfl  (by omega) (by omega) rfl
set_option maxHeartbeats 400000 in
theorem zp_X12_sumOfRow {ad : mA} {dd : Nat} {h : mH} {Q : mQ} {m : Nat} {g r : Int → Int} (hk : rk h m) (HB : rB h m g) (HW : rRw h m g r)    (kq : Q (some (.int (zI (sfR g r)))) h) : mCal TB0 ad (dd + 3) M_X12_sumOfRow [.ref m] h 0 0 Q := by
  refine ⟨Nat.le_of_ble_eq_true rfl, ?_⟩
  show mEv TB0 ad M_X12_sumOfRow (dd + 3) (0, 0) (mCal TB0 ad (dd + 2)) (fun v h' z => z.1 = 0 ∧ Q v h') 0 [some (.ref m), none, none] [] h (0, 0)
  have w1 := rB_n HB
  have w2 := rB_nd HB
  have w3 := rB_nu HB
  refine z_iconst (0) dX12_sumOfRow_0 rfl ?_
  refine e_istore_n (L' := [_, _, _]) dX12_sumOfRow_1 (Nat.le_of_ble_eq_true rfl) rfl ?_
  refine z_iconst (0) dX12_sumOfRow_2 rfl ?_
  refine e_istore_n (L' := [_, _, _]) dX12_sumOfRow_3 (Nat.le_of_ble_eq_true rfl) rfl ?_
  have lp1 : ∀ (n1 : Nat) (t d : Int), (6 - d).toNat = n1 → (0 ≤ d ∧ d ≤ 6) → (0 ≤ t ∧ t ≤ 30 * d) → (t = sumZ (fun d => if r d < 6 then fitZ g d (r d) else 0) d.toNat) → mEv TB0 ad M_X12_sumOfRow (dd + 3) (0, 0) (mCal TB0 ad (dd + 2)) (fun v h' z => z.1 = 0 ∧ Q v h') 4 [some (.ref m), some (.int (zI t)), some (.int (zI d))] [] h (0, 0) := by
    intro n1
    induction n1 using Nat.strongRecOn with
    | ind n1 ih1 =>
    intro t d  hn1  I1 I2 I3
    refine e_iload_n dX12_sumOfRow_4 rfl ?_
    refine z_bipush (6) dX12_sumOfRow_5 rfl ?_
    refine z_icmp_ge 45 dX12_sumOfRow_7 rfl ⟨by omega, by omega⟩ ⟨by omega, by omega⟩ (fun c2 => ?_) (fun c2 => ?_)
    · skip
      refine e_iload_n dX12_sumOfRow_45 rfl ?_
      refine z_iret dX12_sumOfRow_46 rfl ⟨rfl, ?_⟩
      refine z_q kq ?_
      rw [I3, show d = 6 by omega]; rfl
    · skip
      refine e_iload_n dX12_sumOfRow_10 rfl ?_
      refine e_aload_n dX12_sumOfRow_11 rfl ?_
      refine e_get (.ref (m + 16)) dX12_sumOfRow_12 tf_12_56 (rk_s hk) (congrArg va_rf (rk_r16 hk)) ?_
      refine e_iload_n dX12_sumOfRow_15 rfl ?_
      refine z_ild (r d) dX12_sumOfRow_16 (rk_a16 hk) (by decide) (by omega) (by omega) (HW.2 d (by omega) (by omega)) ?_
      have y3 := isRw_f HW.1.1 (show 0 ≤ d by omega) (by omega)
      have y4 := HW.1.2 d (by omega) (by omega)
      refine z_bipush (6) dX12_sumOfRow_17 rfl ?_
      refine z_icmp_ge 36 dX12_sumOfRow_19 rfl ⟨by omega, by omega⟩ ⟨by omega, by omega⟩ (fun c5 => ?_) (fun c5 => ?_)
      · skip
        refine z_iconst (0) dX12_sumOfRow_36 rfl ?_
        refine z_iadd dX12_sumOfRow_37 ?_
        refine e_istore_n (L' := [_, _, _]) dX12_sumOfRow_38 (Nat.le_of_ble_eq_true rfl) rfl ?_
        refine z_iinc (L' := [_, _, _]) dX12_sumOfRow_39 rfl rfl ?_
        refine e_goto 4 dX12_sumOfRow_42 rfl ?_
        exact ih1 _ (by omega) (t + 0) (d + 1)  rfl  (by omega) (by omega) (by rw [sumZ_s (by omega)]; first | (rw [if_pos (by omega)]; omega) | (rw [if_neg (by omega)]; omega))
      · skip
        refine e_aload_n dX12_sumOfRow_22 rfl ?_
        refine e_iload_n dX12_sumOfRow_23 rfl ?_
        refine e_aload_n dX12_sumOfRow_24 rfl ?_
        refine e_get (.ref (m + 16)) dX12_sumOfRow_25 tf_12_56 (rk_s hk) (congrArg va_rf (rk_r16 hk)) ?_
        refine e_iload_n dX12_sumOfRow_28 rfl ?_
        refine z_ild (r d) dX12_sumOfRow_29 (rk_a16 hk) (by decide) (by omega) (by omega) (HW.2 d (by omega) (by omega)) ?_
        have y6 := isRw_f HW.1.1 (show 0 ≤ d by omega) (by omega)
        have y7 := HW.1.2 d (by omega) (by omega)
        refine e_callV [.int _, .int _] dX12_sumOfRow_30 tm_12_283 rfl (Nat.le_of_ble_eq_true rfl) (rk_s hk) (Nat.le_of_ble_eq_true rfl) (Nat.le_refl _) (Nat.le_refl _) rfl (zp_X12_fitOf hk HB d ⟨by omega, by omega⟩ (r d) ⟨by omega, by omega⟩ (by omega) ?_)
        have y8 := fitZ_b g d (r d)
        refine e_goto 37 dX12_sumOfRow_33 rfl ?_
        refine z_iadd dX12_sumOfRow_37 ?_
        refine e_istore_n (L' := [_, _, _]) dX12_sumOfRow_38 (Nat.le_of_ble_eq_true rfl) rfl ?_
        refine z_iinc (L' := [_, _, _]) dX12_sumOfRow_39 rfl rfl ?_
        refine e_goto 4 dX12_sumOfRow_42 rfl ?_
        exact ih1 _ (by omega) (t + (fitZ g d (r d))) (d + 1)  rfl  (by omega) (by omega) (by rw [sumZ_s (by omega)]; first | (rw [if_pos (by omega)]; omega) | (rw [if_neg (by omega)]; omega))
  exact lp1 _ 0 0  rfl  (by omega) (by omega) rfl
set_option maxHeartbeats 400000 in
theorem zp_X12_leastOfRow {ad : mA} {dd : Nat} {h : mH} {Q : mQ} {m : Nat} {g r : Int → Int} (hk : rk h m) (HB : rB h m g) (HW : rRw h m g r)    (kq : Q (some (.int (zI (lfR g r)))) h) : mCal TB0 ad (dd + 3) M_X12_leastOfRow [.ref m] h 0 0 Q := by
  refine ⟨Nat.le_of_ble_eq_true rfl, ?_⟩
  show mEv TB0 ad M_X12_leastOfRow (dd + 3) (0, 0) (mCal TB0 ad (dd + 2)) (fun v h' z => z.1 = 0 ∧ Q v h') 0 [some (.ref m), none, none] [] h (0, 0)
  have w1 := rB_n HB
  have w2 := rB_nd HB
  have w3 := rB_nu HB
  refine z_ldc_w (1000000) dX12_leastOfRow_0 tl_12_402 rfl ?_
  refine e_istore_n (L' := [_, _, _]) dX12_leastOfRow_3 (Nat.le_of_ble_eq_true rfl) rfl ?_
  refine z_iconst (0) dX12_leastOfRow_4 rfl ?_
  refine e_istore_n (L' := [_, _, _]) dX12_leastOfRow_5 (Nat.le_of_ble_eq_true rfl) rfl ?_
  have lp1 : ∀ (n1 : Nat) (t d : Int), (6 - d).toNat = n1 → (0 ≤ d ∧ d ≤ 6) → (0 ≤ t ∧ t ≤ 1000000) → (t = lmN g r d.toNat) → mEv TB0 ad M_X12_leastOfRow (dd + 3) (0, 0) (mCal TB0 ad (dd + 2)) (fun v h' z => z.1 = 0 ∧ Q v h') 6 [some (.ref m), some (.int (zI t)), some (.int (zI d))] [] h (0, 0) := by
    intro n1
    induction n1 using Nat.strongRecOn with
    | ind n1 ih1 =>
    intro t d  hn1  I1 I2 I3
    refine e_iload_n dX12_leastOfRow_6 rfl ?_
    refine z_bipush (6) dX12_leastOfRow_7 rfl ?_
    refine z_icmp_ge 49 dX12_leastOfRow_9 rfl ⟨by omega, by omega⟩ ⟨by omega, by omega⟩ (fun c2 => ?_) (fun c2 => ?_)
    · skip
      refine e_iload_n dX12_leastOfRow_49 rfl ?_
      refine z_iret dX12_leastOfRow_50 rfl ⟨rfl, ?_⟩
      refine z_q kq ?_
      rw [I3, show d = 6 by omega]; rfl
    · skip
      refine e_aload_n dX12_leastOfRow_12 rfl ?_
      refine e_get (.ref (m + 16)) dX12_leastOfRow_13 tf_12_56 (rk_s hk) (congrArg va_rf (rk_r16 hk)) ?_
      refine e_iload_n dX12_leastOfRow_16 rfl ?_
      refine z_ild (r d) dX12_leastOfRow_17 (rk_a16 hk) (by decide) (by omega) (by omega) (HW.2 d (by omega) (by omega)) ?_
      have y3 := isRw_f HW.1.1 (show 0 ≤ d by omega) (by omega)
      have y4 := HW.1.2 d (by omega) (by omega)
      refine z_bipush (6) dX12_leastOfRow_18 rfl ?_
      refine z_icmp_ge 41 dX12_leastOfRow_20 rfl ⟨by omega, by omega⟩ ⟨by omega, by omega⟩ (fun c5 => ?_) (fun c5 => ?_)
      · skip
        refine e_iload_n dX12_leastOfRow_41 rfl ?_
        refine e_istore_n (L' := [_, _, _]) dX12_leastOfRow_42 (Nat.le_of_ble_eq_true rfl) rfl ?_
        refine z_iinc (L' := [_, _, _]) dX12_leastOfRow_43 rfl rfl ?_
        refine e_goto 6 dX12_leastOfRow_46 rfl ?_
        exact ih1 _ (by omega) t (d + 1)  rfl  (by omega) (by omega) (by rw [lm_s (by omega)]; first | (rw [if_pos (by omega), ← I3]) | (rw [if_neg (by omega)]; exact I3))
      · skip
        refine e_iload_n dX12_leastOfRow_23 rfl ?_
        refine e_aload_n dX12_leastOfRow_24 rfl ?_
        refine e_iload_n dX12_leastOfRow_25 rfl ?_
        refine e_aload_n dX12_leastOfRow_26 rfl ?_
        refine e_get (.ref (m + 16)) dX12_leastOfRow_27 tf_12_56 (rk_s hk) (congrArg va_rf (rk_r16 hk)) ?_
        refine e_iload_n dX12_leastOfRow_30 rfl ?_
        refine z_ild (r d) dX12_leastOfRow_31 (rk_a16 hk) (by decide) (by omega) (by omega) (HW.2 d (by omega) (by omega)) ?_
        have y6 := isRw_f HW.1.1 (show 0 ≤ d by omega) (by omega)
        have y7 := HW.1.2 d (by omega) (by omega)
        refine e_callV [.int _, .int _] dX12_leastOfRow_32 tm_12_283 rfl (Nat.le_of_ble_eq_true rfl) (rk_s hk) (Nat.le_of_ble_eq_true rfl) (Nat.le_refl _) (Nat.le_refl _) rfl (zp_X12_fitOf hk HB d ⟨by omega, by omega⟩ (r d) ⟨by omega, by omega⟩ (by omega) ?_)
        have y8 := fitZ_b g d (r d)
        refine e_callS [.int _, .int _] dX12_leastOfRow_35 tm_12_340 rfl (Nat.le_of_ble_eq_true rfl) (Nat.le_refl _) (Nat.le_refl _) rfl (zp_X12_lesser t ⟨by omega, by omega⟩ (fitZ g d (r d)) ⟨by omega, by omega⟩ ?_)
        refine e_goto 42 dX12_leastOfRow_38 rfl ?_
        refine e_istore_n (L' := [_, _, _]) dX12_leastOfRow_42 (Nat.le_of_ble_eq_true rfl) rfl ?_
        refine z_iinc (L' := [_, _, _]) dX12_leastOfRow_43 rfl rfl ?_
        refine e_goto 6 dX12_leastOfRow_46 rfl ?_
        exact ih1 _ (by omega) (min t (fitZ g d (r d))) (d + 1)  rfl  (by omega) (by omega) (by rw [lm_s (by omega)]; first | (rw [if_pos (by omega), ← I3]) | (rw [if_neg (by omega)]; exact I3))
  exact lp1 _ 1000000 0  rfl  (by omega) (by omega) rfl
set_option maxHeartbeats 400000 in
theorem zp_X12_changedBy {ad : mA} {dd : Nat} {h : mH} {Q : mQ} {m : Nat} {g r : Int → Int} (hk : rk h m) (HB : rB h m g) (HM : rM h m g) (HW : rRw h m g r)    (kq : Q (some (.int (zI (chR g r)))) h) : mCal TB0 ad (dd + 2) M_X12_changedBy [.ref m] h 0 0 Q := by
  refine ⟨Nat.le_of_ble_eq_true rfl, ?_⟩
  show mEv TB0 ad M_X12_changedBy (dd + 2) (0, 0) (mCal TB0 ad (dd + 1)) (fun v h' z => z.1 = 0 ∧ Q v h') 0 [some (.ref m), none, none] [] h (0, 0)
  have w1 := rB_n HB
  have w2 := rB_nd HB
  have w3 := rB_nu HB
  refine z_iconst (0) dX12_changedBy_0 rfl ?_
  refine e_istore_n (L' := [_, _, _]) dX12_changedBy_1 (Nat.le_of_ble_eq_true rfl) rfl ?_
  refine z_iconst (0) dX12_changedBy_2 rfl ?_
  refine e_istore_n (L' := [_, _, _]) dX12_changedBy_3 (Nat.le_of_ble_eq_true rfl) rfl ?_
  have lp1 : ∀ (n1 : Nat) (t d : Int), (nd g - d).toNat = n1 → (0 ≤ d ∧ d ≤ nd g) → (0 ≤ t ∧ t ≤ d) → (t = sumZ (fun d => bZ (r d ≠ tlR g d)) d.toNat) → mEv TB0 ad M_X12_changedBy (dd + 2) (0, 0) (mCal TB0 ad (dd + 1)) (fun v h' z => z.1 = 0 ∧ Q v h') 4 [some (.ref m), some (.int (zI t)), some (.int (zI d))] [] h (0, 0) := by
    intro n1
    induction n1 using Nat.strongRecOn with
    | ind n1 ih1 =>
    intro t d  hn1  I1 I2 I3
    refine e_iload_n dX12_changedBy_4 rfl ?_
    refine e_aload_n dX12_changedBy_5 rfl ?_
    refine z_get (nd g) dX12_changedBy_6 tf_12_271 (rk_s hk) (Or.inl rfl) (rB_nd HB) ?_
    have y2 := rB_n HB
    refine z_icmp_ge 54 dX12_changedBy_9 rfl ⟨by omega, by omega⟩ ⟨by omega, by omega⟩ (fun c3 => ?_) (fun c3 => ?_)
    · skip
      refine e_iload_n dX12_changedBy_54 rfl ?_
      refine z_iret dX12_changedBy_55 rfl ⟨rfl, ?_⟩
      refine z_q kq ?_
      rw [I3, show d = nd g by omega]; rfl
    · skip
      refine e_iload_n dX12_changedBy_12 rfl ?_
      refine e_aload_n dX12_changedBy_13 rfl ?_
      refine e_get (.ref (m + 16)) dX12_changedBy_14 tf_12_56 (rk_s hk) (congrArg va_rf (rk_r16 hk)) ?_
      refine e_iload_n dX12_changedBy_17 rfl ?_
      refine z_ild (r d) dX12_changedBy_18 (rk_a16 hk) (by decide) (by omega) (by omega) (HW.2 d (by omega) (by omega)) ?_
      have y4 := isRw_f HW.1.1 (show 0 ≤ d by omega) (by omega)
      have y5 := HW.1.2 d (by omega) (by omega)
      refine e_aload_n dX12_changedBy_19 rfl ?_
      refine e_iload_n dX12_changedBy_20 rfl ?_
      refine e_callV [.int _] dX12_changedBy_21 tm_12_286 rfl (Nat.le_of_ble_eq_true rfl) (rk_s hk) (Nat.le_of_ble_eq_true rfl) (Nat.le_refl _) (Nat.le_refl _) rfl (zp_X12_isPaired hk HM d ⟨by omega, by omega⟩ (by omega) (by omega) ?_)
      have y6 := wM_d (rM_w HM) (show 0 ≤ d by omega) (by omega)
      refine z_ifb_eq 36 dX12_changedBy_24 rfl (fun c7 => ?_) (fun c7 => ?_)
      · skip
        refine z_bipush (6) dX12_changedBy_36 rfl ?_
        refine z_icmp_eq 45 dX12_changedBy_38 rfl ⟨by omega, by omega⟩ ⟨by omega, by omega⟩ (fun c8 => ?_) (fun c8 => ?_)
        · skip
          refine z_iconst (0) dX12_changedBy_45 rfl ?_
          refine z_iadd dX12_changedBy_46 ?_
          refine e_istore_n (L' := [_, _, _]) dX12_changedBy_47 (Nat.le_of_ble_eq_true rfl) rfl ?_
          refine z_iinc (L' := [_, _, _]) dX12_changedBy_48 rfl rfl ?_
          refine e_goto 4 dX12_changedBy_51 rfl ?_
          exact ih1 _ (by omega) (t + 0) (d + 1)  rfl  (by omega) (by omega) (by rw [sumZ_s (by omega), tlR_m (by omega) (by omega)]; first | (rw [if_pos (by omega)]; first | (rw [bZ_1 (by omega)]; omega) | (rw [bZ_0 (by omega)]; omega)) | (rw [if_neg (by omega)]; first | (rw [bZ_1 (by omega)]; omega) | (rw [bZ_0 (by omega)]; omega)))
        · skip
          refine z_iconst (1) dX12_changedBy_41 rfl ?_
          refine e_goto 46 dX12_changedBy_42 rfl ?_
          refine z_iadd dX12_changedBy_46 ?_
          refine e_istore_n (L' := [_, _, _]) dX12_changedBy_47 (Nat.le_of_ble_eq_true rfl) rfl ?_
          refine z_iinc (L' := [_, _, _]) dX12_changedBy_48 rfl rfl ?_
          refine e_goto 4 dX12_changedBy_51 rfl ?_
          exact ih1 _ (by omega) (t + 1) (d + 1)  rfl  (by omega) (by omega) (by rw [sumZ_s (by omega), tlR_m (by omega) (by omega)]; first | (rw [if_pos (by omega)]; first | (rw [bZ_1 (by omega)]; omega) | (rw [bZ_0 (by omega)]; omega)) | (rw [if_neg (by omega)]; first | (rw [bZ_1 (by omega)]; omega) | (rw [bZ_0 (by omega)]; omega)))
      · skip
        refine e_aload_n dX12_changedBy_27 rfl ?_
        refine e_get (.ref (m + 15)) dX12_changedBy_28 tf_12_53 (rk_s hk) (congrArg va_rf (rk_r15 hk)) ?_
        refine e_iload_n dX12_changedBy_31 rfl ?_
        refine z_ild (dm g d) dX12_changedBy_32 (rk_a15 hk) (by decide) (by omega) (by omega) (rM_d HM (by omega) (by omega)) ?_
        have y9 := wM_d (rM_w HM) (show 0 ≤ d by omega) (by omega)
        refine e_goto 38 dX12_changedBy_33 rfl ?_
        refine z_icmp_eq 45 dX12_changedBy_38 rfl ⟨by omega, by omega⟩ ⟨by omega, by omega⟩ (fun c10 => ?_) (fun c10 => ?_)
        · skip
          refine z_iconst (0) dX12_changedBy_45 rfl ?_
          refine z_iadd dX12_changedBy_46 ?_
          refine e_istore_n (L' := [_, _, _]) dX12_changedBy_47 (Nat.le_of_ble_eq_true rfl) rfl ?_
          refine z_iinc (L' := [_, _, _]) dX12_changedBy_48 rfl rfl ?_
          refine e_goto 4 dX12_changedBy_51 rfl ?_
          exact ih1 _ (by omega) (t + 0) (d + 1)  rfl  (by omega) (by omega) (by rw [sumZ_s (by omega), tlR_m (by omega) (by omega)]; first | (rw [if_pos (by omega)]; first | (rw [bZ_1 (by omega)]; omega) | (rw [bZ_0 (by omega)]; omega)) | (rw [if_neg (by omega)]; first | (rw [bZ_1 (by omega)]; omega) | (rw [bZ_0 (by omega)]; omega)))
        · skip
          refine z_iconst (1) dX12_changedBy_41 rfl ?_
          refine e_goto 46 dX12_changedBy_42 rfl ?_
          refine z_iadd dX12_changedBy_46 ?_
          refine e_istore_n (L' := [_, _, _]) dX12_changedBy_47 (Nat.le_of_ble_eq_true rfl) rfl ?_
          refine z_iinc (L' := [_, _, _]) dX12_changedBy_48 rfl rfl ?_
          refine e_goto 4 dX12_changedBy_51 rfl ?_
          exact ih1 _ (by omega) (t + 1) (d + 1)  rfl  (by omega) (by omega) (by rw [sumZ_s (by omega), tlR_m (by omega) (by omega)]; first | (rw [if_pos (by omega)]; first | (rw [bZ_1 (by omega)]; omega) | (rw [bZ_0 (by omega)]; omega)) | (rw [if_neg (by omega)]; first | (rw [bZ_1 (by omega)]; omega) | (rw [bZ_0 (by omega)]; omega)))
  exact lp1 _ 0 0  rfl  (by omega) (by omega) rfl

/-! ROWS: the class's questions about one row -/
theorem dX5_leavingCouples_0 : decode cX5_leavingCouples 0 = .ok (.iconst 0, 1) := by decide +kernel
theorem dX5_leavingCouples_1 : decode cX5_leavingCouples 1 = .ok (.istore_n 1, 1) := by decide +kernel
theorem dX5_leavingCouples_2 : decode cX5_leavingCouples 2 = .ok (.iconst 0, 1) := by decide +kernel
theorem dX5_leavingCouples_3 : decode cX5_leavingCouples 3 = .ok (.istore_n 2, 1) := by decide +kernel
theorem dX5_leavingCouples_4 : decode cX5_leavingCouples 4 = .ok (.iload_n 2, 1) := by decide +kernel
theorem dX5_leavingCouples_5 : decode cX5_leavingCouples 5 = .ok (.aload_n 0, 1) := by decide +kernel
theorem dX5_leavingCouples_6 : decode cX5_leavingCouples 6 = .ok (.getfield 12, 3) := by decide +kernel
theorem dX5_leavingCouples_9 : decode cX5_leavingCouples 9 = .ok (.getfield 53, 3) := by decide +kernel
theorem dX5_leavingCouples_12 : decode cX5_leavingCouples 12 = .ok (.getfield 57, 3) := by decide +kernel
theorem dX5_leavingCouples_15 : decode cX5_leavingCouples 15 = .ok (.if_icmp .ge 48, 3) := by decide +kernel
theorem dX5_leavingCouples_18 : decode cX5_leavingCouples 18 = .ok (.iconst 0, 1) := by decide +kernel
theorem dX5_leavingCouples_19 : decode cX5_leavingCouples 19 = .ok (.istore_n 3, 1) := by decide +kernel
theorem dX5_leavingCouples_20 : decode cX5_leavingCouples 20 = .ok (.iload_n 3, 1) := by decide +kernel
theorem dX5_leavingCouples_21 : decode cX5_leavingCouples 21 = .ok (.aload_n 0, 1) := by decide +kernel
theorem dX5_leavingCouples_22 : decode cX5_leavingCouples 22 = .ok (.getfield 12, 3) := by decide +kernel
theorem dX5_leavingCouples_25 : decode cX5_leavingCouples 25 = .ok (.getfield 67, 3) := by decide +kernel
theorem dX5_leavingCouples_28 : decode cX5_leavingCouples 28 = .ok (.getfield 57, 3) := by decide +kernel
theorem dX5_leavingCouples_31 : decode cX5_leavingCouples 31 = .ok (.if_icmp .ge 26, 3) := by decide +kernel
theorem dX5_leavingCouples_34 : decode cX5_leavingCouples 34 = .ok (.iload_n 1, 1) := by decide +kernel
theorem dX5_leavingCouples_35 : decode cX5_leavingCouples 35 = .ok (.aload_n 0, 1) := by decide +kernel
theorem dX5_leavingCouples_36 : decode cX5_leavingCouples 36 = .ok (.iload_n 2, 1) := by decide +kernel
theorem dX5_leavingCouples_37 : decode cX5_leavingCouples 37 = .ok (.iload_n 3, 1) := by decide +kernel
theorem dX5_leavingCouples_38 : decode cX5_leavingCouples 38 = .ok (.invokevirtual 157, 3) := by decide +kernel
theorem dX5_leavingCouples_41 : decode cX5_leavingCouples 41 = .ok (.ifCond .eq 7, 3) := by decide +kernel
theorem dX5_leavingCouples_44 : decode cX5_leavingCouples 44 = .ok (.iconst 1, 1) := by decide +kernel
theorem dX5_leavingCouples_45 : decode cX5_leavingCouples 45 = .ok (.goto 4, 3) := by decide +kernel
theorem dX5_leavingCouples_48 : decode cX5_leavingCouples 48 = .ok (.iconst 0, 1) := by decide +kernel
theorem dX5_leavingCouples_49 : decode cX5_leavingCouples 49 = .ok (.iadd, 1) := by decide +kernel
theorem dX5_leavingCouples_50 : decode cX5_leavingCouples 50 = .ok (.istore_n 1, 1) := by decide +kernel
theorem dX5_leavingCouples_51 : decode cX5_leavingCouples 51 = .ok (.iinc 3 1, 3) := by decide +kernel
theorem dX5_leavingCouples_54 : decode cX5_leavingCouples 54 = .ok (.goto (-34), 3) := by decide +kernel
theorem dX5_leavingCouples_57 : decode cX5_leavingCouples 57 = .ok (.iinc 2 1, 3) := by decide +kernel
theorem dX5_leavingCouples_60 : decode cX5_leavingCouples 60 = .ok (.goto (-56), 3) := by decide +kernel
theorem dX5_leavingCouples_63 : decode cX5_leavingCouples 63 = .ok (.iload_n 1, 1) := by decide +kernel
theorem dX5_leavingCouples_64 : decode cX5_leavingCouples 64 = .ok (.ireturn, 1) := by decide +kernel
theorem dX5_firstLeaving_0 : decode cX5_firstLeaving 0 = .ok (.iconst 0, 1) := by decide +kernel
theorem dX5_firstLeaving_1 : decode cX5_firstLeaving 1 = .ok (.istore_n 1, 1) := by decide +kernel
theorem dX5_firstLeaving_2 : decode cX5_firstLeaving 2 = .ok (.iload_n 1, 1) := by decide +kernel
theorem dX5_firstLeaving_3 : decode cX5_firstLeaving 3 = .ok (.aload_n 0, 1) := by decide +kernel
theorem dX5_firstLeaving_4 : decode cX5_firstLeaving 4 = .ok (.getfield 12, 3) := by decide +kernel
theorem dX5_firstLeaving_7 : decode cX5_firstLeaving 7 = .ok (.getfield 53, 3) := by decide +kernel
theorem dX5_firstLeaving_10 : decode cX5_firstLeaving 10 = .ok (.getfield 57, 3) := by decide +kernel
theorem dX5_firstLeaving_13 : decode cX5_firstLeaving 13 = .ok (.if_icmp .ge 47, 3) := by decide +kernel
theorem dX5_firstLeaving_16 : decode cX5_firstLeaving 16 = .ok (.iconst 0, 1) := by decide +kernel
theorem dX5_firstLeaving_17 : decode cX5_firstLeaving 17 = .ok (.istore_n 2, 1) := by decide +kernel
theorem dX5_firstLeaving_18 : decode cX5_firstLeaving 18 = .ok (.iload_n 2, 1) := by decide +kernel
theorem dX5_firstLeaving_19 : decode cX5_firstLeaving 19 = .ok (.aload_n 0, 1) := by decide +kernel
theorem dX5_firstLeaving_20 : decode cX5_firstLeaving 20 = .ok (.getfield 12, 3) := by decide +kernel
theorem dX5_firstLeaving_23 : decode cX5_firstLeaving 23 = .ok (.getfield 67, 3) := by decide +kernel
theorem dX5_firstLeaving_26 : decode cX5_firstLeaving 26 = .ok (.getfield 57, 3) := by decide +kernel
theorem dX5_firstLeaving_29 : decode cX5_firstLeaving 29 = .ok (.if_icmp .ge 25, 3) := by decide +kernel
theorem dX5_firstLeaving_32 : decode cX5_firstLeaving 32 = .ok (.aload_n 0, 1) := by decide +kernel
theorem dX5_firstLeaving_33 : decode cX5_firstLeaving 33 = .ok (.iload_n 1, 1) := by decide +kernel
theorem dX5_firstLeaving_34 : decode cX5_firstLeaving 34 = .ok (.iload_n 2, 1) := by decide +kernel
theorem dX5_firstLeaving_35 : decode cX5_firstLeaving 35 = .ok (.invokevirtual 157, 3) := by decide +kernel
theorem dX5_firstLeaving_38 : decode cX5_firstLeaving 38 = .ok (.ifCond .eq 10, 3) := by decide +kernel
theorem dX5_firstLeaving_41 : decode cX5_firstLeaving 41 = .ok (.bipush 6, 2) := by decide +kernel
theorem dX5_firstLeaving_43 : decode cX5_firstLeaving 43 = .ok (.iload_n 1, 1) := by decide +kernel
theorem dX5_firstLeaving_44 : decode cX5_firstLeaving 44 = .ok (.imul, 1) := by decide +kernel
theorem dX5_firstLeaving_45 : decode cX5_firstLeaving 45 = .ok (.iload_n 2, 1) := by decide +kernel
theorem dX5_firstLeaving_46 : decode cX5_firstLeaving 46 = .ok (.iadd, 1) := by decide +kernel
theorem dX5_firstLeaving_47 : decode cX5_firstLeaving 47 = .ok (.ireturn, 1) := by decide +kernel
theorem dX5_firstLeaving_48 : decode cX5_firstLeaving 48 = .ok (.iinc 2 1, 3) := by decide +kernel
theorem dX5_firstLeaving_51 : decode cX5_firstLeaving 51 = .ok (.goto (-33), 3) := by decide +kernel
theorem dX5_firstLeaving_54 : decode cX5_firstLeaving 54 = .ok (.iinc 1 1, 3) := by decide +kernel
theorem dX5_firstLeaving_57 : decode cX5_firstLeaving 57 = .ok (.goto (-55), 3) := by decide +kernel
theorem dX5_firstLeaving_60 : decode cX5_firstLeaving 60 = .ok (.iconst (-1), 1) := by decide +kernel
theorem dX5_firstLeaving_61 : decode cX5_firstLeaving 61 = .ok (.ireturn, 1) := by decide +kernel
theorem dX5_wouldLeave_0 : decode cX5_wouldLeave 0 = .ok (.aload_n 0, 1) := by decide +kernel
theorem dX5_wouldLeave_1 : decode cX5_wouldLeave 1 = .ok (.getfield 43, 3) := by decide +kernel
theorem dX5_wouldLeave_4 : decode cX5_wouldLeave 4 = .ok (.iload_n 1, 1) := by decide +kernel
theorem dX5_wouldLeave_5 : decode cX5_wouldLeave 5 = .ok (.bipush 7, 2) := by decide +kernel
theorem dX5_wouldLeave_7 : decode cX5_wouldLeave 7 = .ok (.imul, 1) := by decide +kernel
theorem dX5_wouldLeave_8 : decode cX5_wouldLeave 8 = .ok (.iload_n 2, 1) := by decide +kernel
theorem dX5_wouldLeave_9 : decode cX5_wouldLeave 9 = .ok (.iadd, 1) := by decide +kernel
theorem dX5_wouldLeave_10 : decode cX5_wouldLeave 10 = .ok (.iaload, 1) := by decide +kernel
theorem dX5_wouldLeave_11 : decode cX5_wouldLeave 11 = .ok (.aload_n 0, 1) := by decide +kernel
theorem dX5_wouldLeave_12 : decode cX5_wouldLeave 12 = .ok (.getfield 43, 3) := by decide +kernel
theorem dX5_wouldLeave_15 : decode cX5_wouldLeave 15 = .ok (.iload_n 1, 1) := by decide +kernel
theorem dX5_wouldLeave_16 : decode cX5_wouldLeave 16 = .ok (.bipush 7, 2) := by decide +kernel
theorem dX5_wouldLeave_18 : decode cX5_wouldLeave 18 = .ok (.imul, 1) := by decide +kernel
theorem dX5_wouldLeave_19 : decode cX5_wouldLeave 19 = .ok (.aload_n 0, 1) := by decide +kernel
theorem dX5_wouldLeave_20 : decode cX5_wouldLeave 20 = .ok (.getfield 21, 3) := by decide +kernel
theorem dX5_wouldLeave_23 : decode cX5_wouldLeave 23 = .ok (.iload_n 1, 1) := by decide +kernel
theorem dX5_wouldLeave_24 : decode cX5_wouldLeave 24 = .ok (.iaload, 1) := by decide +kernel
theorem dX5_wouldLeave_25 : decode cX5_wouldLeave 25 = .ok (.iadd, 1) := by decide +kernel
theorem dX5_wouldLeave_26 : decode cX5_wouldLeave 26 = .ok (.iaload, 1) := by decide +kernel
theorem dX5_wouldLeave_27 : decode cX5_wouldLeave 27 = .ok (.if_icmp .ge 37, 3) := by decide +kernel
theorem dX5_wouldLeave_30 : decode cX5_wouldLeave 30 = .ok (.aload_n 0, 1) := by decide +kernel
theorem dX5_wouldLeave_31 : decode cX5_wouldLeave 31 = .ok (.getfield 46, 3) := by decide +kernel
theorem dX5_wouldLeave_34 : decode cX5_wouldLeave 34 = .ok (.iload_n 2, 1) := by decide +kernel
theorem dX5_wouldLeave_35 : decode cX5_wouldLeave 35 = .ok (.bipush 7, 2) := by decide +kernel
theorem dX5_wouldLeave_37 : decode cX5_wouldLeave 37 = .ok (.imul, 1) := by decide +kernel
theorem dX5_wouldLeave_38 : decode cX5_wouldLeave 38 = .ok (.iload_n 1, 1) := by decide +kernel
theorem dX5_wouldLeave_39 : decode cX5_wouldLeave 39 = .ok (.iadd, 1) := by decide +kernel
theorem dX5_wouldLeave_40 : decode cX5_wouldLeave 40 = .ok (.iaload, 1) := by decide +kernel
theorem dX5_wouldLeave_41 : decode cX5_wouldLeave 41 = .ok (.aload_n 0, 1) := by decide +kernel
theorem dX5_wouldLeave_42 : decode cX5_wouldLeave 42 = .ok (.getfield 46, 3) := by decide +kernel
theorem dX5_wouldLeave_45 : decode cX5_wouldLeave 45 = .ok (.iload_n 2, 1) := by decide +kernel
theorem dX5_wouldLeave_46 : decode cX5_wouldLeave 46 = .ok (.bipush 7, 2) := by decide +kernel
theorem dX5_wouldLeave_48 : decode cX5_wouldLeave 48 = .ok (.imul, 1) := by decide +kernel
theorem dX5_wouldLeave_49 : decode cX5_wouldLeave 49 = .ok (.aload_n 0, 1) := by decide +kernel
theorem dX5_wouldLeave_50 : decode cX5_wouldLeave 50 = .ok (.getfield 25, 3) := by decide +kernel
theorem dX5_wouldLeave_53 : decode cX5_wouldLeave 53 = .ok (.iload_n 2, 1) := by decide +kernel
theorem dX5_wouldLeave_54 : decode cX5_wouldLeave 54 = .ok (.iaload, 1) := by decide +kernel
theorem dX5_wouldLeave_55 : decode cX5_wouldLeave 55 = .ok (.iadd, 1) := by decide +kernel
theorem dX5_wouldLeave_56 : decode cX5_wouldLeave 56 = .ok (.iaload, 1) := by decide +kernel
theorem dX5_wouldLeave_57 : decode cX5_wouldLeave 57 = .ok (.if_icmp .ge 7, 3) := by decide +kernel
theorem dX5_wouldLeave_60 : decode cX5_wouldLeave 60 = .ok (.iconst 1, 1) := by decide +kernel
theorem dX5_wouldLeave_61 : decode cX5_wouldLeave 61 = .ok (.goto 4, 3) := by decide +kernel
theorem dX5_wouldLeave_64 : decode cX5_wouldLeave 64 = .ok (.iconst 0, 1) := by decide +kernel
theorem dX5_wouldLeave_65 : decode cX5_wouldLeave 65 = .ok (.ireturn, 1) := by decide +kernel
theorem dX5_couples_0 : decode cX5_couples 0 = .ok (.iconst 0, 1) := by decide +kernel
theorem dX5_couples_1 : decode cX5_couples 1 = .ok (.istore_n 1, 1) := by decide +kernel
theorem dX5_couples_2 : decode cX5_couples 2 = .ok (.iconst 0, 1) := by decide +kernel
theorem dX5_couples_3 : decode cX5_couples 3 = .ok (.istore_n 2, 1) := by decide +kernel
theorem dX5_couples_4 : decode cX5_couples 4 = .ok (.iload_n 2, 1) := by decide +kernel
theorem dX5_couples_5 : decode cX5_couples 5 = .ok (.aload_n 0, 1) := by decide +kernel
theorem dX5_couples_6 : decode cX5_couples 6 = .ok (.getfield 12, 3) := by decide +kernel
theorem dX5_couples_9 : decode cX5_couples 9 = .ok (.getfield 53, 3) := by decide +kernel
theorem dX5_couples_12 : decode cX5_couples 12 = .ok (.getfield 57, 3) := by decide +kernel
theorem dX5_couples_15 : decode cX5_couples 15 = .ok (.if_icmp .ge 28, 3) := by decide +kernel
theorem dX5_couples_18 : decode cX5_couples 18 = .ok (.iload_n 1, 1) := by decide +kernel
theorem dX5_couples_19 : decode cX5_couples 19 = .ok (.aload_n 0, 1) := by decide +kernel
theorem dX5_couples_20 : decode cX5_couples 20 = .ok (.getfield 21, 3) := by decide +kernel
theorem dX5_couples_23 : decode cX5_couples 23 = .ok (.iload_n 2, 1) := by decide +kernel
theorem dX5_couples_24 : decode cX5_couples 24 = .ok (.iaload, 1) := by decide +kernel
theorem dX5_couples_25 : decode cX5_couples 25 = .ok (.bipush 6, 2) := by decide +kernel
theorem dX5_couples_27 : decode cX5_couples 27 = .ok (.if_icmp .eq 7, 3) := by decide +kernel
theorem dX5_couples_30 : decode cX5_couples 30 = .ok (.iconst 1, 1) := by decide +kernel
theorem dX5_couples_31 : decode cX5_couples 31 = .ok (.goto 4, 3) := by decide +kernel
theorem dX5_couples_34 : decode cX5_couples 34 = .ok (.iconst 0, 1) := by decide +kernel
theorem dX5_couples_35 : decode cX5_couples 35 = .ok (.iadd, 1) := by decide +kernel
theorem dX5_couples_36 : decode cX5_couples 36 = .ok (.istore_n 1, 1) := by decide +kernel
theorem dX5_couples_37 : decode cX5_couples 37 = .ok (.iinc 2 1, 3) := by decide +kernel
theorem dX5_couples_40 : decode cX5_couples 40 = .ok (.goto (-36), 3) := by decide +kernel
theorem dX5_couples_43 : decode cX5_couples 43 = .ok (.iload_n 1, 1) := by decide +kernel
theorem dX5_couples_44 : decode cX5_couples 44 = .ok (.ireturn, 1) := by decide +kernel
theorem dX5_changes_0 : decode cX5_changes 0 = .ok (.iconst 0, 1) := by decide +kernel
theorem dX5_changes_1 : decode cX5_changes 1 = .ok (.istore_n 1, 1) := by decide +kernel
theorem dX5_changes_2 : decode cX5_changes 2 = .ok (.iconst 0, 1) := by decide +kernel
theorem dX5_changes_3 : decode cX5_changes 3 = .ok (.istore_n 2, 1) := by decide +kernel
theorem dX5_changes_4 : decode cX5_changes 4 = .ok (.iload_n 2, 1) := by decide +kernel
theorem dX5_changes_5 : decode cX5_changes 5 = .ok (.aload_n 0, 1) := by decide +kernel
theorem dX5_changes_6 : decode cX5_changes 6 = .ok (.getfield 12, 3) := by decide +kernel
theorem dX5_changes_9 : decode cX5_changes 9 = .ok (.getfield 53, 3) := by decide +kernel
theorem dX5_changes_12 : decode cX5_changes 12 = .ok (.getfield 57, 3) := by decide +kernel
theorem dX5_changes_15 : decode cX5_changes 15 = .ok (.if_icmp .ge 32, 3) := by decide +kernel
theorem dX5_changes_18 : decode cX5_changes 18 = .ok (.iload_n 1, 1) := by decide +kernel
theorem dX5_changes_19 : decode cX5_changes 19 = .ok (.aload_n 0, 1) := by decide +kernel
theorem dX5_changes_20 : decode cX5_changes 20 = .ok (.getfield 21, 3) := by decide +kernel
theorem dX5_changes_23 : decode cX5_changes 23 = .ok (.iload_n 2, 1) := by decide +kernel
theorem dX5_changes_24 : decode cX5_changes 24 = .ok (.iaload, 1) := by decide +kernel
theorem dX5_changes_25 : decode cX5_changes 25 = .ok (.aload_n 0, 1) := by decide +kernel
theorem dX5_changes_26 : decode cX5_changes 26 = .ok (.getfield 28, 3) := by decide +kernel
theorem dX5_changes_29 : decode cX5_changes 29 = .ok (.iload_n 2, 1) := by decide +kernel
theorem dX5_changes_30 : decode cX5_changes 30 = .ok (.iaload, 1) := by decide +kernel
theorem dX5_changes_31 : decode cX5_changes 31 = .ok (.if_icmp .eq 7, 3) := by decide +kernel
theorem dX5_changes_34 : decode cX5_changes 34 = .ok (.iconst 1, 1) := by decide +kernel
theorem dX5_changes_35 : decode cX5_changes 35 = .ok (.goto 4, 3) := by decide +kernel
theorem dX5_changes_38 : decode cX5_changes 38 = .ok (.iconst 0, 1) := by decide +kernel
theorem dX5_changes_39 : decode cX5_changes 39 = .ok (.iadd, 1) := by decide +kernel
theorem dX5_changes_40 : decode cX5_changes 40 = .ok (.istore_n 1, 1) := by decide +kernel
theorem dX5_changes_41 : decode cX5_changes 41 = .ok (.iinc 2 1, 3) := by decide +kernel
theorem dX5_changes_44 : decode cX5_changes 44 = .ok (.goto (-40), 3) := by decide +kernel
theorem dX5_changes_47 : decode cX5_changes 47 = .ok (.iload_n 1, 1) := by decide +kernel
theorem dX5_changes_48 : decode cX5_changes 48 = .ok (.ireturn, 1) := by decide +kernel
theorem dX5_sumOfFits_0 : decode cX5_sumOfFits 0 = .ok (.iconst 0, 1) := by decide +kernel
theorem dX5_sumOfFits_1 : decode cX5_sumOfFits 1 = .ok (.istore_n 1, 1) := by decide +kernel
theorem dX5_sumOfFits_2 : decode cX5_sumOfFits 2 = .ok (.iconst 0, 1) := by decide +kernel
theorem dX5_sumOfFits_3 : decode cX5_sumOfFits 3 = .ok (.istore_n 2, 1) := by decide +kernel
theorem dX5_sumOfFits_4 : decode cX5_sumOfFits 4 = .ok (.iload_n 2, 1) := by decide +kernel
theorem dX5_sumOfFits_5 : decode cX5_sumOfFits 5 = .ok (.aload_n 0, 1) := by decide +kernel
theorem dX5_sumOfFits_6 : decode cX5_sumOfFits 6 = .ok (.getfield 12, 3) := by decide +kernel
theorem dX5_sumOfFits_9 : decode cX5_sumOfFits 9 = .ok (.getfield 53, 3) := by decide +kernel
theorem dX5_sumOfFits_12 : decode cX5_sumOfFits 12 = .ok (.getfield 57, 3) := by decide +kernel
theorem dX5_sumOfFits_15 : decode cX5_sumOfFits 15 = .ok (.if_icmp .ge 43, 3) := by decide +kernel
theorem dX5_sumOfFits_18 : decode cX5_sumOfFits 18 = .ok (.iload_n 1, 1) := by decide +kernel
theorem dX5_sumOfFits_19 : decode cX5_sumOfFits 19 = .ok (.aload_n 0, 1) := by decide +kernel
theorem dX5_sumOfFits_20 : decode cX5_sumOfFits 20 = .ok (.getfield 21, 3) := by decide +kernel
theorem dX5_sumOfFits_23 : decode cX5_sumOfFits 23 = .ok (.iload_n 2, 1) := by decide +kernel
theorem dX5_sumOfFits_24 : decode cX5_sumOfFits 24 = .ok (.iaload, 1) := by decide +kernel
theorem dX5_sumOfFits_25 : decode cX5_sumOfFits 25 = .ok (.bipush 6, 2) := by decide +kernel
theorem dX5_sumOfFits_27 : decode cX5_sumOfFits 27 = .ok (.if_icmp .eq 22, 3) := by decide +kernel
theorem dX5_sumOfFits_30 : decode cX5_sumOfFits 30 = .ok (.aload_n 0, 1) := by decide +kernel
theorem dX5_sumOfFits_31 : decode cX5_sumOfFits 31 = .ok (.getfield 40, 3) := by decide +kernel
theorem dX5_sumOfFits_34 : decode cX5_sumOfFits 34 = .ok (.iload_n 2, 1) := by decide +kernel
theorem dX5_sumOfFits_35 : decode cX5_sumOfFits 35 = .ok (.bipush 7, 2) := by decide +kernel
theorem dX5_sumOfFits_37 : decode cX5_sumOfFits 37 = .ok (.imul, 1) := by decide +kernel
theorem dX5_sumOfFits_38 : decode cX5_sumOfFits 38 = .ok (.aload_n 0, 1) := by decide +kernel
theorem dX5_sumOfFits_39 : decode cX5_sumOfFits 39 = .ok (.getfield 21, 3) := by decide +kernel
theorem dX5_sumOfFits_42 : decode cX5_sumOfFits 42 = .ok (.iload_n 2, 1) := by decide +kernel
theorem dX5_sumOfFits_43 : decode cX5_sumOfFits 43 = .ok (.iaload, 1) := by decide +kernel
theorem dX5_sumOfFits_44 : decode cX5_sumOfFits 44 = .ok (.iadd, 1) := by decide +kernel
theorem dX5_sumOfFits_45 : decode cX5_sumOfFits 45 = .ok (.iaload, 1) := by decide +kernel
theorem dX5_sumOfFits_46 : decode cX5_sumOfFits 46 = .ok (.goto 4, 3) := by decide +kernel
theorem dX5_sumOfFits_49 : decode cX5_sumOfFits 49 = .ok (.iconst 0, 1) := by decide +kernel
theorem dX5_sumOfFits_50 : decode cX5_sumOfFits 50 = .ok (.iadd, 1) := by decide +kernel
theorem dX5_sumOfFits_51 : decode cX5_sumOfFits 51 = .ok (.istore_n 1, 1) := by decide +kernel
theorem dX5_sumOfFits_52 : decode cX5_sumOfFits 52 = .ok (.iinc 2 1, 3) := by decide +kernel
theorem dX5_sumOfFits_55 : decode cX5_sumOfFits 55 = .ok (.goto (-51), 3) := by decide +kernel
theorem dX5_sumOfFits_58 : decode cX5_sumOfFits 58 = .ok (.iload_n 1, 1) := by decide +kernel
theorem dX5_sumOfFits_59 : decode cX5_sumOfFits 59 = .ok (.ireturn, 1) := by decide +kernel
theorem dX5_leastFit_0 : decode cX5_leastFit 0 = .ok (.iconst (-1), 1) := by decide +kernel
theorem dX5_leastFit_1 : decode cX5_leastFit 1 = .ok (.istore_n 1, 1) := by decide +kernel
theorem dX5_leastFit_2 : decode cX5_leastFit 2 = .ok (.iconst 0, 1) := by decide +kernel
theorem dX5_leastFit_3 : decode cX5_leastFit 3 = .ok (.istore_n 2, 1) := by decide +kernel
theorem dX5_leastFit_4 : decode cX5_leastFit 4 = .ok (.iload_n 2, 1) := by decide +kernel
theorem dX5_leastFit_5 : decode cX5_leastFit 5 = .ok (.aload_n 0, 1) := by decide +kernel
theorem dX5_leastFit_6 : decode cX5_leastFit 6 = .ok (.getfield 12, 3) := by decide +kernel
theorem dX5_leastFit_9 : decode cX5_leastFit 9 = .ok (.getfield 53, 3) := by decide +kernel
theorem dX5_leastFit_12 : decode cX5_leastFit 12 = .ok (.getfield 57, 3) := by decide +kernel
theorem dX5_leastFit_15 : decode cX5_leastFit 15 = .ok (.if_icmp .ge 62, 3) := by decide +kernel
theorem dX5_leastFit_18 : decode cX5_leastFit 18 = .ok (.aload_n 0, 1) := by decide +kernel
theorem dX5_leastFit_19 : decode cX5_leastFit 19 = .ok (.getfield 21, 3) := by decide +kernel
theorem dX5_leastFit_22 : decode cX5_leastFit 22 = .ok (.iload_n 2, 1) := by decide +kernel
theorem dX5_leastFit_23 : decode cX5_leastFit 23 = .ok (.iaload, 1) := by decide +kernel
theorem dX5_leastFit_24 : decode cX5_leastFit 24 = .ok (.bipush 6, 2) := by decide +kernel
theorem dX5_leastFit_26 : decode cX5_leastFit 26 = .ok (.if_icmp .eq 45, 3) := by decide +kernel
theorem dX5_leastFit_29 : decode cX5_leastFit 29 = .ok (.iload_n 1, 1) := by decide +kernel
theorem dX5_leastFit_30 : decode cX5_leastFit 30 = .ok (.iconst (-1), 1) := by decide +kernel
theorem dX5_leastFit_31 : decode cX5_leastFit 31 = .ok (.if_icmp .eq 23, 3) := by decide +kernel
theorem dX5_leastFit_34 : decode cX5_leastFit 34 = .ok (.aload_n 0, 1) := by decide +kernel
theorem dX5_leastFit_35 : decode cX5_leastFit 35 = .ok (.getfield 40, 3) := by decide +kernel
theorem dX5_leastFit_38 : decode cX5_leastFit 38 = .ok (.iload_n 2, 1) := by decide +kernel
theorem dX5_leastFit_39 : decode cX5_leastFit 39 = .ok (.bipush 7, 2) := by decide +kernel
theorem dX5_leastFit_41 : decode cX5_leastFit 41 = .ok (.imul, 1) := by decide +kernel
theorem dX5_leastFit_42 : decode cX5_leastFit 42 = .ok (.aload_n 0, 1) := by decide +kernel
theorem dX5_leastFit_43 : decode cX5_leastFit 43 = .ok (.getfield 21, 3) := by decide +kernel
theorem dX5_leastFit_46 : decode cX5_leastFit 46 = .ok (.iload_n 2, 1) := by decide +kernel
theorem dX5_leastFit_47 : decode cX5_leastFit 47 = .ok (.iaload, 1) := by decide +kernel
theorem dX5_leastFit_48 : decode cX5_leastFit 48 = .ok (.iadd, 1) := by decide +kernel
theorem dX5_leastFit_49 : decode cX5_leastFit 49 = .ok (.iaload, 1) := by decide +kernel
theorem dX5_leastFit_50 : decode cX5_leastFit 50 = .ok (.iload_n 1, 1) := by decide +kernel
theorem dX5_leastFit_51 : decode cX5_leastFit 51 = .ok (.if_icmp .ge 20, 3) := by decide +kernel
theorem dX5_leastFit_54 : decode cX5_leastFit 54 = .ok (.aload_n 0, 1) := by decide +kernel
theorem dX5_leastFit_55 : decode cX5_leastFit 55 = .ok (.getfield 40, 3) := by decide +kernel
theorem dX5_leastFit_58 : decode cX5_leastFit 58 = .ok (.iload_n 2, 1) := by decide +kernel
theorem dX5_leastFit_59 : decode cX5_leastFit 59 = .ok (.bipush 7, 2) := by decide +kernel
theorem dX5_leastFit_61 : decode cX5_leastFit 61 = .ok (.imul, 1) := by decide +kernel
theorem dX5_leastFit_62 : decode cX5_leastFit 62 = .ok (.aload_n 0, 1) := by decide +kernel
theorem dX5_leastFit_63 : decode cX5_leastFit 63 = .ok (.getfield 21, 3) := by decide +kernel
theorem dX5_leastFit_66 : decode cX5_leastFit 66 = .ok (.iload_n 2, 1) := by decide +kernel
theorem dX5_leastFit_67 : decode cX5_leastFit 67 = .ok (.iaload, 1) := by decide +kernel
theorem dX5_leastFit_68 : decode cX5_leastFit 68 = .ok (.iadd, 1) := by decide +kernel
theorem dX5_leastFit_69 : decode cX5_leastFit 69 = .ok (.iaload, 1) := by decide +kernel
theorem dX5_leastFit_70 : decode cX5_leastFit 70 = .ok (.istore_n 1, 1) := by decide +kernel
theorem dX5_leastFit_71 : decode cX5_leastFit 71 = .ok (.iinc 2 1, 3) := by decide +kernel
theorem dX5_leastFit_74 : decode cX5_leastFit 74 = .ok (.goto (-70), 3) := by decide +kernel
theorem dX5_leastFit_77 : decode cX5_leastFit 77 = .ok (.iload_n 1, 1) := by decide +kernel
theorem dX5_leastFit_78 : decode cX5_leastFit 78 = .ok (.ireturn, 1) := by decide +kernel
theorem dX5_toPart_0 : decode cX5_toPart 0 = .ok (.iconst 0, 1) := by decide +kernel
theorem dX5_toPart_1 : decode cX5_toPart 1 = .ok (.istore_n 1, 1) := by decide +kernel
theorem dX5_toPart_2 : decode cX5_toPart 2 = .ok (.iconst 0, 1) := by decide +kernel
theorem dX5_toPart_3 : decode cX5_toPart 3 = .ok (.istore_n 2, 1) := by decide +kernel
theorem dX5_toPart_4 : decode cX5_toPart 4 = .ok (.iload_n 2, 1) := by decide +kernel
theorem dX5_toPart_5 : decode cX5_toPart 5 = .ok (.aload_n 0, 1) := by decide +kernel
theorem dX5_toPart_6 : decode cX5_toPart 6 = .ok (.getfield 12, 3) := by decide +kernel
theorem dX5_toPart_9 : decode cX5_toPart 9 = .ok (.getfield 53, 3) := by decide +kernel
theorem dX5_toPart_12 : decode cX5_toPart 12 = .ok (.getfield 57, 3) := by decide +kernel
theorem dX5_toPart_15 : decode cX5_toPart 15 = .ok (.if_icmp .ge 43, 3) := by decide +kernel
theorem dX5_toPart_18 : decode cX5_toPart 18 = .ok (.iload_n 1, 1) := by decide +kernel
theorem dX5_toPart_19 : decode cX5_toPart 19 = .ok (.aload_n 0, 1) := by decide +kernel
theorem dX5_toPart_20 : decode cX5_toPart 20 = .ok (.getfield 28, 3) := by decide +kernel
theorem dX5_toPart_23 : decode cX5_toPart 23 = .ok (.iload_n 2, 1) := by decide +kernel
theorem dX5_toPart_24 : decode cX5_toPart 24 = .ok (.iaload, 1) := by decide +kernel
theorem dX5_toPart_25 : decode cX5_toPart 25 = .ok (.bipush 6, 2) := by decide +kernel
theorem dX5_toPart_27 : decode cX5_toPart 27 = .ok (.if_icmp .eq 22, 3) := by decide +kernel
theorem dX5_toPart_30 : decode cX5_toPart 30 = .ok (.aload_n 0, 1) := by decide +kernel
theorem dX5_toPart_31 : decode cX5_toPart 31 = .ok (.getfield 21, 3) := by decide +kernel
theorem dX5_toPart_34 : decode cX5_toPart 34 = .ok (.iload_n 2, 1) := by decide +kernel
theorem dX5_toPart_35 : decode cX5_toPart 35 = .ok (.iaload, 1) := by decide +kernel
theorem dX5_toPart_36 : decode cX5_toPart 36 = .ok (.aload_n 0, 1) := by decide +kernel
theorem dX5_toPart_37 : decode cX5_toPart 37 = .ok (.getfield 28, 3) := by decide +kernel
theorem dX5_toPart_40 : decode cX5_toPart 40 = .ok (.iload_n 2, 1) := by decide +kernel
theorem dX5_toPart_41 : decode cX5_toPart 41 = .ok (.iaload, 1) := by decide +kernel
theorem dX5_toPart_42 : decode cX5_toPart 42 = .ok (.if_icmp .eq 7, 3) := by decide +kernel
theorem dX5_toPart_45 : decode cX5_toPart 45 = .ok (.iconst 1, 1) := by decide +kernel
theorem dX5_toPart_46 : decode cX5_toPart 46 = .ok (.goto 4, 3) := by decide +kernel
theorem dX5_toPart_49 : decode cX5_toPart 49 = .ok (.iconst 0, 1) := by decide +kernel
theorem dX5_toPart_50 : decode cX5_toPart 50 = .ok (.iadd, 1) := by decide +kernel
theorem dX5_toPart_51 : decode cX5_toPart 51 = .ok (.istore_n 1, 1) := by decide +kernel
theorem dX5_toPart_52 : decode cX5_toPart 52 = .ok (.iinc 2 1, 3) := by decide +kernel
theorem dX5_toPart_55 : decode cX5_toPart 55 = .ok (.goto (-51), 3) := by decide +kernel
theorem dX5_toPart_58 : decode cX5_toPart 58 = .ok (.iload_n 1, 1) := by decide +kernel
theorem dX5_toPart_59 : decode cX5_toPart 59 = .ok (.ireturn, 1) := by decide +kernel
theorem dX5_toRivet_0 : decode cX5_toRivet 0 = .ok (.iconst 0, 1) := by decide +kernel
theorem dX5_toRivet_1 : decode cX5_toRivet 1 = .ok (.istore_n 1, 1) := by decide +kernel
theorem dX5_toRivet_2 : decode cX5_toRivet 2 = .ok (.iconst 0, 1) := by decide +kernel
theorem dX5_toRivet_3 : decode cX5_toRivet 3 = .ok (.istore_n 2, 1) := by decide +kernel
theorem dX5_toRivet_4 : decode cX5_toRivet 4 = .ok (.iload_n 2, 1) := by decide +kernel
theorem dX5_toRivet_5 : decode cX5_toRivet 5 = .ok (.aload_n 0, 1) := by decide +kernel
theorem dX5_toRivet_6 : decode cX5_toRivet 6 = .ok (.getfield 12, 3) := by decide +kernel
theorem dX5_toRivet_9 : decode cX5_toRivet 9 = .ok (.getfield 53, 3) := by decide +kernel
theorem dX5_toRivet_12 : decode cX5_toRivet 12 = .ok (.getfield 57, 3) := by decide +kernel
theorem dX5_toRivet_15 : decode cX5_toRivet 15 = .ok (.if_icmp .ge 43, 3) := by decide +kernel
theorem dX5_toRivet_18 : decode cX5_toRivet 18 = .ok (.iload_n 1, 1) := by decide +kernel
theorem dX5_toRivet_19 : decode cX5_toRivet 19 = .ok (.aload_n 0, 1) := by decide +kernel
theorem dX5_toRivet_20 : decode cX5_toRivet 20 = .ok (.getfield 21, 3) := by decide +kernel
theorem dX5_toRivet_23 : decode cX5_toRivet 23 = .ok (.iload_n 2, 1) := by decide +kernel
theorem dX5_toRivet_24 : decode cX5_toRivet 24 = .ok (.iaload, 1) := by decide +kernel
theorem dX5_toRivet_25 : decode cX5_toRivet 25 = .ok (.bipush 6, 2) := by decide +kernel
theorem dX5_toRivet_27 : decode cX5_toRivet 27 = .ok (.if_icmp .eq 22, 3) := by decide +kernel
theorem dX5_toRivet_30 : decode cX5_toRivet 30 = .ok (.aload_n 0, 1) := by decide +kernel
theorem dX5_toRivet_31 : decode cX5_toRivet 31 = .ok (.getfield 21, 3) := by decide +kernel
theorem dX5_toRivet_34 : decode cX5_toRivet 34 = .ok (.iload_n 2, 1) := by decide +kernel
theorem dX5_toRivet_35 : decode cX5_toRivet 35 = .ok (.iaload, 1) := by decide +kernel
theorem dX5_toRivet_36 : decode cX5_toRivet 36 = .ok (.aload_n 0, 1) := by decide +kernel
theorem dX5_toRivet_37 : decode cX5_toRivet 37 = .ok (.getfield 28, 3) := by decide +kernel
theorem dX5_toRivet_40 : decode cX5_toRivet 40 = .ok (.iload_n 2, 1) := by decide +kernel
theorem dX5_toRivet_41 : decode cX5_toRivet 41 = .ok (.iaload, 1) := by decide +kernel
theorem dX5_toRivet_42 : decode cX5_toRivet 42 = .ok (.if_icmp .eq 7, 3) := by decide +kernel
theorem dX5_toRivet_45 : decode cX5_toRivet 45 = .ok (.iconst 1, 1) := by decide +kernel
theorem dX5_toRivet_46 : decode cX5_toRivet 46 = .ok (.goto 4, 3) := by decide +kernel
theorem dX5_toRivet_49 : decode cX5_toRivet 49 = .ok (.iconst 0, 1) := by decide +kernel
theorem dX5_toRivet_50 : decode cX5_toRivet 50 = .ok (.iadd, 1) := by decide +kernel
theorem dX5_toRivet_51 : decode cX5_toRivet 51 = .ok (.istore_n 1, 1) := by decide +kernel
theorem dX5_toRivet_52 : decode cX5_toRivet 52 = .ok (.iinc 2 1, 3) := by decide +kernel
theorem dX5_toRivet_55 : decode cX5_toRivet 55 = .ok (.goto (-51), 3) := by decide +kernel
theorem dX5_toRivet_58 : decode cX5_toRivet 58 = .ok (.iload_n 1, 1) := by decide +kernel
theorem dX5_toRivet_59 : decode cX5_toRivet 59 = .ok (.ireturn, 1) := by decide +kernel
set_option maxRecDepth 20000 in
theorem tm_5_157 : tMet TB0 5 157 = some (0, M_X5_wouldLeave) := rfl
/-! ROWS: the class's questions about one row -/
def oR (r : Int → Int) (u : Int) : Int := if r 0 = u then 0 else if r 1 = u then 1 else if r 2 = u then 2 else if r 3 = u then 3 else if r 4 = u then 4 else if r 5 = u then 5 else 6
theorem oR_o (r : Int → Int) (u : Int) : own r u (oR r u) := by
  unfold oR
  by_cases h0 : r 0 = u
  · rw [if_pos h0]; exact Or.inr ⟨by omega, h0⟩
  rw [if_neg h0]
  by_cases h1 : r 1 = u
  · rw [if_pos h1]; exact Or.inr ⟨by omega, h1⟩
  rw [if_neg h1]
  by_cases h2 : r 2 = u
  · rw [if_pos h2]; exact Or.inr ⟨by omega, h2⟩
  rw [if_neg h2]
  by_cases h3 : r 3 = u
  · rw [if_pos h3]; exact Or.inr ⟨by omega, h3⟩
  rw [if_neg h3]
  by_cases h4 : r 4 = u
  · rw [if_pos h4]; exact Or.inr ⟨by omega, h4⟩
  rw [if_neg h4]
  by_cases h5 : r 5 = u
  · rw [if_pos h5]; exact Or.inr ⟨by omega, h5⟩
  rw [if_neg h5]
  refine Or.inl ⟨rfl, fun d a b => ?_⟩
  have : d = 0 ∨ d = 1 ∨ d = 2 ∨ d = 3 ∨ d = 4 ∨ d = 5 := by omega
  rcases this with q | q | q | q | q | q <;> rw [q] <;> assumption
theorem own_u {g r : Int → Int} (h : isRw g r) {u x x' : Int} (u0 : 0 ≤ u ∧ u < 6) (a : own r u x) (b : own r u x') : x = x' := by
  rcases a with a | a <;> rcases b with b | b
  · rw [a.1, b.1]
  · exact absurd b.2 (a.2 _ b.1.1 b.1.2)
  · exact absurd a.2 (b.2 _ a.1.1 a.1.2)
  · rcases h x' b.1.1 b.1.2 with q | q
    · omega
    · exact q.2 x a.1.1 a.1.2 (by rw [a.2, b.2])
theorem mrC_o {h : mH} {y : Nat} {g r : Int → Int} (H : mrC h y g r) {u : Int} (a : 0 ≤ u) (b : u < 6) : rI h (y + 34) u = oR r u := own_u H.1.1 ⟨a, b⟩ (H.2.2 u a b) (oR_o r u)
theorem oR_b {g r : Int → Int} (h : isRw g r) {u : Int} (a : 0 ≤ u) (b : u < 6) : oR r u = 6 ∨ ((0 ≤ oR r u ∧ oR r u < 6) ∧ oR r u < nd g ∧ r (oR r u) = u) := own_b h b (oR_o r u)
theorem lvB_r {g r : Int → Int} (n : (0 ≤ nd g ∧ nd g ≤ 6) ∧ (0 ≤ nu g ∧ nu g ≤ 6)) (h : isRw g r) {d u : Int} (d0 : 0 ≤ d ∧ d < nd g) (u0 : 0 ≤ u ∧ u < nu g) : lvB g r d u = bZ (dR g d u < dR g d (r d) ∧ uR g u d < uR g u (oR r u)) := by
  have lo := lv_own (d := d) h (show u < 6 by omega) (oR_o r u)
  have ob := oR_b h (show 0 ≤ u by omega) (show u < 6 by omega)
  have rb := isRw_f h (show 0 ≤ d by omega) (show d < 6 by omega)
  have a := dR_lt n d0 u0 (x := r d) (by omega)
  have b := uR_lt n d0 u0 (x := oR r u) (by omega)
  by_cases q : dR g d u < dR g d (r d) ∧ uR g u d < uR g u (oR r u)
  · rw [bZ_1 q, lvB_1 (lo.mpr ⟨a.mp q.1, b.mp q.2⟩)]
  · rw [bZ_0 q, lvB_0 (fun z => q ⟨a.mpr (lo.mp z).1, b.mpr (lo.mp z).2⟩)]
/-- the first leaving couple -/
def flP (g r : Int → Int) (v : Int) : Prop := (v = -1 ∧ stn g r) ∨ ∃ d u, ((0 ≤ d ∧ d < nd g) ∧ (0 ≤ u ∧ u < nu g)) ∧ v = 6 * d + u ∧ lvP g r d u ∧ ∀ e x, 0 ≤ e → e < nd g → 0 ≤ x → x < nu g → (e < d ∨ (e = d ∧ x < u)) → ¬ lvP g r e x
theorem lvB_y {g r : Int → Int} {d u : Int} (h : lvB g r d u ≠ 0) : lvP g r d u := Classical.byContradiction (fun z => h (lvB_0 z))
theorem lvB_n {g r : Int → Int} {d u : Int} (h : lvB g r d u = 0) : ¬ lvP g r d u := fun z => by have := lvB_1 z; omega
/-- sums over all six, where the row's other places are empty -/
theorem sum_o6 {f : Int → Int} {n : Int} (n0 : 0 ≤ n ∧ n ≤ 6) (h : ∀ d : Int, n ≤ d → d < 6 → f d = 0) : sumZ f 6 = sumZ f n.toNat := by
  have key : ∀ k : Nat, n.toNat + k ≤ 6 → sumZ f (n.toNat + k) = sumZ f n.toNat := by
    intro k
    induction k with
    | zero => intro _; rfl
    | succ k ih =>
      intro hk
      have e : sumZ f (n.toNat + (k + 1)) = sumZ f (n.toNat + k) + f ((n.toNat + k : Nat) : Int) := rfl
      rw [e, ih (by omega), h _ (by omega) (by omega)]; omega
  have := key (6 - n.toNat) (by omega)
  rw [show n.toNat + (6 - n.toNat) = 6 by omega] at this
  exact this
theorem isRw_o {g r : Int → Int} (h : isRw g r) {d : Int} (d0 : 0 ≤ d) (a : nd g ≤ d) (b : d < 6) : r d = 6 := by
  rcases isRw_f h d0 b with q | q
  · exact q
  · omega
theorem inR_n {g r : Int → Int} (n : 0 ≤ nd g ∧ nd g ≤ 6) (h : isRw g r) : inR r = sumZ (fun d => bZ (r d < 6)) (nd g).toNat := sum_o6 n (fun d a b => bZ_0 (by rw [isRw_o h (by omega) a b]; omega))
theorem sfR_n {g r : Int → Int} (n : 0 ≤ nd g ∧ nd g ≤ 6) (h : isRw g r) : sfR g r = sumZ (fun d => if r d < 6 then fitZ g d (r d) else 0) (nd g).toNat := sum_o6 n (fun d a b => if_neg (by rw [isRw_o h (by omega) a b]; omega))
theorem lm_o {g r : Int → Int} (n : 0 ≤ nd g ∧ nd g ≤ 6) (h : isRw g r) : lfR g r = lmN g r (nd g).toNat := by
  have key : ∀ k : Nat, (nd g).toNat + k ≤ 6 → lmN g r ((nd g).toNat + k) = lmN g r (nd g).toNat := by
    intro k
    induction k with
    | zero => intro _; rfl
    | succ k ih =>
      intro hk
      have e : lmN g r ((nd g).toNat + (k + 1)) = if r (((nd g).toNat + k : Nat) : Int) < 6 then min (lmN g r ((nd g).toNat + k)) (fitZ g (((nd g).toNat + k : Nat) : Int) (r (((nd g).toNat + k : Nat) : Int))) else lmN g r ((nd g).toNat + k) := rfl
      rw [e, if_neg (by rw [isRw_o h (by omega) (by omega) (by omega)]; omega), ih (by omega)]
  have := key (6 - (nd g).toNat) (by omega)
  rw [show (nd g).toNat + (6 - (nd g).toNat) = 6 by omega] at this
  exact this
set_option maxHeartbeats 1000000 in
theorem zp_X5_wouldLeave {ad : mA} {dd : Nat} {h : mH} {Q : mQ} {y : Nat} {g r : Int → Int} (hk : mak h y) (HF : isF h (y + 1) g) (HD : bdC h y g) (HW : mrC h y g r)  (d : Int) (d_r : -2147483648 ≤ d ∧ d < 2147483648) (u : Int) (u_r : -2147483648 ≤ u ∧ u < 2147483648) (p1 : 0 ≤ d ∧ d < nd g) (p2 : 0 ≤ u ∧ u < nu g) (kq : Q (some (.int (zI (lvB g r d u)))) h) : mCal TB0 ad (dd + 1) M_X5_wouldLeave [.ref y, .int (zI d), .int (zI u)] h 0 0 Q := by
  refine ⟨Nat.le_of_ble_eq_true rfl, ?_⟩
  show mEv TB0 ad M_X5_wouldLeave (dd + 1) (0, 0) (mCal TB0 ad (dd + 0)) (fun v h' z => z.1 = 0 ∧ Q v h') 0 [some (.ref y), some (.int (zI d)), some (.int (zI u))] [] h (0, 0)
  have w1 := isF_n HF
  have W := isF_w HF
  refine e_aload_n dX5_wouldLeave_0 rfl ?_
  refine e_get (.ref (y + 40)) dX5_wouldLeave_1 tf_5_43 (congrArg Prod.fst (ma_s0 hk)) (congrArg va_rf (ma_r0_9 hk)) ?_
  refine e_iload_n dX5_wouldLeave_4 rfl ?_
  refine z_bipush (7) dX5_wouldLeave_5 rfl ?_
  refine z_imul dX5_wouldLeave_7 ?_
  refine e_iload_n dX5_wouldLeave_8 rfl ?_
  refine z_iadd dX5_wouldLeave_9 ?_
  refine z_ild (dR g d u) dX5_wouldLeave_10 (ma_s40 hk) (by decide) (by omega) (by omega) (HD.2.2.2.1 d u (by omega) (by omega) (by omega) (by omega)) ?_
  have y1 := @dR_b g (by omega) d u (by omega)
  refine e_aload_n dX5_wouldLeave_11 rfl ?_
  refine e_get (.ref (y + 40)) dX5_wouldLeave_12 tf_5_43 (congrArg Prod.fst (ma_s0 hk)) (congrArg va_rf (ma_r0_9 hk)) ?_
  refine e_iload_n dX5_wouldLeave_15 rfl ?_
  refine z_bipush (7) dX5_wouldLeave_16 rfl ?_
  refine z_imul dX5_wouldLeave_18 ?_
  refine e_aload_n dX5_wouldLeave_19 rfl ?_
  refine e_get (.ref (y + 33)) dX5_wouldLeave_20 tf_5_21 (congrArg Prod.fst (ma_s0 hk)) (congrArg va_rf (ma_r0_2 hk)) ?_
  refine e_iload_n dX5_wouldLeave_23 rfl ?_
  refine z_ild (r d) dX5_wouldLeave_24 (ma_s33 hk) (by decide) (by omega) (by omega) (HW.2.1 d (by omega) (by omega)) ?_
  have y2 := isRw_f HW.1.1 (show 0 ≤ d by omega) (by omega)
  have y3 := HW.1.2 d (by omega) (by omega)
  refine z_iadd dX5_wouldLeave_25 ?_
  refine z_ild (dR g d (r d)) dX5_wouldLeave_26 (ma_s40 hk) (by decide) (by omega) (by omega) (HD.2.2.2.1 d (r d) (by omega) (by omega) (by omega) (by omega)) ?_
  have y4 := @dR_b g (by omega) d (r d) (by omega)
  refine z_icmp_ge 64 dX5_wouldLeave_27 rfl ⟨by omega, by omega⟩ ⟨by omega, by omega⟩ (fun c5 => ?_) (fun c5 => ?_)
  · skip
    refine z_iconst (0) dX5_wouldLeave_64 rfl ?_
    refine z_bret dX5_wouldLeave_65 rfl (Or.inl rfl) ⟨rfl, ?_⟩
    refine z_q kq ?_
    rw [lvB_r (by omega) HW.1.1 (by omega) (by omega)]; first | exact (bZ_1 ⟨by omega, by omega⟩).symm | exact (bZ_0 (by omega)).symm
  · skip
    refine e_aload_n dX5_wouldLeave_30 rfl ?_
    refine e_get (.ref (y + 41)) dX5_wouldLeave_31 tf_5_46 (congrArg Prod.fst (ma_s0 hk)) (congrArg va_rf (ma_r0_10 hk)) ?_
    refine e_iload_n dX5_wouldLeave_34 rfl ?_
    refine z_bipush (7) dX5_wouldLeave_35 rfl ?_
    refine z_imul dX5_wouldLeave_37 ?_
    refine e_iload_n dX5_wouldLeave_38 rfl ?_
    refine z_iadd dX5_wouldLeave_39 ?_
    refine z_ild (uR g u d) dX5_wouldLeave_40 (ma_s41 hk) (by decide) (by omega) (by omega) (HD.2.2.2.2 u d (by omega) (by omega) (by omega) (by omega)) ?_
    have y6 := @uR_b g (by omega) u d (by omega)
    refine e_aload_n dX5_wouldLeave_41 rfl ?_
    refine e_get (.ref (y + 41)) dX5_wouldLeave_42 tf_5_46 (congrArg Prod.fst (ma_s0 hk)) (congrArg va_rf (ma_r0_10 hk)) ?_
    refine e_iload_n dX5_wouldLeave_45 rfl ?_
    refine z_bipush (7) dX5_wouldLeave_46 rfl ?_
    refine z_imul dX5_wouldLeave_48 ?_
    refine e_aload_n dX5_wouldLeave_49 rfl ?_
    refine e_get (.ref (y + 34)) dX5_wouldLeave_50 tf_5_25 (congrArg Prod.fst (ma_s0 hk)) (congrArg va_rf (ma_r0_3 hk)) ?_
    refine e_iload_n dX5_wouldLeave_53 rfl ?_
    refine z_ild (oR r u) dX5_wouldLeave_54 (ma_s34 hk) (by decide) (by omega) (by omega) (mrC_o HW (by omega) (by omega)) ?_
    have y7 := oR_b HW.1.1 (show 0 ≤ u by omega) (by omega)
    refine z_iadd dX5_wouldLeave_55 ?_
    refine z_ild (uR g u (oR r u)) dX5_wouldLeave_56 (ma_s41 hk) (by decide) (by omega) (by omega) (HD.2.2.2.2 u (oR r u) (by omega) (by omega) (by omega) (by omega)) ?_
    have y8 := @uR_b g (by omega) u (oR r u) (by omega)
    refine z_icmp_ge 64 dX5_wouldLeave_57 rfl ⟨by omega, by omega⟩ ⟨by omega, by omega⟩ (fun c9 => ?_) (fun c9 => ?_)
    · skip
      refine z_iconst (0) dX5_wouldLeave_64 rfl ?_
      refine z_bret dX5_wouldLeave_65 rfl (Or.inl rfl) ⟨rfl, ?_⟩
      refine z_q kq ?_
      rw [lvB_r (by omega) HW.1.1 (by omega) (by omega)]; first | exact (bZ_1 ⟨by omega, by omega⟩).symm | exact (bZ_0 (by omega)).symm
    · skip
      refine z_iconst (1) dX5_wouldLeave_60 rfl ?_
      refine e_goto 65 dX5_wouldLeave_61 rfl ?_
      refine z_bret dX5_wouldLeave_65 rfl (Or.inr rfl) ⟨rfl, ?_⟩
      refine z_q kq ?_
      rw [lvB_r (by omega) HW.1.1 (by omega) (by omega)]; first | exact (bZ_1 ⟨by omega, by omega⟩).symm | exact (bZ_0 (by omega)).symm
set_option maxHeartbeats 1000000 in
theorem zp_X5_leavingCouples {ad : mA} {dd : Nat} {h : mH} {Q : mQ} {y : Nat} {g r : Int → Int} (hk : mak h y) (HF : isF h (y + 1) g) (HD : bdC h y g) (HW : mrC h y g r)    (kq : Q (some (.int (zI (lvN g r)))) h) : mCal TB0 ad (dd + 2) M_X5_leavingCouples [.ref y] h 0 0 Q := by
  refine ⟨Nat.le_of_ble_eq_true rfl, ?_⟩
  show mEv TB0 ad M_X5_leavingCouples (dd + 2) (0, 0) (mCal TB0 ad (dd + 1)) (fun v h' z => z.1 = 0 ∧ Q v h') 0 [some (.ref y), none, none, none] [] h (0, 0)
  have w1 := isF_n HF
  have W := isF_w HF
  refine z_iconst (0) dX5_leavingCouples_0 rfl ?_
  refine e_istore_n (L' := [_, _, _, _]) dX5_leavingCouples_1 (Nat.le_of_ble_eq_true rfl) rfl ?_
  refine z_iconst (0) dX5_leavingCouples_2 rfl ?_
  refine e_istore_n (L' := [_, _, _, _]) dX5_leavingCouples_3 (Nat.le_of_ble_eq_true rfl) rfl ?_
  have lp1 : ∀ (n1 : Nat) (t d : Int), (nd g - d).toNat = n1 → (0 ≤ d ∧ d ≤ nd g) → (0 ≤ t ∧ t ≤ 6 * d) → (t = sumZ (fun d => sumZ (fun u => lvB g r d u) (nu g).toNat) d.toNat) → mEv TB0 ad M_X5_leavingCouples (dd + 2) (0, 0) (mCal TB0 ad (dd + 1)) (fun v h' z => z.1 = 0 ∧ Q v h') 4 [some (.ref y), some (.int (zI t)), some (.int (zI d)), none] [] h (0, 0) := by
    intro n1
    induction n1 using Nat.strongRecOn with
    | ind n1 ih1 =>
    intro t d  hn1  I1 I2 I3
    refine e_iload_n dX5_leavingCouples_4 rfl ?_
    refine e_aload_n dX5_leavingCouples_5 rfl ?_
    refine e_get (.ref (y + 1)) dX5_leavingCouples_6 tf_5_12 (congrArg Prod.fst (ma_s0 hk)) (congrArg va_rf (ma_r0_0 hk)) ?_
    refine e_get (.ref (y + 2)) dX5_leavingCouples_9 tf_5_53 (congrArg Prod.fst (ma_s1 hk)) (congrArg va_rf (ma_r1_0 hk)) ?_
    refine z_get (nd g) dX5_leavingCouples_12 tf_5_57 (congrArg Prod.fst (ma_s2 hk)) (Or.inl rfl) (isF_nd HF) ?_
    have y2 := isF_n HF
    refine z_icmp_ge 63 dX5_leavingCouples_15 rfl ⟨by omega, by omega⟩ ⟨by omega, by omega⟩ (fun c3 => ?_) (fun c3 => ?_)
    · skip
      refine e_iload_n dX5_leavingCouples_63 rfl ?_
      refine z_iret dX5_leavingCouples_64 rfl ⟨rfl, ?_⟩
      refine z_q kq ?_
      rw [I3, show d = nd g by omega]; rfl
    · skip
      refine z_iconst (0) dX5_leavingCouples_18 rfl ?_
      refine e_istore_n (L' := [_, _, _, _]) dX5_leavingCouples_19 (Nat.le_of_ble_eq_true rfl) rfl ?_
      have lp4 : ∀ (n4 : Nat) (n u : Int), (nu g - u).toNat = n4 → (0 ≤ u ∧ u ≤ nu g) → (t ≤ n ∧ n ≤ t + u) → (n = t + sumZ (fun u => lvB g r d u) u.toNat) → mEv TB0 ad M_X5_leavingCouples (dd + 2) (0, 0) (mCal TB0 ad (dd + 1)) (fun v h' z => z.1 = 0 ∧ Q v h') 20 [some (.ref y), some (.int (zI n)), some (.int (zI d)), some (.int (zI u))] [] h (0, 0) := by
        intro n4
        induction n4 using Nat.strongRecOn with
        | ind n4 ih4 =>
        intro n u  hn4  J1 J2 J3
        refine e_iload_n dX5_leavingCouples_20 rfl ?_
        refine e_aload_n dX5_leavingCouples_21 rfl ?_
        refine e_get (.ref (y + 1)) dX5_leavingCouples_22 tf_5_12 (congrArg Prod.fst (ma_s0 hk)) (congrArg va_rf (ma_r0_0 hk)) ?_
        refine e_get (.ref (y + 8)) dX5_leavingCouples_25 tf_5_67 (congrArg Prod.fst (ma_s1 hk)) (congrArg va_rf (ma_r1_1 hk)) ?_
        refine z_get (nu g) dX5_leavingCouples_28 tf_5_57 (congrArg Prod.fst (ma_s8 hk)) (Or.inl rfl) (isF_nu HF) ?_
        have y5 := isF_n HF
        refine z_icmp_ge 57 dX5_leavingCouples_31 rfl ⟨by omega, by omega⟩ ⟨by omega, by omega⟩ (fun c6 => ?_) (fun c6 => ?_)
        · skip
          refine z_iinc (L' := [_, _, _, _]) dX5_leavingCouples_57 rfl rfl ?_
          refine e_goto 4 dX5_leavingCouples_60 rfl ?_
          exact mEv_wk (by exact ⟨Or.inr rfl, Or.inr rfl, Or.inr rfl, Or.inl rfl, trivial⟩) (ih1 _ (by omega) n (d + 1)  rfl  (by omega) (by omega) (by rw [sumZ_s (by omega), ← I3]; rw [show nu g = u by omega]; exact J3))
        · skip
          refine e_iload_n dX5_leavingCouples_34 rfl ?_
          refine e_aload_n dX5_leavingCouples_35 rfl ?_
          refine e_iload_n dX5_leavingCouples_36 rfl ?_
          refine e_iload_n dX5_leavingCouples_37 rfl ?_
          refine e_callV [.int _, .int _] dX5_leavingCouples_38 tm_5_157 rfl (Nat.le_of_ble_eq_true rfl) (congrArg Prod.fst (ma_s0 hk)) (Nat.le_of_ble_eq_true rfl) (Nat.le_refl _) (Nat.le_refl _) rfl (zp_X5_wouldLeave hk HF HD HW d ⟨by omega, by omega⟩ u ⟨by omega, by omega⟩ (by omega) (by omega) ?_)
          have y7 := lvB_b g r d u
          refine z_if_eq 48 dX5_leavingCouples_41 rfl ⟨by omega, by omega⟩ (fun c8 => ?_) (fun c8 => ?_)
          · skip
            refine z_iconst (0) dX5_leavingCouples_48 rfl ?_
            refine z_iadd dX5_leavingCouples_49 ?_
            refine e_istore_n (L' := [_, _, _, _]) dX5_leavingCouples_50 (Nat.le_of_ble_eq_true rfl) rfl ?_
            refine z_iinc (L' := [_, _, _, _]) dX5_leavingCouples_51 rfl rfl ?_
            refine e_goto 20 dX5_leavingCouples_54 rfl ?_
            exact ih4 _ (by omega) (n + 0) (u + 1)  rfl  (by omega) (by omega) (by rw [sumZ_s (by omega)]; omega)
          · skip
            refine z_iconst (1) dX5_leavingCouples_44 rfl ?_
            refine e_goto 49 dX5_leavingCouples_45 rfl ?_
            refine z_iadd dX5_leavingCouples_49 ?_
            refine e_istore_n (L' := [_, _, _, _]) dX5_leavingCouples_50 (Nat.le_of_ble_eq_true rfl) rfl ?_
            refine z_iinc (L' := [_, _, _, _]) dX5_leavingCouples_51 rfl rfl ?_
            refine e_goto 20 dX5_leavingCouples_54 rfl ?_
            exact ih4 _ (by omega) (n + 1) (u + 1)  rfl  (by omega) (by omega) (by rw [sumZ_s (by omega)]; omega)
      exact lp4 _ t 0  rfl  (by omega) (by omega) (by show t = t + 0; omega)
  exact lp1 _ 0 0  rfl  (by omega) (by omega) rfl
set_option maxHeartbeats 1000000 in
theorem zp_X5_firstLeaving {ad : mA} {dd : Nat} {h : mH} {Q : mQ} {y : Nat} {g r : Int → Int} (hk : mak h y) (HF : isF h (y + 1) g) (HD : bdC h y g) (HW : mrC h y g r)    (kq : ∀ v : Int, (flP g r v) → Q (some (.int (zI v))) h) : mCal TB0 ad (dd + 2) M_X5_firstLeaving [.ref y] h 0 0 Q := by
  refine ⟨Nat.le_of_ble_eq_true rfl, ?_⟩
  show mEv TB0 ad M_X5_firstLeaving (dd + 2) (0, 0) (mCal TB0 ad (dd + 1)) (fun v h' z => z.1 = 0 ∧ Q v h') 0 [some (.ref y), none, none] [] h (0, 0)
  have w1 := isF_n HF
  have W := isF_w HF
  refine z_iconst (0) dX5_firstLeaving_0 rfl ?_
  refine e_istore_n (L' := [_, _, _]) dX5_firstLeaving_1 (Nat.le_of_ble_eq_true rfl) rfl ?_
  have lp1 : ∀ (n1 : Nat) (d : Int), (nd g - d).toNat = n1 → (0 ≤ d ∧ d ≤ nd g) → (∀ e x, 0 ≤ e → e < nd g → 0 ≤ x → x < nu g → (e < d ∨ (e = d ∧ x < 0)) → ¬ lvP g r e x) → mEv TB0 ad M_X5_firstLeaving (dd + 2) (0, 0) (mCal TB0 ad (dd + 1)) (fun v h' z => z.1 = 0 ∧ Q v h') 2 [some (.ref y), some (.int (zI d)), none] [] h (0, 0) := by
    intro n1
    induction n1 using Nat.strongRecOn with
    | ind n1 ih1 =>
    intro d  hn1  I1 I3
    refine e_iload_n dX5_firstLeaving_2 rfl ?_
    refine e_aload_n dX5_firstLeaving_3 rfl ?_
    refine e_get (.ref (y + 1)) dX5_firstLeaving_4 tf_5_12 (congrArg Prod.fst (ma_s0 hk)) (congrArg va_rf (ma_r0_0 hk)) ?_
    refine e_get (.ref (y + 2)) dX5_firstLeaving_7 tf_5_53 (congrArg Prod.fst (ma_s1 hk)) (congrArg va_rf (ma_r1_0 hk)) ?_
    refine z_get (nd g) dX5_firstLeaving_10 tf_5_57 (congrArg Prod.fst (ma_s2 hk)) (Or.inl rfl) (isF_nd HF) ?_
    have y2 := isF_n HF
    refine z_icmp_ge 60 dX5_firstLeaving_13 rfl ⟨by omega, by omega⟩ ⟨by omega, by omega⟩ (fun c3 => ?_) (fun c3 => ?_)
    · skip
      refine z_iconst (-1) dX5_firstLeaving_60 rfl ?_
      refine z_iret dX5_firstLeaving_61 rfl ⟨rfl, ?_⟩
      refine kq _ ?_
      first | exact Or.inl ⟨rfl, fun e x a b c k => I3 e x a b c k (by omega)⟩ | exact Or.inr ⟨d, u, by omega, rfl, lvB_y (by omega), J3⟩
    · skip
      refine z_iconst (0) dX5_firstLeaving_16 rfl ?_
      refine e_istore_n (L' := [_, _, _]) dX5_firstLeaving_17 (Nat.le_of_ble_eq_true rfl) rfl ?_
      have lp4 : ∀ (n4 : Nat) (u : Int), (nu g - u).toNat = n4 → (0 ≤ u ∧ u ≤ nu g) → (∀ e x, 0 ≤ e → e < nd g → 0 ≤ x → x < nu g → (e < d ∨ (e = d ∧ x < u)) → ¬ lvP g r e x) → mEv TB0 ad M_X5_firstLeaving (dd + 2) (0, 0) (mCal TB0 ad (dd + 1)) (fun v h' z => z.1 = 0 ∧ Q v h') 18 [some (.ref y), some (.int (zI d)), some (.int (zI u))] [] h (0, 0) := by
        intro n4
        induction n4 using Nat.strongRecOn with
        | ind n4 ih4 =>
        intro u  hn4  J1 J3
        refine e_iload_n dX5_firstLeaving_18 rfl ?_
        refine e_aload_n dX5_firstLeaving_19 rfl ?_
        refine e_get (.ref (y + 1)) dX5_firstLeaving_20 tf_5_12 (congrArg Prod.fst (ma_s0 hk)) (congrArg va_rf (ma_r0_0 hk)) ?_
        refine e_get (.ref (y + 8)) dX5_firstLeaving_23 tf_5_67 (congrArg Prod.fst (ma_s1 hk)) (congrArg va_rf (ma_r1_1 hk)) ?_
        refine z_get (nu g) dX5_firstLeaving_26 tf_5_57 (congrArg Prod.fst (ma_s8 hk)) (Or.inl rfl) (isF_nu HF) ?_
        have y5 := isF_n HF
        refine z_icmp_ge 54 dX5_firstLeaving_29 rfl ⟨by omega, by omega⟩ ⟨by omega, by omega⟩ (fun c6 => ?_) (fun c6 => ?_)
        · skip
          refine z_iinc (L' := [_, _, _]) dX5_firstLeaving_54 rfl rfl ?_
          refine e_goto 2 dX5_firstLeaving_57 rfl ?_
          exact mEv_wk (by exact ⟨Or.inr rfl, Or.inr rfl, Or.inl rfl, trivial⟩) (ih1 _ (by omega) (d + 1)  rfl  (by omega) (fun e x a b c k q => J3 e x a b c k (by omega)))
        · skip
          refine e_aload_n dX5_firstLeaving_32 rfl ?_
          refine e_iload_n dX5_firstLeaving_33 rfl ?_
          refine e_iload_n dX5_firstLeaving_34 rfl ?_
          refine e_callV [.int _, .int _] dX5_firstLeaving_35 tm_5_157 rfl (Nat.le_of_ble_eq_true rfl) (congrArg Prod.fst (ma_s0 hk)) (Nat.le_of_ble_eq_true rfl) (Nat.le_refl _) (Nat.le_refl _) rfl (zp_X5_wouldLeave hk HF HD HW d ⟨by omega, by omega⟩ u ⟨by omega, by omega⟩ (by omega) (by omega) ?_)
          have y7 := lvB_b g r d u
          refine z_if_eq 48 dX5_firstLeaving_38 rfl ⟨by omega, by omega⟩ (fun c8 => ?_) (fun c8 => ?_)
          · skip
            refine z_iinc (L' := [_, _, _]) dX5_firstLeaving_48 rfl rfl ?_
            refine e_goto 18 dX5_firstLeaving_51 rfl ?_
            exact ih4 _ (by omega) (u + 1)  rfl  (by omega) (fun e x a b c k q => by
                      by_cases z : e = d ∧ x = u
                      · rw [z.1, z.2]; exact lvB_n (by omega)
                      · exact J3 e x a b c k (by omega))
          · skip
            refine z_bipush (6) dX5_firstLeaving_41 rfl ?_
            refine e_iload_n dX5_firstLeaving_43 rfl ?_
            refine z_imul dX5_firstLeaving_44 ?_
            refine e_iload_n dX5_firstLeaving_45 rfl ?_
            refine z_iadd dX5_firstLeaving_46 ?_
            refine z_iret dX5_firstLeaving_47 rfl ⟨rfl, ?_⟩
            refine kq _ ?_
            first | exact Or.inl ⟨rfl, fun e x a b c k => I3 e x a b c k (by omega)⟩ | exact Or.inr ⟨d, u, by omega, rfl, lvB_y (by omega), J3⟩
      exact lp4 _ 0  rfl  (by omega) I3
  exact lp1 _ 0  rfl  (by omega) (fun e x a b c k q => by omega)
set_option maxHeartbeats 400000 in
theorem zp_X5_couples {ad : mA} {dd : Nat} {h : mH} {Q : mQ} {y : Nat} {g r : Int → Int} (hk : mak h y) (HF : isF h (y + 1) g) (HW : mrC h y g r)    (kq : Q (some (.int (zI (inR r)))) h) : mCal TB0 ad (dd + 1) M_X5_couples [.ref y] h 0 0 Q := by
  refine ⟨Nat.le_of_ble_eq_true rfl, ?_⟩
  show mEv TB0 ad M_X5_couples (dd + 1) (0, 0) (mCal TB0 ad (dd + 0)) (fun v h' z => z.1 = 0 ∧ Q v h') 0 [some (.ref y), none, none] [] h (0, 0)
  have w1 := isF_n HF
  have W := isF_w HF
  refine z_iconst (0) dX5_couples_0 rfl ?_
  refine e_istore_n (L' := [_, _, _]) dX5_couples_1 (Nat.le_of_ble_eq_true rfl) rfl ?_
  refine z_iconst (0) dX5_couples_2 rfl ?_
  refine e_istore_n (L' := [_, _, _]) dX5_couples_3 (Nat.le_of_ble_eq_true rfl) rfl ?_
  have lp1 : ∀ (n1 : Nat) (t d : Int), (nd g - d).toNat = n1 → (0 ≤ d ∧ d ≤ nd g) → (0 ≤ t ∧ t ≤ d) → (t = sumZ (fun d => bZ (r d < 6)) d.toNat) → mEv TB0 ad M_X5_couples (dd + 1) (0, 0) (mCal TB0 ad (dd + 0)) (fun v h' z => z.1 = 0 ∧ Q v h') 4 [some (.ref y), some (.int (zI t)), some (.int (zI d))] [] h (0, 0) := by
    intro n1
    induction n1 using Nat.strongRecOn with
    | ind n1 ih1 =>
    intro t d  hn1  I1 I2 I3
    refine e_iload_n dX5_couples_4 rfl ?_
    refine e_aload_n dX5_couples_5 rfl ?_
    refine e_get (.ref (y + 1)) dX5_couples_6 tf_5_12 (congrArg Prod.fst (ma_s0 hk)) (congrArg va_rf (ma_r0_0 hk)) ?_
    refine e_get (.ref (y + 2)) dX5_couples_9 tf_5_53 (congrArg Prod.fst (ma_s1 hk)) (congrArg va_rf (ma_r1_0 hk)) ?_
    refine z_get (nd g) dX5_couples_12 tf_5_57 (congrArg Prod.fst (ma_s2 hk)) (Or.inl rfl) (isF_nd HF) ?_
    have y2 := isF_n HF
    refine z_icmp_ge 43 dX5_couples_15 rfl ⟨by omega, by omega⟩ ⟨by omega, by omega⟩ (fun c3 => ?_) (fun c3 => ?_)
    · skip
      refine e_iload_n dX5_couples_43 rfl ?_
      refine z_iret dX5_couples_44 rfl ⟨rfl, ?_⟩
      refine z_q kq ?_
      rw [inR_n (by omega) HW.1.1, I3, show d = nd g by omega]
    · skip
      refine e_iload_n dX5_couples_18 rfl ?_
      refine e_aload_n dX5_couples_19 rfl ?_
      refine e_get (.ref (y + 33)) dX5_couples_20 tf_5_21 (congrArg Prod.fst (ma_s0 hk)) (congrArg va_rf (ma_r0_2 hk)) ?_
      refine e_iload_n dX5_couples_23 rfl ?_
      refine z_ild (r d) dX5_couples_24 (ma_s33 hk) (by decide) (by omega) (by omega) (HW.2.1 d (by omega) (by omega)) ?_
      have y4 := isRw_f HW.1.1 (show 0 ≤ d by omega) (by omega)
      have y5 := HW.1.2 d (by omega) (by omega)
      refine z_bipush (6) dX5_couples_25 rfl ?_
      refine z_icmp_eq 34 dX5_couples_27 rfl ⟨by omega, by omega⟩ ⟨by omega, by omega⟩ (fun c6 => ?_) (fun c6 => ?_)
      · skip
        refine z_iconst (0) dX5_couples_34 rfl ?_
        refine z_iadd dX5_couples_35 ?_
        refine e_istore_n (L' := [_, _, _]) dX5_couples_36 (Nat.le_of_ble_eq_true rfl) rfl ?_
        refine z_iinc (L' := [_, _, _]) dX5_couples_37 rfl rfl ?_
        refine e_goto 4 dX5_couples_40 rfl ?_
        exact ih1 _ (by omega) (t + 0) (d + 1)  rfl  (by omega) (by omega) (by rw [sumZ_s (by omega)]; first | (rw [bZ_1 (by omega)]; omega) | (rw [bZ_0 (by omega)]; omega))
      · skip
        refine z_iconst (1) dX5_couples_30 rfl ?_
        refine e_goto 35 dX5_couples_31 rfl ?_
        refine z_iadd dX5_couples_35 ?_
        refine e_istore_n (L' := [_, _, _]) dX5_couples_36 (Nat.le_of_ble_eq_true rfl) rfl ?_
        refine z_iinc (L' := [_, _, _]) dX5_couples_37 rfl rfl ?_
        refine e_goto 4 dX5_couples_40 rfl ?_
        exact ih1 _ (by omega) (t + 1) (d + 1)  rfl  (by omega) (by omega) (by rw [sumZ_s (by omega)]; first | (rw [bZ_1 (by omega)]; omega) | (rw [bZ_0 (by omega)]; omega))
  exact lp1 _ 0 0  rfl  (by omega) (by omega) rfl
set_option maxHeartbeats 400000 in
theorem zp_X5_changes {ad : mA} {dd : Nat} {h : mH} {Q : mQ} {y : Nat} {g r : Int → Int} (hk : mak h y) (HF : isF h (y + 1) g) (HD : bdC h y g) (HW : mrC h y g r)    (kq : Q (some (.int (zI (chR g r)))) h) : mCal TB0 ad (dd + 1) M_X5_changes [.ref y] h 0 0 Q := by
  refine ⟨Nat.le_of_ble_eq_true rfl, ?_⟩
  show mEv TB0 ad M_X5_changes (dd + 1) (0, 0) (mCal TB0 ad (dd + 0)) (fun v h' z => z.1 = 0 ∧ Q v h') 0 [some (.ref y), none, none] [] h (0, 0)
  have w1 := isF_n HF
  have W := isF_w HF
  refine z_iconst (0) dX5_changes_0 rfl ?_
  refine e_istore_n (L' := [_, _, _]) dX5_changes_1 (Nat.le_of_ble_eq_true rfl) rfl ?_
  refine z_iconst (0) dX5_changes_2 rfl ?_
  refine e_istore_n (L' := [_, _, _]) dX5_changes_3 (Nat.le_of_ble_eq_true rfl) rfl ?_
  have lp1 : ∀ (n1 : Nat) (t d : Int), (nd g - d).toNat = n1 → (0 ≤ d ∧ d ≤ nd g) → (0 ≤ t ∧ t ≤ d) → (t = sumZ (fun d => bZ (r d ≠ tlR g d)) d.toNat) → mEv TB0 ad M_X5_changes (dd + 1) (0, 0) (mCal TB0 ad (dd + 0)) (fun v h' z => z.1 = 0 ∧ Q v h') 4 [some (.ref y), some (.int (zI t)), some (.int (zI d))] [] h (0, 0) := by
    intro n1
    induction n1 using Nat.strongRecOn with
    | ind n1 ih1 =>
    intro t d  hn1  I1 I2 I3
    refine e_iload_n dX5_changes_4 rfl ?_
    refine e_aload_n dX5_changes_5 rfl ?_
    refine e_get (.ref (y + 1)) dX5_changes_6 tf_5_12 (congrArg Prod.fst (ma_s0 hk)) (congrArg va_rf (ma_r0_0 hk)) ?_
    refine e_get (.ref (y + 2)) dX5_changes_9 tf_5_53 (congrArg Prod.fst (ma_s1 hk)) (congrArg va_rf (ma_r1_0 hk)) ?_
    refine z_get (nd g) dX5_changes_12 tf_5_57 (congrArg Prod.fst (ma_s2 hk)) (Or.inl rfl) (isF_nd HF) ?_
    have y2 := isF_n HF
    refine z_icmp_ge 47 dX5_changes_15 rfl ⟨by omega, by omega⟩ ⟨by omega, by omega⟩ (fun c3 => ?_) (fun c3 => ?_)
    · skip
      refine e_iload_n dX5_changes_47 rfl ?_
      refine z_iret dX5_changes_48 rfl ⟨rfl, ?_⟩
      refine z_q kq ?_
      rw [I3, show d = nd g by omega]; rfl
    · skip
      refine e_iload_n dX5_changes_18 rfl ?_
      refine e_aload_n dX5_changes_19 rfl ?_
      refine e_get (.ref (y + 33)) dX5_changes_20 tf_5_21 (congrArg Prod.fst (ma_s0 hk)) (congrArg va_rf (ma_r0_2 hk)) ?_
      refine e_iload_n dX5_changes_23 rfl ?_
      refine z_ild (r d) dX5_changes_24 (ma_s33 hk) (by decide) (by omega) (by omega) (HW.2.1 d (by omega) (by omega)) ?_
      have y4 := isRw_f HW.1.1 (show 0 ≤ d by omega) (by omega)
      have y5 := HW.1.2 d (by omega) (by omega)
      refine e_aload_n dX5_changes_25 rfl ?_
      refine e_get (.ref (y + 35)) dX5_changes_26 tf_5_28 (congrArg Prod.fst (ma_s0 hk)) (congrArg va_rf (ma_r0_4 hk)) ?_
      refine e_iload_n dX5_changes_29 rfl ?_
      refine z_ild (tlR g d) dX5_changes_30 (ma_s35 hk) (by decide) (by omega) (by omega) (HD.2.1 d (by omega) (by omega)) ?_
      have y6 := tlR_b HD.1 d
      refine z_icmp_eq 38 dX5_changes_31 rfl ⟨by omega, by omega⟩ ⟨by omega, by omega⟩ (fun c7 => ?_) (fun c7 => ?_)
      · skip
        refine z_iconst (0) dX5_changes_38 rfl ?_
        refine z_iadd dX5_changes_39 ?_
        refine e_istore_n (L' := [_, _, _]) dX5_changes_40 (Nat.le_of_ble_eq_true rfl) rfl ?_
        refine z_iinc (L' := [_, _, _]) dX5_changes_41 rfl rfl ?_
        refine e_goto 4 dX5_changes_44 rfl ?_
        exact ih1 _ (by omega) (t + 0) (d + 1)  rfl  (by omega) (by omega) (by rw [sumZ_s (by omega)]; first | (rw [bZ_1 (by omega)]; omega) | (rw [bZ_0 (by omega)]; omega))
      · skip
        refine z_iconst (1) dX5_changes_34 rfl ?_
        refine e_goto 39 dX5_changes_35 rfl ?_
        refine z_iadd dX5_changes_39 ?_
        refine e_istore_n (L' := [_, _, _]) dX5_changes_40 (Nat.le_of_ble_eq_true rfl) rfl ?_
        refine z_iinc (L' := [_, _, _]) dX5_changes_41 rfl rfl ?_
        refine e_goto 4 dX5_changes_44 rfl ?_
        exact ih1 _ (by omega) (t + 1) (d + 1)  rfl  (by omega) (by omega) (by rw [sumZ_s (by omega)]; first | (rw [bZ_1 (by omega)]; omega) | (rw [bZ_0 (by omega)]; omega))
  exact lp1 _ 0 0  rfl  (by omega) (by omega) rfl
set_option maxHeartbeats 400000 in
theorem zp_X5_sumOfFits {ad : mA} {dd : Nat} {h : mH} {Q : mQ} {y : Nat} {g r : Int → Int} (hk : mak h y) (HF : isF h (y + 1) g) (HD : bdC h y g) (HW : mrC h y g r)    (kq : Q (some (.int (zI (sfR g r)))) h) : mCal TB0 ad (dd + 1) M_X5_sumOfFits [.ref y] h 0 0 Q := by
  refine ⟨Nat.le_of_ble_eq_true rfl, ?_⟩
  show mEv TB0 ad M_X5_sumOfFits (dd + 1) (0, 0) (mCal TB0 ad (dd + 0)) (fun v h' z => z.1 = 0 ∧ Q v h') 0 [some (.ref y), none, none] [] h (0, 0)
  have w1 := isF_n HF
  have W := isF_w HF
  refine z_iconst (0) dX5_sumOfFits_0 rfl ?_
  refine e_istore_n (L' := [_, _, _]) dX5_sumOfFits_1 (Nat.le_of_ble_eq_true rfl) rfl ?_
  refine z_iconst (0) dX5_sumOfFits_2 rfl ?_
  refine e_istore_n (L' := [_, _, _]) dX5_sumOfFits_3 (Nat.le_of_ble_eq_true rfl) rfl ?_
  have lp1 : ∀ (n1 : Nat) (t d : Int), (nd g - d).toNat = n1 → (0 ≤ d ∧ d ≤ nd g) → (0 ≤ t ∧ t ≤ 30 * d) → (t = sumZ (fun d => if r d < 6 then fitZ g d (r d) else 0) d.toNat) → mEv TB0 ad M_X5_sumOfFits (dd + 1) (0, 0) (mCal TB0 ad (dd + 0)) (fun v h' z => z.1 = 0 ∧ Q v h') 4 [some (.ref y), some (.int (zI t)), some (.int (zI d))] [] h (0, 0) := by
    intro n1
    induction n1 using Nat.strongRecOn with
    | ind n1 ih1 =>
    intro t d  hn1  I1 I2 I3
    refine e_iload_n dX5_sumOfFits_4 rfl ?_
    refine e_aload_n dX5_sumOfFits_5 rfl ?_
    refine e_get (.ref (y + 1)) dX5_sumOfFits_6 tf_5_12 (congrArg Prod.fst (ma_s0 hk)) (congrArg va_rf (ma_r0_0 hk)) ?_
    refine e_get (.ref (y + 2)) dX5_sumOfFits_9 tf_5_53 (congrArg Prod.fst (ma_s1 hk)) (congrArg va_rf (ma_r1_0 hk)) ?_
    refine z_get (nd g) dX5_sumOfFits_12 tf_5_57 (congrArg Prod.fst (ma_s2 hk)) (Or.inl rfl) (isF_nd HF) ?_
    have y2 := isF_n HF
    refine z_icmp_ge 58 dX5_sumOfFits_15 rfl ⟨by omega, by omega⟩ ⟨by omega, by omega⟩ (fun c3 => ?_) (fun c3 => ?_)
    · skip
      refine e_iload_n dX5_sumOfFits_58 rfl ?_
      refine z_iret dX5_sumOfFits_59 rfl ⟨rfl, ?_⟩
      refine z_q kq ?_
      rw [sfR_n (by omega) HW.1.1, I3, show d = nd g by omega]
    · skip
      refine e_iload_n dX5_sumOfFits_18 rfl ?_
      refine e_aload_n dX5_sumOfFits_19 rfl ?_
      refine e_get (.ref (y + 33)) dX5_sumOfFits_20 tf_5_21 (congrArg Prod.fst (ma_s0 hk)) (congrArg va_rf (ma_r0_2 hk)) ?_
      refine e_iload_n dX5_sumOfFits_23 rfl ?_
      refine z_ild (r d) dX5_sumOfFits_24 (ma_s33 hk) (by decide) (by omega) (by omega) (HW.2.1 d (by omega) (by omega)) ?_
      have y4 := isRw_f HW.1.1 (show 0 ≤ d by omega) (by omega)
      have y5 := HW.1.2 d (by omega) (by omega)
      refine z_bipush (6) dX5_sumOfFits_25 rfl ?_
      refine z_icmp_eq 49 dX5_sumOfFits_27 rfl ⟨by omega, by omega⟩ ⟨by omega, by omega⟩ (fun c6 => ?_) (fun c6 => ?_)
      · skip
        refine z_iconst (0) dX5_sumOfFits_49 rfl ?_
        refine z_iadd dX5_sumOfFits_50 ?_
        refine e_istore_n (L' := [_, _, _]) dX5_sumOfFits_51 (Nat.le_of_ble_eq_true rfl) rfl ?_
        refine z_iinc (L' := [_, _, _]) dX5_sumOfFits_52 rfl rfl ?_
        refine e_goto 4 dX5_sumOfFits_55 rfl ?_
        exact ih1 _ (by omega) (t + 0) (d + 1)  rfl  (by omega) (by omega) (by rw [sumZ_s (by omega)]; first | (rw [if_pos (by omega)]; omega) | (rw [if_neg (by omega)]; omega))
      · skip
        refine e_aload_n dX5_sumOfFits_30 rfl ?_
        refine e_get (.ref (y + 39)) dX5_sumOfFits_31 tf_5_40 (congrArg Prod.fst (ma_s0 hk)) (congrArg va_rf (ma_r0_8 hk)) ?_
        refine e_iload_n dX5_sumOfFits_34 rfl ?_
        refine z_bipush (7) dX5_sumOfFits_35 rfl ?_
        refine z_imul dX5_sumOfFits_37 ?_
        refine e_aload_n dX5_sumOfFits_38 rfl ?_
        refine e_get (.ref (y + 33)) dX5_sumOfFits_39 tf_5_21 (congrArg Prod.fst (ma_s0 hk)) (congrArg va_rf (ma_r0_2 hk)) ?_
        refine e_iload_n dX5_sumOfFits_42 rfl ?_
        refine z_ild (r d) dX5_sumOfFits_43 (ma_s33 hk) (by decide) (by omega) (by omega) (HW.2.1 d (by omega) (by omega)) ?_
        have y7 := isRw_f HW.1.1 (show 0 ≤ d by omega) (by omega)
        have y8 := HW.1.2 d (by omega) (by omega)
        refine z_iadd dX5_sumOfFits_44 ?_
        refine z_ild (fitZ g d (r d)) dX5_sumOfFits_45 (ma_s39 hk) (by decide) (by omega) (by omega) (HD.2.2.1 d (r d) (by omega) (by omega) (by omega) (by omega)) ?_
        have y9 := fitZ_b g d (r d)
        refine e_goto 50 dX5_sumOfFits_46 rfl ?_
        refine z_iadd dX5_sumOfFits_50 ?_
        refine e_istore_n (L' := [_, _, _]) dX5_sumOfFits_51 (Nat.le_of_ble_eq_true rfl) rfl ?_
        refine z_iinc (L' := [_, _, _]) dX5_sumOfFits_52 rfl rfl ?_
        refine e_goto 4 dX5_sumOfFits_55 rfl ?_
        exact ih1 _ (by omega) (t + (fitZ g d (r d))) (d + 1)  rfl  (by omega) (by omega) (by rw [sumZ_s (by omega)]; first | (rw [if_pos (by omega)]; omega) | (rw [if_neg (by omega)]; omega))
  exact lp1 _ 0 0  rfl  (by omega) (by omega) rfl
set_option maxHeartbeats 1000000 in
theorem zp_X5_leastFit {ad : mA} {dd : Nat} {h : mH} {Q : mQ} {y : Nat} {g r : Int → Int} (hk : mak h y) (HF : isF h (y + 1) g) (HD : bdC h y g) (HW : mrC h y g r)    (kq : Q (some (.int (zI (if lfR g r = 1000000 then -1 else lfR g r)))) h) : mCal TB0 ad (dd + 1) M_X5_leastFit [.ref y] h 0 0 Q := by
  refine ⟨Nat.le_of_ble_eq_true rfl, ?_⟩
  show mEv TB0 ad M_X5_leastFit (dd + 1) (0, 0) (mCal TB0 ad (dd + 0)) (fun v h' z => z.1 = 0 ∧ Q v h') 0 [some (.ref y), none, none] [] h (0, 0)
  have w1 := isF_n HF
  have W := isF_w HF
  refine z_iconst (-1) dX5_leastFit_0 rfl ?_
  refine e_istore_n (L' := [_, _, _]) dX5_leastFit_1 (Nat.le_of_ble_eq_true rfl) rfl ?_
  refine z_iconst (0) dX5_leastFit_2 rfl ?_
  refine e_istore_n (L' := [_, _, _]) dX5_leastFit_3 (Nat.le_of_ble_eq_true rfl) rfl ?_
  have lp1 : ∀ (n1 : Nat) (t d : Int), (nd g - d).toNat = n1 → (0 ≤ d ∧ d ≤ nd g) → (-1 ≤ t ∧ t ≤ 30) → ((t = -1 ∧ lmN g r d.toNat = 1000000) ∨ (t ≠ -1 ∧ t = lmN g r d.toNat)) → mEv TB0 ad M_X5_leastFit (dd + 1) (0, 0) (mCal TB0 ad (dd + 0)) (fun v h' z => z.1 = 0 ∧ Q v h') 4 [some (.ref y), some (.int (zI t)), some (.int (zI d))] [] h (0, 0) := by
    intro n1
    induction n1 using Nat.strongRecOn with
    | ind n1 ih1 =>
    intro t d  hn1  I1 I2 I3
    refine e_iload_n dX5_leastFit_4 rfl ?_
    refine e_aload_n dX5_leastFit_5 rfl ?_
    refine e_get (.ref (y + 1)) dX5_leastFit_6 tf_5_12 (congrArg Prod.fst (ma_s0 hk)) (congrArg va_rf (ma_r0_0 hk)) ?_
    refine e_get (.ref (y + 2)) dX5_leastFit_9 tf_5_53 (congrArg Prod.fst (ma_s1 hk)) (congrArg va_rf (ma_r1_0 hk)) ?_
    refine z_get (nd g) dX5_leastFit_12 tf_5_57 (congrArg Prod.fst (ma_s2 hk)) (Or.inl rfl) (isF_nd HF) ?_
    have y2 := isF_n HF
    refine z_icmp_ge 77 dX5_leastFit_15 rfl ⟨by omega, by omega⟩ ⟨by omega, by omega⟩ (fun c3 => ?_) (fun c3 => ?_)
    · skip
      refine e_iload_n dX5_leastFit_77 rfl ?_
      refine z_iret dX5_leastFit_78 rfl ⟨rfl, ?_⟩
      refine z_q kq ?_
      rw [lm_o (by omega) HW.1.1, show nd g = d by omega]; rcases I3 with q | q
      · rw [if_pos q.2]; exact q.1
      · rw [if_neg (by omega)]; exact q.2
    · skip
      refine e_aload_n dX5_leastFit_18 rfl ?_
      refine e_get (.ref (y + 33)) dX5_leastFit_19 tf_5_21 (congrArg Prod.fst (ma_s0 hk)) (congrArg va_rf (ma_r0_2 hk)) ?_
      refine e_iload_n dX5_leastFit_22 rfl ?_
      refine z_ild (r d) dX5_leastFit_23 (ma_s33 hk) (by decide) (by omega) (by omega) (HW.2.1 d (by omega) (by omega)) ?_
      have y4 := isRw_f HW.1.1 (show 0 ≤ d by omega) (by omega)
      have y5 := HW.1.2 d (by omega) (by omega)
      refine z_bipush (6) dX5_leastFit_24 rfl ?_
      refine z_icmp_eq 71 dX5_leastFit_26 rfl ⟨by omega, by omega⟩ ⟨by omega, by omega⟩ (fun c6 => ?_) (fun c6 => ?_)
      · skip
        refine z_iinc (L' := [_, _, _]) dX5_leastFit_71 rfl rfl ?_
        refine e_goto 4 dX5_leastFit_74 rfl ?_
        exact ih1 _ (by omega) t (d + 1)  rfl  (by omega) (by omega) (by rw [lm_s (by omega)]; first | (rw [if_pos (by omega)]; omega) | (rw [if_neg (by omega)]; exact I3))
      · skip
        refine e_iload_n dX5_leastFit_29 rfl ?_
        refine z_iconst (-1) dX5_leastFit_30 rfl ?_
        refine z_icmp_eq 54 dX5_leastFit_31 rfl ⟨by omega, by omega⟩ ⟨by omega, by omega⟩ (fun c7 => ?_) (fun c7 => ?_)
        · skip
          refine e_aload_n dX5_leastFit_54 rfl ?_
          refine e_get (.ref (y + 39)) dX5_leastFit_55 tf_5_40 (congrArg Prod.fst (ma_s0 hk)) (congrArg va_rf (ma_r0_8 hk)) ?_
          refine e_iload_n dX5_leastFit_58 rfl ?_
          refine z_bipush (7) dX5_leastFit_59 rfl ?_
          refine z_imul dX5_leastFit_61 ?_
          refine e_aload_n dX5_leastFit_62 rfl ?_
          refine e_get (.ref (y + 33)) dX5_leastFit_63 tf_5_21 (congrArg Prod.fst (ma_s0 hk)) (congrArg va_rf (ma_r0_2 hk)) ?_
          refine e_iload_n dX5_leastFit_66 rfl ?_
          refine z_ild (r d) dX5_leastFit_67 (ma_s33 hk) (by decide) (by omega) (by omega) (HW.2.1 d (by omega) (by omega)) ?_
          have y8 := isRw_f HW.1.1 (show 0 ≤ d by omega) (by omega)
          have y9 := HW.1.2 d (by omega) (by omega)
          refine z_iadd dX5_leastFit_68 ?_
          refine z_ild (fitZ g d (r d)) dX5_leastFit_69 (ma_s39 hk) (by decide) (by omega) (by omega) (HD.2.2.1 d (r d) (by omega) (by omega) (by omega) (by omega)) ?_
          have y10 := fitZ_b g d (r d)
          refine e_istore_n (L' := [_, _, _]) dX5_leastFit_70 (Nat.le_of_ble_eq_true rfl) rfl ?_
          refine z_iinc (L' := [_, _, _]) dX5_leastFit_71 rfl rfl ?_
          refine e_goto 4 dX5_leastFit_74 rfl ?_
          exact ih1 _ (by omega) (fitZ g d (r d)) (d + 1)  rfl  (by omega) (by omega) (by rw [lm_s (by omega)]; first | (rw [if_pos (by omega)]; omega) | (rw [if_neg (by omega)]; exact I3))
        · skip
          refine e_aload_n dX5_leastFit_34 rfl ?_
          refine e_get (.ref (y + 39)) dX5_leastFit_35 tf_5_40 (congrArg Prod.fst (ma_s0 hk)) (congrArg va_rf (ma_r0_8 hk)) ?_
          refine e_iload_n dX5_leastFit_38 rfl ?_
          refine z_bipush (7) dX5_leastFit_39 rfl ?_
          refine z_imul dX5_leastFit_41 ?_
          refine e_aload_n dX5_leastFit_42 rfl ?_
          refine e_get (.ref (y + 33)) dX5_leastFit_43 tf_5_21 (congrArg Prod.fst (ma_s0 hk)) (congrArg va_rf (ma_r0_2 hk)) ?_
          refine e_iload_n dX5_leastFit_46 rfl ?_
          refine z_ild (r d) dX5_leastFit_47 (ma_s33 hk) (by decide) (by omega) (by omega) (HW.2.1 d (by omega) (by omega)) ?_
          have y11 := isRw_f HW.1.1 (show 0 ≤ d by omega) (by omega)
          have y12 := HW.1.2 d (by omega) (by omega)
          refine z_iadd dX5_leastFit_48 ?_
          refine z_ild (fitZ g d (r d)) dX5_leastFit_49 (ma_s39 hk) (by decide) (by omega) (by omega) (HD.2.2.1 d (r d) (by omega) (by omega) (by omega) (by omega)) ?_
          have y13 := fitZ_b g d (r d)
          refine e_iload_n dX5_leastFit_50 rfl ?_
          refine z_icmp_ge 71 dX5_leastFit_51 rfl ⟨by omega, by omega⟩ ⟨by omega, by omega⟩ (fun c14 => ?_) (fun c14 => ?_)
          · skip
            refine z_iinc (L' := [_, _, _]) dX5_leastFit_71 rfl rfl ?_
            refine e_goto 4 dX5_leastFit_74 rfl ?_
            exact ih1 _ (by omega) t (d + 1)  rfl  (by omega) (by omega) (by rw [lm_s (by omega)]; first | (rw [if_pos (by omega)]; omega) | (rw [if_neg (by omega)]; exact I3))
          · skip
            refine e_aload_n dX5_leastFit_54 rfl ?_
            refine e_get (.ref (y + 39)) dX5_leastFit_55 tf_5_40 (congrArg Prod.fst (ma_s0 hk)) (congrArg va_rf (ma_r0_8 hk)) ?_
            refine e_iload_n dX5_leastFit_58 rfl ?_
            refine z_bipush (7) dX5_leastFit_59 rfl ?_
            refine z_imul dX5_leastFit_61 ?_
            refine e_aload_n dX5_leastFit_62 rfl ?_
            refine e_get (.ref (y + 33)) dX5_leastFit_63 tf_5_21 (congrArg Prod.fst (ma_s0 hk)) (congrArg va_rf (ma_r0_2 hk)) ?_
            refine e_iload_n dX5_leastFit_66 rfl ?_
            refine z_ild (r d) dX5_leastFit_67 (ma_s33 hk) (by decide) (by omega) (by omega) (HW.2.1 d (by omega) (by omega)) ?_
            have y15 := isRw_f HW.1.1 (show 0 ≤ d by omega) (by omega)
            have y16 := HW.1.2 d (by omega) (by omega)
            refine z_iadd dX5_leastFit_68 ?_
            refine z_ild (fitZ g d (r d)) dX5_leastFit_69 (ma_s39 hk) (by decide) (by omega) (by omega) (HD.2.2.1 d (r d) (by omega) (by omega) (by omega) (by omega)) ?_
            have y17 := fitZ_b g d (r d)
            refine e_istore_n (L' := [_, _, _]) dX5_leastFit_70 (Nat.le_of_ble_eq_true rfl) rfl ?_
            refine z_iinc (L' := [_, _, _]) dX5_leastFit_71 rfl rfl ?_
            refine e_goto 4 dX5_leastFit_74 rfl ?_
            exact ih1 _ (by omega) (fitZ g d (r d)) (d + 1)  rfl  (by omega) (by omega) (by rw [lm_s (by omega)]; first | (rw [if_pos (by omega)]; omega) | (rw [if_neg (by omega)]; exact I3))
  exact lp1 _ (-1) 0  rfl  (by omega) (by omega) (Or.inl ⟨rfl, rfl⟩)
set_option maxHeartbeats 400000 in
theorem zp_X5_toPart {ad : mA} {dd : Nat} {h : mH} {Q : mQ} {y : Nat} {g r : Int → Int} (hk : mak h y) (HF : isF h (y + 1) g) (HD : bdC h y g) (HW : mrC h y g r)    (kq : Q (some (.int (zI (mvP g r)))) h) : mCal TB0 ad (dd + 1) M_X5_toPart [.ref y] h 0 0 Q := by
  refine ⟨Nat.le_of_ble_eq_true rfl, ?_⟩
  show mEv TB0 ad M_X5_toPart (dd + 1) (0, 0) (mCal TB0 ad (dd + 0)) (fun v h' z => z.1 = 0 ∧ Q v h') 0 [some (.ref y), none, none] [] h (0, 0)
  have w1 := isF_n HF
  have W := isF_w HF
  refine z_iconst (0) dX5_toPart_0 rfl ?_
  refine e_istore_n (L' := [_, _, _]) dX5_toPart_1 (Nat.le_of_ble_eq_true rfl) rfl ?_
  refine z_iconst (0) dX5_toPart_2 rfl ?_
  refine e_istore_n (L' := [_, _, _]) dX5_toPart_3 (Nat.le_of_ble_eq_true rfl) rfl ?_
  have lp1 : ∀ (n1 : Nat) (t d : Int), (nd g - d).toNat = n1 → (0 ≤ d ∧ d ≤ nd g) → (0 ≤ t ∧ t ≤ d) → (t = sumZ (fun d => bZ (tlR g d < 6 ∧ tlR g d ≠ r d)) d.toNat) → mEv TB0 ad M_X5_toPart (dd + 1) (0, 0) (mCal TB0 ad (dd + 0)) (fun v h' z => z.1 = 0 ∧ Q v h') 4 [some (.ref y), some (.int (zI t)), some (.int (zI d))] [] h (0, 0) := by
    intro n1
    induction n1 using Nat.strongRecOn with
    | ind n1 ih1 =>
    intro t d  hn1  I1 I2 I3
    refine e_iload_n dX5_toPart_4 rfl ?_
    refine e_aload_n dX5_toPart_5 rfl ?_
    refine e_get (.ref (y + 1)) dX5_toPart_6 tf_5_12 (congrArg Prod.fst (ma_s0 hk)) (congrArg va_rf (ma_r0_0 hk)) ?_
    refine e_get (.ref (y + 2)) dX5_toPart_9 tf_5_53 (congrArg Prod.fst (ma_s1 hk)) (congrArg va_rf (ma_r1_0 hk)) ?_
    refine z_get (nd g) dX5_toPart_12 tf_5_57 (congrArg Prod.fst (ma_s2 hk)) (Or.inl rfl) (isF_nd HF) ?_
    have y2 := isF_n HF
    refine z_icmp_ge 58 dX5_toPart_15 rfl ⟨by omega, by omega⟩ ⟨by omega, by omega⟩ (fun c3 => ?_) (fun c3 => ?_)
    · skip
      refine e_iload_n dX5_toPart_58 rfl ?_
      refine z_iret dX5_toPart_59 rfl ⟨rfl, ?_⟩
      refine z_q kq ?_
      rw [I3, show d = nd g by omega]; rfl
    · skip
      refine e_iload_n dX5_toPart_18 rfl ?_
      refine e_aload_n dX5_toPart_19 rfl ?_
      refine e_get (.ref (y + 35)) dX5_toPart_20 tf_5_28 (congrArg Prod.fst (ma_s0 hk)) (congrArg va_rf (ma_r0_4 hk)) ?_
      refine e_iload_n dX5_toPart_23 rfl ?_
      refine z_ild (tlR g d) dX5_toPart_24 (ma_s35 hk) (by decide) (by omega) (by omega) (HD.2.1 d (by omega) (by omega)) ?_
      have y4 := tlR_b HD.1 d
      refine z_bipush (6) dX5_toPart_25 rfl ?_
      refine z_icmp_eq 49 dX5_toPart_27 rfl ⟨by omega, by omega⟩ ⟨by omega, by omega⟩ (fun c5 => ?_) (fun c5 => ?_)
      · skip
        refine z_iconst (0) dX5_toPart_49 rfl ?_
        refine z_iadd dX5_toPart_50 ?_
        refine e_istore_n (L' := [_, _, _]) dX5_toPart_51 (Nat.le_of_ble_eq_true rfl) rfl ?_
        refine z_iinc (L' := [_, _, _]) dX5_toPart_52 rfl rfl ?_
        refine e_goto 4 dX5_toPart_55 rfl ?_
        exact ih1 _ (by omega) (t + 0) (d + 1)  rfl  (by omega) (by omega) (by rw [sumZ_s (by omega)]; first | (rw [bZ_1 (by omega)]; omega) | (rw [bZ_0 (by omega)]; omega))
      · skip
        refine e_aload_n dX5_toPart_30 rfl ?_
        refine e_get (.ref (y + 33)) dX5_toPart_31 tf_5_21 (congrArg Prod.fst (ma_s0 hk)) (congrArg va_rf (ma_r0_2 hk)) ?_
        refine e_iload_n dX5_toPart_34 rfl ?_
        refine z_ild (r d) dX5_toPart_35 (ma_s33 hk) (by decide) (by omega) (by omega) (HW.2.1 d (by omega) (by omega)) ?_
        have y6 := isRw_f HW.1.1 (show 0 ≤ d by omega) (by omega)
        have y7 := HW.1.2 d (by omega) (by omega)
        refine e_aload_n dX5_toPart_36 rfl ?_
        refine e_get (.ref (y + 35)) dX5_toPart_37 tf_5_28 (congrArg Prod.fst (ma_s0 hk)) (congrArg va_rf (ma_r0_4 hk)) ?_
        refine e_iload_n dX5_toPart_40 rfl ?_
        refine z_ild (tlR g d) dX5_toPart_41 (ma_s35 hk) (by decide) (by omega) (by omega) (HD.2.1 d (by omega) (by omega)) ?_
        have y8 := tlR_b HD.1 d
        refine z_icmp_eq 49 dX5_toPart_42 rfl ⟨by omega, by omega⟩ ⟨by omega, by omega⟩ (fun c9 => ?_) (fun c9 => ?_)
        · skip
          refine z_iconst (0) dX5_toPart_49 rfl ?_
          refine z_iadd dX5_toPart_50 ?_
          refine e_istore_n (L' := [_, _, _]) dX5_toPart_51 (Nat.le_of_ble_eq_true rfl) rfl ?_
          refine z_iinc (L' := [_, _, _]) dX5_toPart_52 rfl rfl ?_
          refine e_goto 4 dX5_toPart_55 rfl ?_
          exact ih1 _ (by omega) (t + 0) (d + 1)  rfl  (by omega) (by omega) (by rw [sumZ_s (by omega)]; first | (rw [bZ_1 (by omega)]; omega) | (rw [bZ_0 (by omega)]; omega))
        · skip
          refine z_iconst (1) dX5_toPart_45 rfl ?_
          refine e_goto 50 dX5_toPart_46 rfl ?_
          refine z_iadd dX5_toPart_50 ?_
          refine e_istore_n (L' := [_, _, _]) dX5_toPart_51 (Nat.le_of_ble_eq_true rfl) rfl ?_
          refine z_iinc (L' := [_, _, _]) dX5_toPart_52 rfl rfl ?_
          refine e_goto 4 dX5_toPart_55 rfl ?_
          exact ih1 _ (by omega) (t + 1) (d + 1)  rfl  (by omega) (by omega) (by rw [sumZ_s (by omega)]; first | (rw [bZ_1 (by omega)]; omega) | (rw [bZ_0 (by omega)]; omega))
  exact lp1 _ 0 0  rfl  (by omega) (by omega) rfl
set_option maxHeartbeats 400000 in
theorem zp_X5_toRivet {ad : mA} {dd : Nat} {h : mH} {Q : mQ} {y : Nat} {g r : Int → Int} (hk : mak h y) (HF : isF h (y + 1) g) (HD : bdC h y g) (HW : mrC h y g r)    (kq : Q (some (.int (zI (mvR g r)))) h) : mCal TB0 ad (dd + 1) M_X5_toRivet [.ref y] h 0 0 Q := by
  refine ⟨Nat.le_of_ble_eq_true rfl, ?_⟩
  show mEv TB0 ad M_X5_toRivet (dd + 1) (0, 0) (mCal TB0 ad (dd + 0)) (fun v h' z => z.1 = 0 ∧ Q v h') 0 [some (.ref y), none, none] [] h (0, 0)
  have w1 := isF_n HF
  have W := isF_w HF
  refine z_iconst (0) dX5_toRivet_0 rfl ?_
  refine e_istore_n (L' := [_, _, _]) dX5_toRivet_1 (Nat.le_of_ble_eq_true rfl) rfl ?_
  refine z_iconst (0) dX5_toRivet_2 rfl ?_
  refine e_istore_n (L' := [_, _, _]) dX5_toRivet_3 (Nat.le_of_ble_eq_true rfl) rfl ?_
  have lp1 : ∀ (n1 : Nat) (t d : Int), (nd g - d).toNat = n1 → (0 ≤ d ∧ d ≤ nd g) → (0 ≤ t ∧ t ≤ d) → (t = sumZ (fun d => bZ (r d < 6 ∧ tlR g d ≠ r d)) d.toNat) → mEv TB0 ad M_X5_toRivet (dd + 1) (0, 0) (mCal TB0 ad (dd + 0)) (fun v h' z => z.1 = 0 ∧ Q v h') 4 [some (.ref y), some (.int (zI t)), some (.int (zI d))] [] h (0, 0) := by
    intro n1
    induction n1 using Nat.strongRecOn with
    | ind n1 ih1 =>
    intro t d  hn1  I1 I2 I3
    refine e_iload_n dX5_toRivet_4 rfl ?_
    refine e_aload_n dX5_toRivet_5 rfl ?_
    refine e_get (.ref (y + 1)) dX5_toRivet_6 tf_5_12 (congrArg Prod.fst (ma_s0 hk)) (congrArg va_rf (ma_r0_0 hk)) ?_
    refine e_get (.ref (y + 2)) dX5_toRivet_9 tf_5_53 (congrArg Prod.fst (ma_s1 hk)) (congrArg va_rf (ma_r1_0 hk)) ?_
    refine z_get (nd g) dX5_toRivet_12 tf_5_57 (congrArg Prod.fst (ma_s2 hk)) (Or.inl rfl) (isF_nd HF) ?_
    have y2 := isF_n HF
    refine z_icmp_ge 58 dX5_toRivet_15 rfl ⟨by omega, by omega⟩ ⟨by omega, by omega⟩ (fun c3 => ?_) (fun c3 => ?_)
    · skip
      refine e_iload_n dX5_toRivet_58 rfl ?_
      refine z_iret dX5_toRivet_59 rfl ⟨rfl, ?_⟩
      refine z_q kq ?_
      rw [I3, show d = nd g by omega]; rfl
    · skip
      refine e_iload_n dX5_toRivet_18 rfl ?_
      refine e_aload_n dX5_toRivet_19 rfl ?_
      refine e_get (.ref (y + 33)) dX5_toRivet_20 tf_5_21 (congrArg Prod.fst (ma_s0 hk)) (congrArg va_rf (ma_r0_2 hk)) ?_
      refine e_iload_n dX5_toRivet_23 rfl ?_
      refine z_ild (r d) dX5_toRivet_24 (ma_s33 hk) (by decide) (by omega) (by omega) (HW.2.1 d (by omega) (by omega)) ?_
      have y4 := isRw_f HW.1.1 (show 0 ≤ d by omega) (by omega)
      have y5 := HW.1.2 d (by omega) (by omega)
      refine z_bipush (6) dX5_toRivet_25 rfl ?_
      refine z_icmp_eq 49 dX5_toRivet_27 rfl ⟨by omega, by omega⟩ ⟨by omega, by omega⟩ (fun c6 => ?_) (fun c6 => ?_)
      · skip
        refine z_iconst (0) dX5_toRivet_49 rfl ?_
        refine z_iadd dX5_toRivet_50 ?_
        refine e_istore_n (L' := [_, _, _]) dX5_toRivet_51 (Nat.le_of_ble_eq_true rfl) rfl ?_
        refine z_iinc (L' := [_, _, _]) dX5_toRivet_52 rfl rfl ?_
        refine e_goto 4 dX5_toRivet_55 rfl ?_
        exact ih1 _ (by omega) (t + 0) (d + 1)  rfl  (by omega) (by omega) (by rw [sumZ_s (by omega)]; first | (rw [bZ_1 (by omega)]; omega) | (rw [bZ_0 (by omega)]; omega))
      · skip
        refine e_aload_n dX5_toRivet_30 rfl ?_
        refine e_get (.ref (y + 33)) dX5_toRivet_31 tf_5_21 (congrArg Prod.fst (ma_s0 hk)) (congrArg va_rf (ma_r0_2 hk)) ?_
        refine e_iload_n dX5_toRivet_34 rfl ?_
        refine z_ild (r d) dX5_toRivet_35 (ma_s33 hk) (by decide) (by omega) (by omega) (HW.2.1 d (by omega) (by omega)) ?_
        have y7 := isRw_f HW.1.1 (show 0 ≤ d by omega) (by omega)
        have y8 := HW.1.2 d (by omega) (by omega)
        refine e_aload_n dX5_toRivet_36 rfl ?_
        refine e_get (.ref (y + 35)) dX5_toRivet_37 tf_5_28 (congrArg Prod.fst (ma_s0 hk)) (congrArg va_rf (ma_r0_4 hk)) ?_
        refine e_iload_n dX5_toRivet_40 rfl ?_
        refine z_ild (tlR g d) dX5_toRivet_41 (ma_s35 hk) (by decide) (by omega) (by omega) (HD.2.1 d (by omega) (by omega)) ?_
        have y9 := tlR_b HD.1 d
        refine z_icmp_eq 49 dX5_toRivet_42 rfl ⟨by omega, by omega⟩ ⟨by omega, by omega⟩ (fun c10 => ?_) (fun c10 => ?_)
        · skip
          refine z_iconst (0) dX5_toRivet_49 rfl ?_
          refine z_iadd dX5_toRivet_50 ?_
          refine e_istore_n (L' := [_, _, _]) dX5_toRivet_51 (Nat.le_of_ble_eq_true rfl) rfl ?_
          refine z_iinc (L' := [_, _, _]) dX5_toRivet_52 rfl rfl ?_
          refine e_goto 4 dX5_toRivet_55 rfl ?_
          exact ih1 _ (by omega) (t + 0) (d + 1)  rfl  (by omega) (by omega) (by rw [sumZ_s (by omega)]; first | (rw [bZ_1 (by omega)]; omega) | (rw [bZ_0 (by omega)]; omega))
        · skip
          refine z_iconst (1) dX5_toRivet_45 rfl ?_
          refine e_goto 50 dX5_toRivet_46 rfl ?_
          refine z_iadd dX5_toRivet_50 ?_
          refine e_istore_n (L' := [_, _, _]) dX5_toRivet_51 (Nat.le_of_ble_eq_true rfl) rfl ?_
          refine z_iinc (L' := [_, _, _]) dX5_toRivet_52 rfl rfl ?_
          refine e_goto 4 dX5_toRivet_55 rfl ?_
          exact ih1 _ (by omega) (t + 1) (d + 1)  rfl  (by omega) (by omega) (by rw [sumZ_s (by omega)]; first | (rw [bZ_1 (by omega)]; omega) | (rw [bZ_0 (by omega)]; omega))
  exact lp1 _ 0 0  rfl  (by omega) (by omega) rfl

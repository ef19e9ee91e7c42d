/-! GRIND -/
theorem dX3_weighGrinding_0 : decode cX3_weighGrinding 0 = .ok (.aload_n 0, 1) := by decide +kernel
theorem dX3_weighGrinding_1 : decode cX3_weighGrinding 1 = .ok (.getfield 11, 3) := by decide +kernel
theorem dX3_weighGrinding_4 : decode cX3_weighGrinding 4 = .ok (.iconst 0, 1) := by decide +kernel
theorem dX3_weighGrinding_5 : decode cX3_weighGrinding 5 = .ok (.invokestatic 39, 3) := by decide +kernel
theorem dX3_weighGrinding_8 : decode cX3_weighGrinding 8 = .ok (.iconst 1, 1) := by decide +kernel
theorem dX3_weighGrinding_9 : decode cX3_weighGrinding 9 = .ok (.istore_n 2, 1) := by decide +kernel
theorem dX3_weighGrinding_10 : decode cX3_weighGrinding 10 = .ok (.iload_n 2, 1) := by decide +kernel
theorem dX3_weighGrinding_11 : decode cX3_weighGrinding 11 = .ok (.iload_n 1, 1) := by decide +kernel
theorem dX3_weighGrinding_12 : decode cX3_weighGrinding 12 = .ok (.if_icmp .gt 92, 3) := by decide +kernel
theorem dX3_weighGrinding_15 : decode cX3_weighGrinding 15 = .ok (.iload_n 2, 1) := by decide +kernel
theorem dX3_weighGrinding_16 : decode cX3_weighGrinding 16 = .ok (.bipush 30, 2) := by decide +kernel
theorem dX3_weighGrinding_18 : decode cX3_weighGrinding 18 = .ok (.if_icmp .gt 86, 3) := by decide +kernel
theorem dX3_weighGrinding_21 : decode cX3_weighGrinding 21 = .ok (.iconst 0, 1) := by decide +kernel
theorem dX3_weighGrinding_22 : decode cX3_weighGrinding 22 = .ok (.istore_n 3, 1) := by decide +kernel
theorem dX3_weighGrinding_23 : decode cX3_weighGrinding 23 = .ok (.iload_n 3, 1) := by decide +kernel
theorem dX3_weighGrinding_24 : decode cX3_weighGrinding 24 = .ok (.bipush 21, 2) := by decide +kernel
theorem dX3_weighGrinding_26 : decode cX3_weighGrinding 26 = .ok (.if_icmp .ge 72, 3) := by decide +kernel
theorem dX3_weighGrinding_29 : decode cX3_weighGrinding 29 = .ok (.aload_n 0, 1) := by decide +kernel
theorem dX3_weighGrinding_30 : decode cX3_weighGrinding 30 = .ok (.getfield 11, 3) := by decide +kernel
theorem dX3_weighGrinding_33 : decode cX3_weighGrinding 33 = .ok (.iload_n 2, 1) := by decide +kernel
theorem dX3_weighGrinding_34 : decode cX3_weighGrinding 34 = .ok (.iconst 1, 1) := by decide +kernel
theorem dX3_weighGrinding_35 : decode cX3_weighGrinding 35 = .ok (.isub, 1) := by decide +kernel
theorem dX3_weighGrinding_36 : decode cX3_weighGrinding 36 = .ok (.bipush 21, 2) := by decide +kernel
theorem dX3_weighGrinding_38 : decode cX3_weighGrinding 38 = .ok (.imul, 1) := by decide +kernel
theorem dX3_weighGrinding_39 : decode cX3_weighGrinding 39 = .ok (.bipush 20, 2) := by decide +kernel
theorem dX3_weighGrinding_41 : decode cX3_weighGrinding 41 = .ok (.iload_n 3, 1) := by decide +kernel
theorem dX3_weighGrinding_42 : decode cX3_weighGrinding 42 = .ok (.iconst 5, 1) := by decide +kernel
theorem dX3_weighGrinding_43 : decode cX3_weighGrinding 43 = .ok (.iadd, 1) := by decide +kernel
theorem dX3_weighGrinding_44 : decode cX3_weighGrinding 44 = .ok (.invokestatic 45, 3) := by decide +kernel
theorem dX3_weighGrinding_47 : decode cX3_weighGrinding 47 = .ok (.iadd, 1) := by decide +kernel
theorem dX3_weighGrinding_48 : decode cX3_weighGrinding 48 = .ok (.iaload, 1) := by decide +kernel
theorem dX3_weighGrinding_49 : decode cX3_weighGrinding 49 = .ok (.istore 4, 2) := by decide +kernel
theorem dX3_weighGrinding_51 : decode cX3_weighGrinding 51 = .ok (.iload_n 3, 1) := by decide +kernel
theorem dX3_weighGrinding_52 : decode cX3_weighGrinding 52 = .ok (.aload_n 0, 1) := by decide +kernel
theorem dX3_weighGrinding_53 : decode cX3_weighGrinding 53 = .ok (.getfield 11, 3) := by decide +kernel
theorem dX3_weighGrinding_56 : decode cX3_weighGrinding 56 = .ok (.iload_n 2, 1) := by decide +kernel
theorem dX3_weighGrinding_57 : decode cX3_weighGrinding 57 = .ok (.iconst 1, 1) := by decide +kernel
theorem dX3_weighGrinding_58 : decode cX3_weighGrinding 58 = .ok (.isub, 1) := by decide +kernel
theorem dX3_weighGrinding_59 : decode cX3_weighGrinding 59 = .ok (.bipush 21, 2) := by decide +kernel
theorem dX3_weighGrinding_61 : decode cX3_weighGrinding 61 = .ok (.imul, 1) := by decide +kernel
theorem dX3_weighGrinding_62 : decode cX3_weighGrinding 62 = .ok (.iconst 0, 1) := by decide +kernel
theorem dX3_weighGrinding_63 : decode cX3_weighGrinding 63 = .ok (.iload_n 3, 1) := by decide +kernel
theorem dX3_weighGrinding_64 : decode cX3_weighGrinding 64 = .ok (.iconst 1, 1) := by decide +kernel
theorem dX3_weighGrinding_65 : decode cX3_weighGrinding 65 = .ok (.isub, 1) := by decide +kernel
theorem dX3_weighGrinding_66 : decode cX3_weighGrinding 66 = .ok (.invokestatic 51, 3) := by decide +kernel
theorem dX3_weighGrinding_69 : decode cX3_weighGrinding 69 = .ok (.iadd, 1) := by decide +kernel
theorem dX3_weighGrinding_70 : decode cX3_weighGrinding 70 = .ok (.iaload, 1) := by decide +kernel
theorem dX3_weighGrinding_71 : decode cX3_weighGrinding 71 = .ok (.iadd, 1) := by decide +kernel
theorem dX3_weighGrinding_72 : decode cX3_weighGrinding 72 = .ok (.istore 5, 2) := by decide +kernel
theorem dX3_weighGrinding_74 : decode cX3_weighGrinding 74 = .ok (.aload_n 0, 1) := by decide +kernel
theorem dX3_weighGrinding_75 : decode cX3_weighGrinding 75 = .ok (.getfield 11, 3) := by decide +kernel
theorem dX3_weighGrinding_78 : decode cX3_weighGrinding 78 = .ok (.iload_n 2, 1) := by decide +kernel
theorem dX3_weighGrinding_79 : decode cX3_weighGrinding 79 = .ok (.bipush 21, 2) := by decide +kernel
theorem dX3_weighGrinding_81 : decode cX3_weighGrinding 81 = .ok (.imul, 1) := by decide +kernel
theorem dX3_weighGrinding_82 : decode cX3_weighGrinding 82 = .ok (.iload_n 3, 1) := by decide +kernel
theorem dX3_weighGrinding_83 : decode cX3_weighGrinding 83 = .ok (.iadd, 1) := by decide +kernel
theorem dX3_weighGrinding_84 : decode cX3_weighGrinding 84 = .ok (.iload 5, 2) := by decide +kernel
theorem dX3_weighGrinding_86 : decode cX3_weighGrinding 86 = .ok (.iload 4, 2) := by decide +kernel
theorem dX3_weighGrinding_88 : decode cX3_weighGrinding 88 = .ok (.invokestatic 51, 3) := by decide +kernel
theorem dX3_weighGrinding_91 : decode cX3_weighGrinding 91 = .ok (.iastore, 1) := by decide +kernel
theorem dX3_weighGrinding_92 : decode cX3_weighGrinding 92 = .ok (.iinc 3 1, 3) := by decide +kernel
theorem dX3_weighGrinding_95 : decode cX3_weighGrinding 95 = .ok (.goto (-72), 3) := by decide +kernel
theorem dX3_weighGrinding_98 : decode cX3_weighGrinding 98 = .ok (.iinc 2 1, 3) := by decide +kernel
theorem dX3_weighGrinding_101 : decode cX3_weighGrinding 101 = .ok (.goto (-91), 3) := by decide +kernel
theorem dX3_weighGrinding_104 : decode cX3_weighGrinding 104 = .ok (.return_, 1) := by decide +kernel
theorem dX3_mostEarned_0 : decode cX3_mostEarned 0 = .ok (.iload_n 1, 1) := by decide +kernel
theorem dX3_mostEarned_1 : decode cX3_mostEarned 1 = .ok (.bipush 21, 2) := by decide +kernel
theorem dX3_mostEarned_3 : decode cX3_mostEarned 3 = .ok (.imul, 1) := by decide +kernel
theorem dX3_mostEarned_4 : decode cX3_mostEarned 4 = .ok (.iload_n 2, 1) := by decide +kernel
theorem dX3_mostEarned_5 : decode cX3_mostEarned 5 = .ok (.iadd, 1) := by decide +kernel
theorem dX3_mostEarned_6 : decode cX3_mostEarned 6 = .ok (.istore_n 3, 1) := by decide +kernel
theorem dX3_mostEarned_7 : decode cX3_mostEarned 7 = .ok (.iload_n 3, 1) := by decide +kernel
theorem dX3_mostEarned_8 : decode cX3_mostEarned 8 = .ok (.ifCond .lt 21, 3) := by decide +kernel
theorem dX3_mostEarned_11 : decode cX3_mostEarned 11 = .ok (.iload_n 3, 1) := by decide +kernel
theorem dX3_mostEarned_12 : decode cX3_mostEarned 12 = .ok (.aload_n 0, 1) := by decide +kernel
theorem dX3_mostEarned_13 : decode cX3_mostEarned 13 = .ok (.getfield 11, 3) := by decide +kernel
theorem dX3_mostEarned_16 : decode cX3_mostEarned 16 = .ok (.arraylength, 1) := by decide +kernel
theorem dX3_mostEarned_17 : decode cX3_mostEarned 17 = .ok (.if_icmp .ge 12, 3) := by decide +kernel
theorem dX3_mostEarned_20 : decode cX3_mostEarned 20 = .ok (.aload_n 0, 1) := by decide +kernel
theorem dX3_mostEarned_21 : decode cX3_mostEarned 21 = .ok (.getfield 11, 3) := by decide +kernel
theorem dX3_mostEarned_24 : decode cX3_mostEarned 24 = .ok (.iload_n 3, 1) := by decide +kernel
theorem dX3_mostEarned_25 : decode cX3_mostEarned 25 = .ok (.iaload, 1) := by decide +kernel
theorem dX3_mostEarned_26 : decode cX3_mostEarned 26 = .ok (.goto 4, 3) := by decide +kernel
theorem dX3_mostEarned_29 : decode cX3_mostEarned 29 = .ok (.iconst 0, 1) := by decide +kernel
theorem dX3_mostEarned_30 : decode cX3_mostEarned 30 = .ok (.ireturn, 1) := by decide +kernel
theorem dX3_firstGrinding_0 : decode cX3_firstGrinding 0 = .ok (.iload_n 2, 1) := by decide +kernel
theorem dX3_firstGrinding_1 : decode cX3_firstGrinding 1 = .ok (.istore_n 3, 1) := by decide +kernel
theorem dX3_firstGrinding_2 : decode cX3_firstGrinding 2 = .ok (.iconst 0, 1) := by decide +kernel
theorem dX3_firstGrinding_3 : decode cX3_firstGrinding 3 = .ok (.istore 4, 2) := by decide +kernel
theorem dX3_firstGrinding_5 : decode cX3_firstGrinding 5 = .ok (.iload 4, 2) := by decide +kernel
theorem dX3_firstGrinding_7 : decode cX3_firstGrinding 7 = .ok (.iload_n 1, 1) := by decide +kernel
theorem dX3_firstGrinding_8 : decode cX3_firstGrinding 8 = .ok (.if_icmp .ge 50, 3) := by decide +kernel
theorem dX3_firstGrinding_11 : decode cX3_firstGrinding 11 = .ok (.iconst 0, 1) := by decide +kernel
theorem dX3_firstGrinding_12 : decode cX3_firstGrinding 12 = .ok (.iload_n 3, 1) := by decide +kernel
theorem dX3_firstGrinding_13 : decode cX3_firstGrinding 13 = .ok (.iconst 1, 1) := by decide +kernel
theorem dX3_firstGrinding_14 : decode cX3_firstGrinding 14 = .ok (.isub, 1) := by decide +kernel
theorem dX3_firstGrinding_15 : decode cX3_firstGrinding 15 = .ok (.invokestatic 51, 3) := by decide +kernel
theorem dX3_firstGrinding_18 : decode cX3_firstGrinding 18 = .ok (.istore 5, 2) := by decide +kernel
theorem dX3_firstGrinding_20 : decode cX3_firstGrinding 20 = .ok (.iload_n 3, 1) := by decide +kernel
theorem dX3_firstGrinding_21 : decode cX3_firstGrinding 21 = .ok (.aload_n 0, 1) := by decide +kernel
theorem dX3_firstGrinding_22 : decode cX3_firstGrinding 22 = .ok (.iload_n 1, 1) := by decide +kernel
theorem dX3_firstGrinding_23 : decode cX3_firstGrinding 23 = .ok (.iload 4, 2) := by decide +kernel
theorem dX3_firstGrinding_25 : decode cX3_firstGrinding 25 = .ok (.isub, 1) := by decide +kernel
theorem dX3_firstGrinding_26 : decode cX3_firstGrinding 26 = .ok (.iconst 1, 1) := by decide +kernel
theorem dX3_firstGrinding_27 : decode cX3_firstGrinding 27 = .ok (.isub, 1) := by decide +kernel
theorem dX3_firstGrinding_28 : decode cX3_firstGrinding 28 = .ok (.iload 5, 2) := by decide +kernel
theorem dX3_firstGrinding_30 : decode cX3_firstGrinding 30 = .ok (.invokevirtual 54, 3) := by decide +kernel
theorem dX3_firstGrinding_33 : decode cX3_firstGrinding 33 = .ok (.iadd, 1) := by decide +kernel
theorem dX3_firstGrinding_34 : decode cX3_firstGrinding 34 = .ok (.aload_n 0, 1) := by decide +kernel
theorem dX3_firstGrinding_35 : decode cX3_firstGrinding 35 = .ok (.iload_n 1, 1) := by decide +kernel
theorem dX3_firstGrinding_36 : decode cX3_firstGrinding 36 = .ok (.iload 4, 2) := by decide +kernel
theorem dX3_firstGrinding_38 : decode cX3_firstGrinding 38 = .ok (.isub, 1) := by decide +kernel
theorem dX3_firstGrinding_39 : decode cX3_firstGrinding 39 = .ok (.iload_n 3, 1) := by decide +kernel
theorem dX3_firstGrinding_40 : decode cX3_firstGrinding 40 = .ok (.invokevirtual 54, 3) := by decide +kernel
theorem dX3_firstGrinding_43 : decode cX3_firstGrinding 43 = .ok (.if_icmp .ge 6, 3) := by decide +kernel
theorem dX3_firstGrinding_46 : decode cX3_firstGrinding 46 = .ok (.iload 4, 2) := by decide +kernel
theorem dX3_firstGrinding_48 : decode cX3_firstGrinding 48 = .ok (.ireturn, 1) := by decide +kernel
theorem dX3_firstGrinding_49 : decode cX3_firstGrinding 49 = .ok (.iload 5, 2) := by decide +kernel
theorem dX3_firstGrinding_51 : decode cX3_firstGrinding 51 = .ok (.istore_n 3, 1) := by decide +kernel
theorem dX3_firstGrinding_52 : decode cX3_firstGrinding 52 = .ok (.iinc 4 1, 3) := by decide +kernel
theorem dX3_firstGrinding_55 : decode cX3_firstGrinding 55 = .ok (.goto (-50), 3) := by decide +kernel
theorem dX3_firstGrinding_58 : decode cX3_firstGrinding 58 = .ok (.iconst (-1), 1) := by decide +kernel
theorem dX3_firstGrinding_59 : decode cX3_firstGrinding 59 = .ok (.ireturn, 1) := by decide +kernel
theorem dX11_grind_0 : decode cX11_grind 0 = .ok (.iload_n 1, 1) := by decide +kernel
theorem dX11_grind_1 : decode cX11_grind 1 = .ok (.ifCond .lt 19, 3) := by decide +kernel
theorem dX11_grind_4 : decode cX11_grind 4 = .ok (.iload_n 1, 1) := by decide +kernel
theorem dX11_grind_5 : decode cX11_grind 5 = .ok (.bipush 30, 2) := by decide +kernel
theorem dX11_grind_7 : decode cX11_grind 7 = .ok (.if_icmp .gt 13, 3) := by decide +kernel
theorem dX11_grind_10 : decode cX11_grind 10 = .ok (.iload_n 2, 1) := by decide +kernel
theorem dX11_grind_11 : decode cX11_grind 11 = .ok (.ifCond .lt 9, 3) := by decide +kernel
theorem dX11_grind_14 : decode cX11_grind 14 = .ok (.iload_n 2, 1) := by decide +kernel
theorem dX11_grind_15 : decode cX11_grind 15 = .ok (.bipush 20, 2) := by decide +kernel
theorem dX11_grind_17 : decode cX11_grind 17 = .ok (.if_icmp .le 6, 3) := by decide +kernel
theorem dX11_grind_20 : decode cX11_grind 20 = .ok (.bipush (-2), 2) := by decide +kernel
theorem dX11_grind_22 : decode cX11_grind 22 = .ok (.ireturn, 1) := by decide +kernel
theorem dX11_grind_23 : decode cX11_grind 23 = .ok (.aload_n 0, 1) := by decide +kernel
theorem dX11_grind_24 : decode cX11_grind 24 = .ok (.getfield 58, 3) := by decide +kernel
theorem dX11_grind_27 : decode cX11_grind 27 = .ok (.iload_n 1, 1) := by decide +kernel
theorem dX11_grind_28 : decode cX11_grind 28 = .ok (.invokevirtual 180, 3) := by decide +kernel
theorem dX11_grind_31 : decode cX11_grind 31 = .ok (.iload_n 3, 1) := by decide +kernel
theorem dX11_grind_32 : decode cX11_grind 32 = .ok (.ifCond .eq 15, 3) := by decide +kernel
theorem dX11_grind_35 : decode cX11_grind 35 = .ok (.aload_n 0, 1) := by decide +kernel
theorem dX11_grind_36 : decode cX11_grind 36 = .ok (.getfield 58, 3) := by decide +kernel
theorem dX11_grind_39 : decode cX11_grind 39 = .ok (.iload_n 1, 1) := by decide +kernel
theorem dX11_grind_40 : decode cX11_grind 40 = .ok (.iload_n 2, 1) := by decide +kernel
theorem dX11_grind_41 : decode cX11_grind 41 = .ok (.invokevirtual 183, 3) := by decide +kernel
theorem dX11_grind_44 : decode cX11_grind 44 = .ok (.goto 12, 3) := by decide +kernel
theorem dX11_grind_47 : decode cX11_grind 47 = .ok (.aload_n 0, 1) := by decide +kernel
theorem dX11_grind_48 : decode cX11_grind 48 = .ok (.getfield 58, 3) := by decide +kernel
theorem dX11_grind_51 : decode cX11_grind 51 = .ok (.iload_n 1, 1) := by decide +kernel
theorem dX11_grind_52 : decode cX11_grind 52 = .ok (.iload_n 2, 1) := by decide +kernel
theorem dX11_grind_53 : decode cX11_grind 53 = .ok (.invokevirtual 186, 3) := by decide +kernel
theorem dX11_grind_56 : decode cX11_grind 56 = .ok (.ireturn, 1) := by decide +kernel
theorem dX12_grindsOn_0 : decode cX12_grindsOn 0 = .ok (.aload_n 0, 1) := by decide +kernel
theorem dX12_grindsOn_1 : decode cX12_grindsOn 1 = .ok (.getfield 84, 3) := by decide +kernel
theorem dX12_grindsOn_4 : decode cX12_grindsOn 4 = .ok (.bipush 21, 2) := by decide +kernel
theorem dX12_grindsOn_6 : decode cX12_grindsOn 6 = .ok (.iload_n 1, 1) := by decide +kernel
theorem dX12_grindsOn_7 : decode cX12_grindsOn 7 = .ok (.iconst 1, 1) := by decide +kernel
theorem dX12_grindsOn_8 : decode cX12_grindsOn 8 = .ok (.isub, 1) := by decide +kernel
theorem dX12_grindsOn_9 : decode cX12_grindsOn 9 = .ok (.imul, 1) := by decide +kernel
theorem dX12_grindsOn_10 : decode cX12_grindsOn 10 = .ok (.bipush 20, 2) := by decide +kernel
theorem dX12_grindsOn_12 : decode cX12_grindsOn 12 = .ok (.iload_n 2, 1) := by decide +kernel
theorem dX12_grindsOn_13 : decode cX12_grindsOn 13 = .ok (.iconst 5, 1) := by decide +kernel
theorem dX12_grindsOn_14 : decode cX12_grindsOn 14 = .ok (.iadd, 1) := by decide +kernel
theorem dX12_grindsOn_15 : decode cX12_grindsOn 15 = .ok (.invokestatic 340, 3) := by decide +kernel
theorem dX12_grindsOn_18 : decode cX12_grindsOn 18 = .ok (.iadd, 1) := by decide +kernel
theorem dX12_grindsOn_19 : decode cX12_grindsOn 19 = .ok (.iaload, 1) := by decide +kernel
theorem dX12_grindsOn_20 : decode cX12_grindsOn 20 = .ok (.ireturn, 1) := by decide +kernel
theorem dX12_cutsOn_0 : decode cX12_cutsOn 0 = .ok (.iload_n 2, 1) := by decide +kernel
theorem dX12_cutsOn_1 : decode cX12_cutsOn 1 = .ok (.aload_n 0, 1) := by decide +kernel
theorem dX12_cutsOn_2 : decode cX12_cutsOn 2 = .ok (.getfield 84, 3) := by decide +kernel
theorem dX12_cutsOn_5 : decode cX12_cutsOn 5 = .ok (.bipush 21, 2) := by decide +kernel
theorem dX12_cutsOn_7 : decode cX12_cutsOn 7 = .ok (.iload_n 1, 1) := by decide +kernel
theorem dX12_cutsOn_8 : decode cX12_cutsOn 8 = .ok (.iconst 1, 1) := by decide +kernel
theorem dX12_cutsOn_9 : decode cX12_cutsOn 9 = .ok (.isub, 1) := by decide +kernel
theorem dX12_cutsOn_10 : decode cX12_cutsOn 10 = .ok (.imul, 1) := by decide +kernel
theorem dX12_cutsOn_11 : decode cX12_cutsOn 11 = .ok (.iconst 0, 1) := by decide +kernel
theorem dX12_cutsOn_12 : decode cX12_cutsOn 12 = .ok (.iload_n 2, 1) := by decide +kernel
theorem dX12_cutsOn_13 : decode cX12_cutsOn 13 = .ok (.iconst 1, 1) := by decide +kernel
theorem dX12_cutsOn_14 : decode cX12_cutsOn 14 = .ok (.isub, 1) := by decide +kernel
theorem dX12_cutsOn_15 : decode cX12_cutsOn 15 = .ok (.invokestatic 176, 3) := by decide +kernel
theorem dX12_cutsOn_18 : decode cX12_cutsOn 18 = .ok (.iadd, 1) := by decide +kernel
theorem dX12_cutsOn_19 : decode cX12_cutsOn 19 = .ok (.iaload, 1) := by decide +kernel
theorem dX12_cutsOn_20 : decode cX12_cutsOn 20 = .ok (.iadd, 1) := by decide +kernel
theorem dX12_cutsOn_21 : decode cX12_cutsOn 21 = .ok (.ireturn, 1) := by decide +kernel
theorem dX12_grind_0 : decode cX12_grind 0 = .ok (.aload_n 0, 1) := by decide +kernel
theorem dX12_grind_1 : decode cX12_grind 1 = .ok (.iconst 0, 1) := by decide +kernel
theorem dX12_grind_2 : decode cX12_grind 2 = .ok (.putfield 103, 3) := by decide +kernel
theorem dX12_grind_5 : decode cX12_grind 5 = .ok (.iload_n 1, 1) := by decide +kernel
theorem dX12_grind_6 : decode cX12_grind 6 = .ok (.iconst 0, 1) := by decide +kernel
theorem dX12_grind_7 : decode cX12_grind 7 = .ok (.bipush 30, 2) := by decide +kernel
theorem dX12_grind_9 : decode cX12_grind 9 = .ok (.invokestatic 115, 3) := by decide +kernel
theorem dX12_grind_12 : decode cX12_grind 12 = .ok (.ifCond .eq 13, 3) := by decide +kernel
theorem dX12_grind_15 : decode cX12_grind 15 = .ok (.iload_n 2, 1) := by decide +kernel
theorem dX12_grind_16 : decode cX12_grind 16 = .ok (.iconst 0, 1) := by decide +kernel
theorem dX12_grind_17 : decode cX12_grind 17 = .ok (.bipush 20, 2) := by decide +kernel
theorem dX12_grind_19 : decode cX12_grind 19 = .ok (.invokestatic 115, 3) := by decide +kernel
theorem dX12_grind_22 : decode cX12_grind 22 = .ok (.ifCond .ne 6, 3) := by decide +kernel
theorem dX12_grind_25 : decode cX12_grind 25 = .ok (.bipush (-2), 2) := by decide +kernel
theorem dX12_grind_27 : decode cX12_grind 27 = .ok (.ireturn, 1) := by decide +kernel
theorem dX12_grind_28 : decode cX12_grind 28 = .ok (.iconst 0, 1) := by decide +kernel
theorem dX12_grind_29 : decode cX12_grind 29 = .ok (.istore 4, 2) := by decide +kernel
theorem dX12_grind_31 : decode cX12_grind 31 = .ok (.iload 4, 2) := by decide +kernel
theorem dX12_grind_33 : decode cX12_grind 33 = .ok (.iload_n 1, 1) := by decide +kernel
theorem dX12_grind_34 : decode cX12_grind 34 = .ok (.if_icmp .gt 66, 3) := by decide +kernel
theorem dX12_grind_37 : decode cX12_grind 37 = .ok (.iconst 0, 1) := by decide +kernel
theorem dX12_grind_38 : decode cX12_grind 38 = .ok (.istore 5, 2) := by decide +kernel
theorem dX12_grind_40 : decode cX12_grind 40 = .ok (.iload 5, 2) := by decide +kernel
theorem dX12_grind_42 : decode cX12_grind 42 = .ok (.bipush 20, 2) := by decide +kernel
theorem dX12_grind_44 : decode cX12_grind 44 = .ok (.if_icmp .gt 50, 3) := by decide +kernel
theorem dX12_grind_47 : decode cX12_grind 47 = .ok (.aload_n 0, 1) := by decide +kernel
theorem dX12_grind_48 : decode cX12_grind 48 = .ok (.getfield 84, 3) := by decide +kernel
theorem dX12_grind_51 : decode cX12_grind 51 = .ok (.bipush 21, 2) := by decide +kernel
theorem dX12_grind_53 : decode cX12_grind 53 = .ok (.iload 4, 2) := by decide +kernel
theorem dX12_grind_55 : decode cX12_grind 55 = .ok (.imul, 1) := by decide +kernel
theorem dX12_grind_56 : decode cX12_grind 56 = .ok (.iload 5, 2) := by decide +kernel
theorem dX12_grind_58 : decode cX12_grind 58 = .ok (.iadd, 1) := by decide +kernel
theorem dX12_grind_59 : decode cX12_grind 59 = .ok (.iload 4, 2) := by decide +kernel
theorem dX12_grind_61 : decode cX12_grind 61 = .ok (.ifCond .ne 7, 3) := by decide +kernel
theorem dX12_grind_64 : decode cX12_grind 64 = .ok (.iconst 0, 1) := by decide +kernel
theorem dX12_grind_65 : decode cX12_grind 65 = .ok (.goto 22, 3) := by decide +kernel
theorem dX12_grind_68 : decode cX12_grind 68 = .ok (.aload_n 0, 1) := by decide +kernel
theorem dX12_grind_69 : decode cX12_grind 69 = .ok (.iload 4, 2) := by decide +kernel
theorem dX12_grind_71 : decode cX12_grind 71 = .ok (.iload 5, 2) := by decide +kernel
theorem dX12_grind_73 : decode cX12_grind 73 = .ok (.invokevirtual 469, 3) := by decide +kernel
theorem dX12_grind_76 : decode cX12_grind 76 = .ok (.aload_n 0, 1) := by decide +kernel
theorem dX12_grind_77 : decode cX12_grind 77 = .ok (.iload 4, 2) := by decide +kernel
theorem dX12_grind_79 : decode cX12_grind 79 = .ok (.iload 5, 2) := by decide +kernel
theorem dX12_grind_81 : decode cX12_grind 81 = .ok (.invokevirtual 472, 3) := by decide +kernel
theorem dX12_grind_84 : decode cX12_grind 84 = .ok (.invokestatic 176, 3) := by decide +kernel
theorem dX12_grind_87 : decode cX12_grind 87 = .ok (.iastore, 1) := by decide +kernel
theorem dX12_grind_88 : decode cX12_grind 88 = .ok (.iinc 5 1, 3) := by decide +kernel
theorem dX12_grind_91 : decode cX12_grind 91 = .ok (.goto (-51), 3) := by decide +kernel
theorem dX12_grind_94 : decode cX12_grind 94 = .ok (.iinc 4 1, 3) := by decide +kernel
theorem dX12_grind_97 : decode cX12_grind 97 = .ok (.goto (-66), 3) := by decide +kernel
theorem dX12_grind_100 : decode cX12_grind 100 = .ok (.iload_n 3, 1) := by decide +kernel
theorem dX12_grind_101 : decode cX12_grind 101 = .ok (.ifCond .ne 15, 3) := by decide +kernel
theorem dX12_grind_104 : decode cX12_grind 104 = .ok (.aload_n 0, 1) := by decide +kernel
theorem dX12_grind_105 : decode cX12_grind 105 = .ok (.getfield 84, 3) := by decide +kernel
theorem dX12_grind_108 : decode cX12_grind 108 = .ok (.bipush 21, 2) := by decide +kernel
theorem dX12_grind_110 : decode cX12_grind 110 = .ok (.iload_n 1, 1) := by decide +kernel
theorem dX12_grind_111 : decode cX12_grind 111 = .ok (.imul, 1) := by decide +kernel
theorem dX12_grind_112 : decode cX12_grind 112 = .ok (.iload_n 2, 1) := by decide +kernel
theorem dX12_grind_113 : decode cX12_grind 113 = .ok (.iadd, 1) := by decide +kernel
theorem dX12_grind_114 : decode cX12_grind 114 = .ok (.iaload, 1) := by decide +kernel
theorem dX12_grind_115 : decode cX12_grind 115 = .ok (.ireturn, 1) := by decide +kernel
theorem dX12_grind_116 : decode cX12_grind 116 = .ok (.iload_n 2, 1) := by decide +kernel
theorem dX12_grind_117 : decode cX12_grind 117 = .ok (.istore 4, 2) := by decide +kernel
theorem dX12_grind_119 : decode cX12_grind 119 = .ok (.iconst 0, 1) := by decide +kernel
theorem dX12_grind_120 : decode cX12_grind 120 = .ok (.istore 5, 2) := by decide +kernel
theorem dX12_grind_122 : decode cX12_grind 122 = .ok (.iload 5, 2) := by decide +kernel
theorem dX12_grind_124 : decode cX12_grind 124 = .ok (.iload_n 1, 1) := by decide +kernel
theorem dX12_grind_125 : decode cX12_grind 125 = .ok (.if_icmp .ge 45, 3) := by decide +kernel
theorem dX12_grind_128 : decode cX12_grind 128 = .ok (.aload_n 0, 1) := by decide +kernel
theorem dX12_grind_129 : decode cX12_grind 129 = .ok (.iload_n 1, 1) := by decide +kernel
theorem dX12_grind_130 : decode cX12_grind 130 = .ok (.iload 5, 2) := by decide +kernel
theorem dX12_grind_132 : decode cX12_grind 132 = .ok (.isub, 1) := by decide +kernel
theorem dX12_grind_133 : decode cX12_grind 133 = .ok (.iload 4, 2) := by decide +kernel
theorem dX12_grind_135 : decode cX12_grind 135 = .ok (.invokevirtual 469, 3) := by decide +kernel
theorem dX12_grind_138 : decode cX12_grind 138 = .ok (.aload_n 0, 1) := by decide +kernel
theorem dX12_grind_139 : decode cX12_grind 139 = .ok (.iload_n 1, 1) := by decide +kernel
theorem dX12_grind_140 : decode cX12_grind 140 = .ok (.iload 5, 2) := by decide +kernel
theorem dX12_grind_142 : decode cX12_grind 142 = .ok (.isub, 1) := by decide +kernel
theorem dX12_grind_143 : decode cX12_grind 143 = .ok (.iload 4, 2) := by decide +kernel
theorem dX12_grind_145 : decode cX12_grind 145 = .ok (.invokevirtual 472, 3) := by decide +kernel
theorem dX12_grind_148 : decode cX12_grind 148 = .ok (.if_icmp .ge 6, 3) := by decide +kernel
theorem dX12_grind_151 : decode cX12_grind 151 = .ok (.iload 5, 2) := by decide +kernel
theorem dX12_grind_153 : decode cX12_grind 153 = .ok (.ireturn, 1) := by decide +kernel
theorem dX12_grind_154 : decode cX12_grind 154 = .ok (.iconst 0, 1) := by decide +kernel
theorem dX12_grind_155 : decode cX12_grind 155 = .ok (.iload 4, 2) := by decide +kernel
theorem dX12_grind_157 : decode cX12_grind 157 = .ok (.iconst 1, 1) := by decide +kernel
theorem dX12_grind_158 : decode cX12_grind 158 = .ok (.isub, 1) := by decide +kernel
theorem dX12_grind_159 : decode cX12_grind 159 = .ok (.invokestatic 176, 3) := by decide +kernel
theorem dX12_grind_162 : decode cX12_grind 162 = .ok (.istore 4, 2) := by decide +kernel
theorem dX12_grind_164 : decode cX12_grind 164 = .ok (.iinc 5 1, 3) := by decide +kernel
theorem dX12_grind_167 : decode cX12_grind 167 = .ok (.goto (-45), 3) := by decide +kernel
theorem dX12_grind_170 : decode cX12_grind 170 = .ok (.iconst (-1), 1) := by decide +kernel
theorem dX12_grind_171 : decode cX12_grind 171 = .ok (.ireturn, 1) := by decide +kernel
set_option maxRecDepth 20000 in
theorem tm_3_39 : tMet TB0 3 39 = some (1, M_J7_fill_53178) := rfl
set_option maxRecDepth 20000 in
theorem tm_3_45 : tMet TB0 3 45 = some (11, M_none) := rfl
set_option maxRecDepth 20000 in
theorem tm_3_51 : tMet TB0 3 51 = some (10, M_none) := rfl
set_option maxRecDepth 20000 in
theorem tm_3_54 : tMet TB0 3 54 = some (0, M_X3_mostEarned) := rfl
set_option maxRecDepth 20000 in
theorem tm_11_180 : tMet TB0 11 180 = some (0, M_X3_weighGrinding) := rfl
set_option maxRecDepth 20000 in
theorem tm_11_183 : tMet TB0 11 183 = some (0, M_X3_firstGrinding) := rfl
set_option maxRecDepth 20000 in
theorem tm_11_186 : tMet TB0 11 186 = some (0, M_X3_mostEarned) := rfl
set_option maxRecDepth 20000 in
theorem tm_12_340 : tMet TB0 12 340 = some (1, M_X12_lesser) := rfl
set_option maxRecDepth 20000 in
theorem tm_12_469 : tMet TB0 12 469 = some (0, M_X12_cutsOn) := rfl
set_option maxRecDepth 20000 in
theorem tm_12_472 : tMet TB0 12 472 = some (0, M_X12_grindsOn) := rfl
/-! GRIND -/
def grN : Nat → Int → Int
  | 0, _ => 0
  | n + 1, e => max (e + grN n (max 0 (e - 1))) (grN n (min 20 (e + 5)))
theorem grN_b (n : Nat) (e : Int) (h0 : 0 ≤ e) (h1 : e ≤ 20) : 0 ≤ grN n e ∧ grN n e ≤ 20 * n := by
  induction n generalizing e with
  | zero => exact ⟨Int.le_refl _, by show (0 : Int) ≤ _; omega⟩
  | succ n ih =>
    have a := ih (max 0 (e - 1)) (by omega) (by omega)
    have c := ih (min 20 (e + 5)) (by omega) (by omega)
    show 0 ≤ max _ _ ∧ max _ _ ≤ _
    omega
def grZ (n e : Int) : Int := grN n.toNat e
theorem grZ_s {n : Int} (h : 0 ≤ n) (e : Int) : grZ (n + 1) e = max (e + grZ n (max 0 (e - 1))) (grZ n (min 20 (e + 5))) := by
  unfold grZ
  rw [show (n + 1).toNat = n.toNat + 1 by omega]; rfl
theorem grZ_b {n e : Int} (h : 0 ≤ n) (h0 : 0 ≤ e) (h1 : e ≤ 20) : 0 ≤ grZ n e ∧ grZ n e ≤ 20 * n := by
  have := grN_b n.toNat e h0 h1
  unfold grZ; omega
def grC (h : mH) (y : Nat) (n : Int) : Prop := ∀ l e : Int, 0 ≤ l → l < n → 0 ≤ e → e ≤ 20 → rI h (y + 1) (l * 21 + e) = grZ l e
def grR (h : mH) (m : Nat) (n : Int) : Prop := ∀ l e : Int, 0 ≤ l → l < n → 0 ≤ e → e ≤ 20 → rI h (m + 25) (21 * l + e) = grZ l e
theorem grC_g {h : mH} {y : Nat} {n : Int} (H : grC h y n) {l e : Int} (a : 0 ≤ l) (b : l < n) (c : 0 ≤ e) (d : e ≤ 20) : rI h (y + 1) (l * 21 + e) = grZ l e := H l e a b c d
theorem grR_g {h : mH} {m : Nat} {n : Int} (H : grR h m n) {l e : Int} (a : 0 ≤ l) (b : l < n) (c : 0 ≤ e) (d : e ≤ 20) : rI h (m + 25) (21 * l + e) = grZ l e := H l e a b c d
theorem grC_c {S : Nat → Nat → Prop} {h h1 : mH} {y : Nat} {n : Int} (s : frm S h h1) (q : ∀ k : Nat, k < 21 * n.toNat → ¬ S (y + 1) k) (H : grC h y n) : grC h1 y n := fun l e a b c d => (frm_r s (q _ (by omega))).trans (H l e a b c d)
theorem grR_c {S : Nat → Nat → Prop} {h h1 : mH} {m : Nat} {n : Int} (s : frm S h h1) (q : ∀ k : Nat, k < 21 * n.toNat → ¬ S (m + 25) k) (H : grR h m n) : grR h1 m n := fun l e a b c d => (frm_r s (q _ (by omega))).trans (H l e a b c d)
abbrev grP (n e k : Int) : Prop := max 0 (e - k) + grZ (n - k - 1) (max 0 (e - k - 1)) < grZ (n - k) (max 0 (e - k))
theorem grC_up {h : mH} {y : Nat} {l : Int} (H : grC h y l) (r : ∀ q : Int, 0 ≤ q → q < 21 → rI h (y + 1) (l * 21 + q) = grZ l q) : grC h y (l + 1) := fun j e a b c d => by
  by_cases q : j = l
  · subst q; exact r e c (by omega)
  · exact H j e a (by omega) c d
theorem grR_up {h : mH} {m : Nat} {l : Int} (H : grR h m l) (r : ∀ q : Int, 0 ≤ q → q < 21 → rI h (m + 25) (21 * l + q) = grZ l q) : grR h m (l + 1) := fun j e a b c d => by
  by_cases q : j = l
  · subst q; exact r e c (by omega)
  · exact H j e a (by omega) c d
def gdZ (n e : Int) (p : Prop) [Decidable p] (v : Int) : Prop := (p ∧ fst1 (grP n e) n v) ∨ (¬ p ∧ v = grZ n e)
def gdA (n e : Int) (p : Prop) [Decidable p] (v : Int) : Prop := ((0 ≤ n ∧ n ≤ 30) ∧ (0 ≤ e ∧ e ≤ 20) ∧ gdZ n e p v) ∨ (¬ ((0 ≤ n ∧ n ≤ 30) ∧ (0 ≤ e ∧ e ≤ 20)) ∧ v = -2)
theorem gdA_u {n e : Int} {p : Prop} [Decidable p] {v v' : Int} (a : gdA n e p v) (b : gdA n e p v') : v = v' := by
  rcases a with ⟨a1, a2, a3⟩ | ⟨a1, a2⟩
  · rcases b with ⟨b1, b2, b3⟩ | ⟨b1, b2⟩
    · rcases a3 with ⟨a3, a4⟩ | ⟨a3, a4⟩
      · rcases b3 with ⟨b3, b4⟩ | ⟨b3, b4⟩
        · exact fst1_u a4 b4
        · exact absurd a3 b3
      · rcases b3 with ⟨b3, b4⟩ | ⟨b3, b4⟩
        · exact absurd b3 a3
        · rw [a4, b4]
    · exact absurd ⟨a1, a2⟩ b1
  · rcases b with ⟨b1, b2, b3⟩ | ⟨b1, b2⟩
    · exact absurd ⟨b1, b2⟩ a1
    · rw [a2, b2]
set_option maxHeartbeats 400000 in
theorem zp_X3_weighGrinding {ad : mA} {dd : Nat} {h : mH} {Q : mQ} {y : Nat}  (hk : gak h y)  (n : Int) (n_r : -2147483648 ≤ n ∧ n < 2147483648) (p1 : 0 ≤ n) (p2 : n ≤ 30) (kq : ∀ h1, frm (fun a i => a = y + 1) h h1 → (grC h1 y (n + 1)) → Q none h1) : mCal TB0 ad (dd + 2) M_X3_weighGrinding [.ref y, .int (zI n)] h 0 0 Q := by
  refine ⟨Nat.le_of_ble_eq_true rfl, ?_⟩
  show mEv TB0 ad M_X3_weighGrinding (dd + 2) (0, 0) (mCal TB0 ad (dd + 1)) (fun v h' z => z.1 = 0 ∧ Q v h') 0 [some (.ref y), some (.int (zI n)), none, none, none, none] [] h (0, 0)
  have FR0 : frm (fun a i => a = y + 1) h h := frm_0 h
  refine e_aload_n dX3_weighGrinding_0 rfl ?_
  refine e_get (.ref (y + 1)) dX3_weighGrinding_1 tf_3_11 (congrArg Prod.fst (ga_s0 hk)) (congrArg va_rf (ga_r0_0 hk)) ?_
  refine z_iconst (0) dX3_weighGrinding_4 rfl ?_
  refine e_callS [.ref _, .int _] dX3_weighGrinding_5 tm_3_39 rfl (Nat.le_of_ble_eq_true rfl) (Nat.le_refl _) (Nat.le_refl _) rfl (zp_fill (ga_s1 hk) (by decide) ⟨by omega, by omega⟩ (fun h1 f2 e3 => ?_))
  have k4 := lk_q (frm_s f2) hk
  have FR5 := frm_t FR0 (frm_m (S' := (fun a i => a = y + 1)) f2 (fun a k q => by omega))
  refine z_iconst (1) dX3_weighGrinding_8 rfl ?_
  refine e_istore_n (L' := [_, _, _, _, _, _]) dX3_weighGrinding_9 (Nat.le_of_ble_eq_true rfl) rfl ?_
  have lp6 : ∀ (n6 : Nat) (l : Int) (h6 : mH), (n + 1 - l).toNat = n6 → (gak h6 y) → (frm (fun a i => a = y + 1) h h6) → (1 ≤ l) → (l ≤ n + 1) → (grC h6 y l) → mEv TB0 ad M_X3_weighGrinding (dd + 2) (0, 0) (mCal TB0 ad (dd + 1)) (fun v h' z => z.1 = 0 ∧ Q v h') 10 [some (.ref y), some (.int (zI n)), some (.int (zI l)), none, none, none] [] h6 (0, 0) := by
    intro n6
    induction n6 using Nat.strongRecOn with
    | ind n6 ih6 =>
    intro l h6 hn6 k7 FR8 I1 I2 I3
    refine e_iload_n dX3_weighGrinding_10 rfl ?_
    refine e_iload_n dX3_weighGrinding_11 rfl ?_
    refine z_icmp_gt 104 dX3_weighGrinding_12 rfl ⟨by omega, by omega⟩ ⟨by omega, by omega⟩ (fun c9 => ?_) (fun c9 => ?_)
    · skip
      refine e_vret dX3_weighGrinding_104 rfl ⟨rfl, ?_⟩
      exact kq _ FR8 (by rw [show n + 1 = l by omega]; exact I3)
    · skip
      skip
      refine e_iload_n dX3_weighGrinding_15 rfl ?_
      refine z_bipush (30) dX3_weighGrinding_16 rfl ?_
      refine z_icmp_gt 104 dX3_weighGrinding_18 rfl ⟨by omega, by omega⟩ ⟨by omega, by omega⟩ (fun c10 => ?_) (fun c10 => ?_)
      · skip
        refine e_vret dX3_weighGrinding_104 rfl ⟨rfl, ?_⟩
        exact kq _ FR8 (by rw [show n + 1 = l by omega]; exact I3)
      · skip
        refine z_iconst (0) dX3_weighGrinding_21 rfl ?_
        refine e_istore_n (L' := [_, _, _, _, _, _]) dX3_weighGrinding_22 (Nat.le_of_ble_eq_true rfl) rfl ?_
        have lp11 : ∀ (n11 : Nat) (e : Int) (h11 : mH), (21 - e).toNat = n11 → (gak h11 y) → (grC h11 y l) → (frm (fun a i => a = y + 1) h h11) → (0 ≤ e) → (e ≤ 21) → (∀ q : Int, 0 ≤ q → q < e → rI h11 (y + 1) (l * 21 + q) = grZ l q) → mEv TB0 ad M_X3_weighGrinding (dd + 2) (0, 0) (mCal TB0 ad (dd + 1)) (fun v h' z => z.1 = 0 ∧ Q v h') 23 [some (.ref y), some (.int (zI n)), some (.int (zI l)), some (.int (zI e)), none, none] [] h11 (0, 0) := by
          intro n11
          induction n11 using Nat.strongRecOn with
          | ind n11 ih11 =>
          intro e h11 hn11 k12 H13 FR14 J1 J2 J4
          refine e_iload_n dX3_weighGrinding_23 rfl ?_
          refine z_bipush (21) dX3_weighGrinding_24 rfl ?_
          refine z_icmp_ge 98 dX3_weighGrinding_26 rfl ⟨by omega, by omega⟩ ⟨by omega, by omega⟩ (fun c15 => ?_) (fun c15 => ?_)
          · skip
            refine z_iinc (L' := [_, _, _, _, _, _]) dX3_weighGrinding_98 rfl rfl ?_
            refine e_goto 10 dX3_weighGrinding_101 rfl ?_
            exact mEv_wk (by exact ⟨Or.inr rfl, Or.inr rfl, Or.inr rfl, Or.inl rfl, Or.inl rfl, Or.inl rfl, trivial⟩) (ih6 _ (by omega) (l + 1) h11 rfl k12 FR14 (by omega) (by omega) (grC_up H13 (fun q a c => J4 q a (by omega))))
          · skip
            refine e_aload_n dX3_weighGrinding_29 rfl ?_
            refine e_get (.ref (y + 1)) dX3_weighGrinding_30 tf_3_11 (congrArg Prod.fst (ga_s0 k12)) (congrArg va_rf (ga_r0_0 k12)) ?_
            refine e_iload_n dX3_weighGrinding_33 rfl ?_
            refine z_iconst (1) dX3_weighGrinding_34 rfl ?_
            refine z_isub dX3_weighGrinding_35 ?_
            refine z_bipush (21) dX3_weighGrinding_36 rfl ?_
            refine z_imul dX3_weighGrinding_38 ?_
            refine z_bipush (20) dX3_weighGrinding_39 rfl ?_
            refine e_iload_n dX3_weighGrinding_41 rfl ?_
            refine z_iconst (5) dX3_weighGrinding_42 rfl ?_
            refine z_iadd dX3_weighGrinding_43 ?_
            refine z_mmin dX3_weighGrinding_44 tm_3_45 (Nat.le_of_ble_eq_true rfl) ⟨by omega, by omega⟩ ⟨by omega, by omega⟩ ?_
            refine z_iadd dX3_weighGrinding_47 ?_
            refine z_ild (grZ (l - 1) (min 20 (e + 5))) dX3_weighGrinding_48 (ga_s1 k12) (by decide) (by omega) (by omega) (grC_g H13 (by omega) (by omega) (by omega) (by omega)) ?_
            have y16 := grZ_b (show 0 ≤ (l - 1) by omega) (show 0 ≤ (min 20 (e + 5)) by omega) (by omega)
            refine e_istore (L' := [_, _, _, _, _, _]) dX3_weighGrinding_49 (Nat.le_of_ble_eq_true rfl) rfl ?_
            refine e_iload_n dX3_weighGrinding_51 rfl ?_
            refine e_aload_n dX3_weighGrinding_52 rfl ?_
            refine e_get (.ref (y + 1)) dX3_weighGrinding_53 tf_3_11 (congrArg Prod.fst (ga_s0 k12)) (congrArg va_rf (ga_r0_0 k12)) ?_
            refine e_iload_n dX3_weighGrinding_56 rfl ?_
            refine z_iconst (1) dX3_weighGrinding_57 rfl ?_
            refine z_isub dX3_weighGrinding_58 ?_
            refine z_bipush (21) dX3_weighGrinding_59 rfl ?_
            refine z_imul dX3_weighGrinding_61 ?_
            refine z_iconst (0) dX3_weighGrinding_62 rfl ?_
            refine e_iload_n dX3_weighGrinding_63 rfl ?_
            refine z_iconst (1) dX3_weighGrinding_64 rfl ?_
            refine z_isub dX3_weighGrinding_65 ?_
            refine z_mmax dX3_weighGrinding_66 tm_3_51 (Nat.le_of_ble_eq_true rfl) ⟨by omega, by omega⟩ ⟨by omega, by omega⟩ ?_
            refine z_iadd dX3_weighGrinding_69 ?_
            refine z_ild (grZ (l - 1) (max 0 (e - 1))) dX3_weighGrinding_70 (ga_s1 k12) (by decide) (by omega) (by omega) (grC_g H13 (by omega) (by omega) (by omega) (by omega)) ?_
            have y17 := grZ_b (show 0 ≤ (l - 1) by omega) (show 0 ≤ (max 0 (e - 1)) by omega) (by omega)
            refine z_iadd dX3_weighGrinding_71 ?_
            refine e_istore (L' := [_, _, _, _, _, _]) dX3_weighGrinding_72 (Nat.le_of_ble_eq_true rfl) rfl ?_
            refine e_aload_n dX3_weighGrinding_74 rfl ?_
            refine e_get (.ref (y + 1)) dX3_weighGrinding_75 tf_3_11 (congrArg Prod.fst (ga_s0 k12)) (congrArg va_rf (ga_r0_0 k12)) ?_
            refine e_iload_n dX3_weighGrinding_78 rfl ?_
            refine z_bipush (21) dX3_weighGrinding_79 rfl ?_
            refine z_imul dX3_weighGrinding_81 ?_
            refine e_iload_n dX3_weighGrinding_82 rfl ?_
            refine z_iadd dX3_weighGrinding_83 ?_
            refine e_iload dX3_weighGrinding_84 rfl ?_
            refine e_iload dX3_weighGrinding_86 rfl ?_
            refine z_mmax dX3_weighGrinding_88 tm_3_51 (Nat.le_of_ble_eq_true rfl) ⟨by omega, by omega⟩ ⟨by omega, by omega⟩ ?_
            refine z_ist dX3_weighGrinding_91 (ga_s1 k12) (by decide) (by omega) (by omega) (fun h18 e19 => ?_)
            have f20 := frm_1 e19
            have k21 := lk_q (frm_s f20) k12
            have H22 := grC_c f20 (fun k q => by omega) H13
            have FR23 := frm_t FR14 (frm_m (S' := (fun a i => a = y + 1)) f20 (fun a k q => by omega))
            refine z_iinc (L' := [_, _, _, _, _, _]) dX3_weighGrinding_92 rfl rfl ?_
            refine e_goto 23 dX3_weighGrinding_95 rfl ?_
            exact mEv_wk (by exact ⟨Or.inr rfl, Or.inr rfl, Or.inr rfl, Or.inr rfl, Or.inl rfl, Or.inl rfl, trivial⟩) (ih11 _ (by omega) (e + 1) h18 rfl k21 H22 FR23 (by omega) (by omega) (fun q a c => by
                        by_cases z : q = e
                        · subst z; exact ((rI_eq e19 ⟨by omega, by omega⟩)).trans (by have := grZ_s (n := l - 1) (by omega) q; rw [show l - 1 + 1 = l by omega] at this; exact this.symm)
                        · exact (frm_r f20 (by omega)).trans (J4 q a (by omega))))
        exact lp11 _ 0 h6 rfl k7 I3 FR8 (by omega) (by omega) (fun q a b => by omega)
  exact lp6 _ 1 h1 rfl k4 FR5 (by omega) (by omega) (fun j q a b c d => by rw [show j = 0 by omega]; exact e3 _ (by omega) (by omega))
set_option maxHeartbeats 400000 in
theorem zp_X3_mostEarned {ad : mA} {dd : Nat} {h : mH} {Q : mQ} {y : Nat} {N : Int} (hk : gak h y) (HG : grC h y N)  (n : Int) (n_r : -2147483648 ≤ n ∧ n < 2147483648) (e : Int) (e_r : -2147483648 ≤ e ∧ e < 2147483648) (p1 : 0 ≤ n ∧ n < N) (p2 : N ≤ 31) (p3 : 0 ≤ e ∧ e ≤ 20) (kq : Q (some (.int (zI (grZ n e)))) h) : mCal TB0 ad (dd + 1) M_X3_mostEarned [.ref y, .int (zI n), .int (zI e)] h 0 0 Q := by
  refine ⟨Nat.le_of_ble_eq_true rfl, ?_⟩
  show mEv TB0 ad M_X3_mostEarned (dd + 1) (0, 0) (mCal TB0 ad (dd + 0)) (fun v h' z => z.1 = 0 ∧ Q v h') 0 [some (.ref y), some (.int (zI n)), some (.int (zI e)), none] [] h (0, 0)
  refine e_iload_n dX3_mostEarned_0 rfl ?_
  refine z_bipush (21) dX3_mostEarned_1 rfl ?_
  refine z_imul dX3_mostEarned_3 ?_
  refine e_iload_n dX3_mostEarned_4 rfl ?_
  refine z_iadd dX3_mostEarned_5 ?_
  refine e_istore_n (L' := [_, _, _, _]) dX3_mostEarned_6 (Nat.le_of_ble_eq_true rfl) rfl ?_
  refine e_iload_n dX3_mostEarned_7 rfl ?_
  refine z_if_lt 29 dX3_mostEarned_8 rfl ⟨by omega, by omega⟩ (fun c1 => ?_) (fun c1 => ?_)
  · exfalso; omega
  · skip
    refine e_iload_n dX3_mostEarned_11 rfl ?_
    refine e_aload_n dX3_mostEarned_12 rfl ?_
    refine e_get (.ref (y + 1)) dX3_mostEarned_13 tf_3_11 (congrArg Prod.fst (ga_s0 hk)) (congrArg va_rf (ga_r0_0 hk)) ?_
    refine z_alen dX3_mostEarned_16 (ga_s1 hk) (by decide) ?_
    refine z_icmp_ge 29 dX3_mostEarned_17 rfl ⟨by omega, by omega⟩ ⟨by omega, by omega⟩ (fun c2 => ?_) (fun c2 => ?_)
    · exfalso; omega
    · skip
      refine e_aload_n dX3_mostEarned_20 rfl ?_
      refine e_get (.ref (y + 1)) dX3_mostEarned_21 tf_3_11 (congrArg Prod.fst (ga_s0 hk)) (congrArg va_rf (ga_r0_0 hk)) ?_
      refine e_iload_n dX3_mostEarned_24 rfl ?_
      refine z_ild (grZ n e) dX3_mostEarned_25 (ga_s1 hk) (by decide) (by omega) (by omega) (grC_g HG (by omega) (by omega) (by omega) (by omega)) ?_
      refine e_goto 30 dX3_mostEarned_26 rfl ?_
      refine z_iret dX3_mostEarned_30 rfl ⟨rfl, ?_⟩
      refine z_q kq ?_
      rfl
set_option maxHeartbeats 400000 in
theorem zp_X3_firstGrinding {ad : mA} {dd : Nat} {h : mH} {Q : mQ} {y : Nat} {N : Int} (hk : gak h y) (HG : grC h y N)  (n : Int) (n_r : -2147483648 ≤ n ∧ n < 2147483648) (e : Int) (e_r : -2147483648 ≤ e ∧ e < 2147483648) (p0 : N = n + 1) (p1 : 0 ≤ n ∧ n ≤ 30) (p3 : 0 ≤ e ∧ e ≤ 20) (kq : ∀ v : Int, (fst1 (grP n e) n v) → Q (some (.int (zI v))) h) : mCal TB0 ad (dd + 2) M_X3_firstGrinding [.ref y, .int (zI n), .int (zI e)] h 0 0 Q := by
  refine ⟨Nat.le_of_ble_eq_true rfl, ?_⟩
  show mEv TB0 ad M_X3_firstGrinding (dd + 2) (0, 0) (mCal TB0 ad (dd + 1)) (fun v h' z => z.1 = 0 ∧ Q v h') 0 [some (.ref y), some (.int (zI n)), some (.int (zI e)), none, none, none] [] h (0, 0)
  refine e_iload_n dX3_firstGrinding_0 rfl ?_
  refine e_istore_n (L' := [_, _, _, _, _, _]) dX3_firstGrinding_1 (Nat.le_of_ble_eq_true rfl) rfl ?_
  refine z_iconst (0) dX3_firstGrinding_2 rfl ?_
  refine e_istore (L' := [_, _, _, _, _, _]) dX3_firstGrinding_3 (Nat.le_of_ble_eq_true rfl) rfl ?_
  have lp1 : ∀ (n1 : Nat) (x i : Int), (n - i).toNat = n1 → (0 ≤ i) → (i ≤ n) → (x = max 0 (e - i)) → (∀ k, 0 ≤ k → k < i → ¬ grP n e k) → mEv TB0 ad M_X3_firstGrinding (dd + 2) (0, 0) (mCal TB0 ad (dd + 1)) (fun v h' z => z.1 = 0 ∧ Q v h') 5 [some (.ref y), some (.int (zI n)), some (.int (zI e)), some (.int (zI x)), some (.int (zI i)), none] [] h (0, 0) := by
    intro n1
    induction n1 using Nat.strongRecOn with
    | ind n1 ih1 =>
    intro x i  hn1  I1 I2 I3 I4
    refine e_iload dX3_firstGrinding_5 rfl ?_
    refine e_iload_n dX3_firstGrinding_7 rfl ?_
    refine z_icmp_ge 58 dX3_firstGrinding_8 rfl ⟨by omega, by omega⟩ ⟨by omega, by omega⟩ (fun c2 => ?_) (fun c2 => ?_)
    · skip
      refine z_iconst (-1) dX3_firstGrinding_58 rfl ?_
      refine z_iret dX3_firstGrinding_59 rfl ⟨rfl, ?_⟩
      refine kq _ ?_
      first | exact Or.inl ⟨rfl, fun k a b => I4 k a (by omega)⟩ | exact Or.inr ⟨by omega, by unfold grP; rw [show max 0 (e - i - 1) = max 0 (x - 1) by omega, ← I3]; omega, I4⟩
    · skip
      refine z_iconst (0) dX3_firstGrinding_11 rfl ?_
      refine e_iload_n dX3_firstGrinding_12 rfl ?_
      refine z_iconst (1) dX3_firstGrinding_13 rfl ?_
      refine z_isub dX3_firstGrinding_14 ?_
      refine z_mmax dX3_firstGrinding_15 tm_3_51 (Nat.le_of_ble_eq_true rfl) ⟨by omega, by omega⟩ ⟨by omega, by omega⟩ ?_
      refine e_istore (L' := [_, _, _, _, _, _]) dX3_firstGrinding_18 (Nat.le_of_ble_eq_true rfl) rfl ?_
      refine e_iload_n dX3_firstGrinding_20 rfl ?_
      refine e_aload_n dX3_firstGrinding_21 rfl ?_
      refine e_iload_n dX3_firstGrinding_22 rfl ?_
      refine e_iload dX3_firstGrinding_23 rfl ?_
      refine z_isub dX3_firstGrinding_25 ?_
      refine z_iconst (1) dX3_firstGrinding_26 rfl ?_
      refine z_isub dX3_firstGrinding_27 ?_
      refine e_iload dX3_firstGrinding_28 rfl ?_
      refine e_callV [.int _, .int _] dX3_firstGrinding_30 tm_3_54 rfl (Nat.le_of_ble_eq_true rfl) (congrArg Prod.fst (ga_s0 hk)) (Nat.le_of_ble_eq_true rfl) (Nat.le_refl _) (Nat.le_refl _) rfl (zp_X3_mostEarned hk HG ((n - i) - 1) ⟨by omega, by omega⟩ (max 0 (x - 1)) ⟨by omega, by omega⟩ (by omega) (by omega) (by omega) ?_)
      have y3 := grZ_b (show 0 ≤ ((n - i) - 1) by omega) (show 0 ≤ (max 0 (x - 1)) by omega) (by omega)
      refine z_iadd dX3_firstGrinding_33 ?_
      refine e_aload_n dX3_firstGrinding_34 rfl ?_
      refine e_iload_n dX3_firstGrinding_35 rfl ?_
      refine e_iload dX3_firstGrinding_36 rfl ?_
      refine z_isub dX3_firstGrinding_38 ?_
      refine e_iload_n dX3_firstGrinding_39 rfl ?_
      refine e_callV [.int _, .int _] dX3_firstGrinding_40 tm_3_54 rfl (Nat.le_of_ble_eq_true rfl) (congrArg Prod.fst (ga_s0 hk)) (Nat.le_of_ble_eq_true rfl) (Nat.le_refl _) (Nat.le_refl _) rfl (zp_X3_mostEarned hk HG (n - i) ⟨by omega, by omega⟩ x ⟨by omega, by omega⟩ (by omega) (by omega) (by omega) ?_)
      have y4 := grZ_b (show 0 ≤ (n - i) by omega) (show 0 ≤ x by omega) (by omega)
      refine z_icmp_ge 49 dX3_firstGrinding_43 rfl ⟨by omega, by omega⟩ ⟨by omega, by omega⟩ (fun c5 => ?_) (fun c5 => ?_)
      · skip
        refine e_iload dX3_firstGrinding_49 rfl ?_
        refine e_istore_n (L' := [_, _, _, _, _, _]) dX3_firstGrinding_51 (Nat.le_of_ble_eq_true rfl) rfl ?_
        refine z_iinc (L' := [_, _, _, _, _, _]) dX3_firstGrinding_52 rfl rfl ?_
        refine e_goto 5 dX3_firstGrinding_55 rfl ?_
        have z1 : max 0 (x - 1) = max 0 (e - i - 1) := by omega
        exact mEv_wk (by exact ⟨Or.inr rfl, Or.inr rfl, Or.inr rfl, Or.inr rfl, Or.inr rfl, Or.inl rfl, trivial⟩) (ih1 _ (by omega) (max 0 (x - 1)) (i + 1)  rfl  (by omega) (by omega) (by omega) (allS (P := grP n e) I4 (by intro q; unfold grP at q; rw [← z1, ← I3] at q; omega)))
      · skip
        refine e_iload dX3_firstGrinding_46 rfl ?_
        refine z_iret dX3_firstGrinding_48 rfl ⟨rfl, ?_⟩
        refine kq _ ?_
        first | exact Or.inl ⟨rfl, fun k a b => I4 k a (by omega)⟩ | exact Or.inr ⟨by omega, by unfold grP; rw [show max 0 (e - i - 1) = max 0 (x - 1) by omega, ← I3]; omega, I4⟩
  exact lp1 _ e 0  rfl  (by omega) (by omega) (by omega) (fun k a b => by omega)
set_option maxHeartbeats 400000 in
theorem zp_X11_grind {ad : mA} {dd : Nat} {h : mH} {Q : mQ} {x : Nat}  (hk : bk h x)  (n : Int) (n_r : -2147483648 ≤ n ∧ n < 2147483648) (e : Int) (e_r : -2147483648 ≤ e ∧ e < 2147483648) (p : Prop) [Decidable p]  (kq : ∀ v : Int, (gdA n e p v) → ∀ h1, frm (fun a i => x + 56 ≤ a ∧ a < x + 157) h h1 → Q (some (.int (zI v))) h1) : mCal TB0 ad (dd + 3) M_X11_grind [.ref x, .int (zI n), .int (zI e), .int (zI (bZ p))] h 0 0 Q := by
  refine ⟨Nat.le_of_ble_eq_true rfl, ?_⟩
  show mEv TB0 ad M_X11_grind (dd + 3) (0, 0) (mCal TB0 ad (dd + 2)) (fun v h' z => z.1 = 0 ∧ Q v h') 0 [some (.ref x), some (.int (zI n)), some (.int (zI e)), some (.int (zI (bZ p)))] [] h (0, 0)
  have FR0 : frm (fun a i => x + 56 ≤ a ∧ a < x + 157) h h := frm_0 h
  refine e_iload_n dX11_grind_0 rfl ?_
  refine z_if_lt 20 dX11_grind_1 rfl ⟨by omega, by omega⟩ (fun c1 => ?_) (fun c1 => ?_)
  · skip
    refine z_bipush (-2) dX11_grind_20 rfl ?_
    refine z_iret dX11_grind_22 rfl ⟨rfl, ?_⟩
    refine kq _ ?_ _ FR0
    first | exact Or.inr ⟨by omega, rfl⟩ | exact Or.inl ⟨by omega, by omega, Or.inl ⟨by assumption, by assumption⟩⟩ | exact Or.inl ⟨by omega, by omega, Or.inr ⟨by assumption, rfl⟩⟩
  · skip
    refine e_iload_n dX11_grind_4 rfl ?_
    refine z_bipush (30) dX11_grind_5 rfl ?_
    refine z_icmp_gt 20 dX11_grind_7 rfl ⟨by omega, by omega⟩ ⟨by omega, by omega⟩ (fun c2 => ?_) (fun c2 => ?_)
    · skip
      refine z_bipush (-2) dX11_grind_20 rfl ?_
      refine z_iret dX11_grind_22 rfl ⟨rfl, ?_⟩
      refine kq _ ?_ _ FR0
      first | exact Or.inr ⟨by omega, rfl⟩ | exact Or.inl ⟨by omega, by omega, Or.inl ⟨by assumption, by assumption⟩⟩ | exact Or.inl ⟨by omega, by omega, Or.inr ⟨by assumption, rfl⟩⟩
    · skip
      refine e_iload_n dX11_grind_10 rfl ?_
      refine z_if_lt 20 dX11_grind_11 rfl ⟨by omega, by omega⟩ (fun c3 => ?_) (fun c3 => ?_)
      · skip
        refine z_bipush (-2) dX11_grind_20 rfl ?_
        refine z_iret dX11_grind_22 rfl ⟨rfl, ?_⟩
        refine kq _ ?_ _ FR0
        first | exact Or.inr ⟨by omega, rfl⟩ | exact Or.inl ⟨by omega, by omega, Or.inl ⟨by assumption, by assumption⟩⟩ | exact Or.inl ⟨by omega, by omega, Or.inr ⟨by assumption, rfl⟩⟩
      · skip
        refine e_iload_n dX11_grind_14 rfl ?_
        refine z_bipush (20) dX11_grind_15 rfl ?_
        refine z_icmp_le 23 dX11_grind_17 rfl ⟨by omega, by omega⟩ ⟨by omega, by omega⟩ (fun c4 => ?_) (fun c4 => ?_)
        · skip
          refine e_aload_n dX11_grind_23 rfl ?_
          refine e_get (.ref (x + 153)) dX11_grind_24 tf_11_58 (congrArg Prod.fst (bk_s0 hk)) (congrArg va_rf (bk_r0_7 hk)) ?_
          refine e_iload_n dX11_grind_27 rfl ?_
          refine e_callV [.int _] dX11_grind_28 tm_11_180 rfl (Nat.le_of_ble_eq_true rfl) (congrArg Prod.fst (bk_s153 hk)) (Nat.le_of_ble_eq_true rfl) (Nat.le_refl _) (Nat.le_refl _) rfl (zp_X3_weighGrinding (bk_ga153 hk) n ⟨by omega, by omega⟩ (by omega) (by omega) (fun  h5 f6 p7 => ?_))
          have k8 := bk_q (frm_s f6) hk
          have FR9 := frm_t FR0 (frm_m (S' := (fun a i => x + 56 ≤ a ∧ a < x + 157)) f6 (fun a k q => by omega))
          refine e_iload_n dX11_grind_31 rfl ?_
          refine z_ifb_eq 47 dX11_grind_32 rfl (fun c10 => ?_) (fun c10 => ?_)
          · skip
            refine e_aload_n dX11_grind_47 rfl ?_
            refine e_get (.ref (x + 153)) dX11_grind_48 tf_11_58 (congrArg Prod.fst (bk_s0 k8)) (congrArg va_rf (bk_r0_7 k8)) ?_
            refine e_iload_n dX11_grind_51 rfl ?_
            refine e_iload_n dX11_grind_52 rfl ?_
            refine e_callV [.int _, .int _] dX11_grind_53 tm_11_186 rfl (Nat.le_of_ble_eq_true rfl) (congrArg Prod.fst (bk_s153 k8)) (Nat.le_of_ble_eq_true rfl) (Nat.le_refl _) (Nat.le_refl _) rfl (zp_X3_mostEarned (bk_ga153 k8) p7 n ⟨by omega, by omega⟩ e ⟨by omega, by omega⟩ (by omega) (by omega) (by omega) ?_)
            have y11 := grZ_b (show 0 ≤ n by omega) (show 0 ≤ e by omega) (by omega)
            refine z_iret dX11_grind_56 rfl ⟨rfl, ?_⟩
            refine kq _ ?_ _ FR9
            first | exact Or.inr ⟨by omega, rfl⟩ | exact Or.inl ⟨by omega, by omega, Or.inl ⟨by assumption, by assumption⟩⟩ | exact Or.inl ⟨by omega, by omega, Or.inr ⟨by assumption, rfl⟩⟩
          · skip
            refine e_aload_n dX11_grind_35 rfl ?_
            refine e_get (.ref (x + 153)) dX11_grind_36 tf_11_58 (congrArg Prod.fst (bk_s0 k8)) (congrArg va_rf (bk_r0_7 k8)) ?_
            refine e_iload_n dX11_grind_39 rfl ?_
            refine e_iload_n dX11_grind_40 rfl ?_
            refine e_callV [.int _, .int _] dX11_grind_41 tm_11_183 rfl (Nat.le_of_ble_eq_true rfl) (congrArg Prod.fst (bk_s153 k8)) (Nat.le_of_ble_eq_true rfl) (Nat.le_refl _) (Nat.le_refl _) rfl (zp_X3_firstGrinding (bk_ga153 k8) p7 n ⟨by omega, by omega⟩ e ⟨by omega, by omega⟩ (by omega) (by omega) (by omega) (fun v12 p13 => ?_))
            refine e_goto 56 dX11_grind_44 rfl ?_
            refine z_iret dX11_grind_56 rfl ⟨rfl, ?_⟩
            refine kq _ ?_ _ FR9
            first | exact Or.inr ⟨by omega, rfl⟩ | exact Or.inl ⟨by omega, by omega, Or.inl ⟨by assumption, by assumption⟩⟩ | exact Or.inl ⟨by omega, by omega, Or.inr ⟨by assumption, rfl⟩⟩
        · skip
          refine z_bipush (-2) dX11_grind_20 rfl ?_
          refine z_iret dX11_grind_22 rfl ⟨rfl, ?_⟩
          refine kq _ ?_ _ FR0
          first | exact Or.inr ⟨by omega, rfl⟩ | exact Or.inl ⟨by omega, by omega, Or.inl ⟨by assumption, by assumption⟩⟩ | exact Or.inl ⟨by omega, by omega, Or.inr ⟨by assumption, rfl⟩⟩
set_option maxHeartbeats 400000 in
theorem zp_X12_cutsOn {ad : mA} {dd : Nat} {h : mH} {Q : mQ} {m : Nat} {N : Int} (hk : rk h m) (HG : grR h m N)  (n : Int) (n_r : -2147483648 ≤ n ∧ n < 2147483648) (e : Int) (e_r : -2147483648 ≤ e ∧ e < 2147483648) (p1 : 1 ≤ n ∧ n ≤ N) (p2 : N ≤ 31) (p3 : 0 ≤ e ∧ e ≤ 20) (kq : Q (some (.int (zI (e + grZ (n - 1) (max 0 (e - 1)))))) h) : mCal TB0 ad (dd + 2) M_X12_cutsOn [.ref m, .int (zI n), .int (zI e)] h 0 0 Q := by
  refine ⟨Nat.le_of_ble_eq_true rfl, ?_⟩
  show mEv TB0 ad M_X12_cutsOn (dd + 2) (0, 0) (mCal TB0 ad (dd + 1)) (fun v h' z => z.1 = 0 ∧ Q v h') 0 [some (.ref m), some (.int (zI n)), some (.int (zI e))] [] h (0, 0)
  refine e_iload_n dX12_cutsOn_0 rfl ?_
  refine e_aload_n dX12_cutsOn_1 rfl ?_
  refine e_get (.ref (m + 25)) dX12_cutsOn_2 tf_12_84 (rk_s hk) (congrArg va_rf (rk_r25 hk)) ?_
  refine z_bipush (21) dX12_cutsOn_5 rfl ?_
  refine e_iload_n dX12_cutsOn_7 rfl ?_
  refine z_iconst (1) dX12_cutsOn_8 rfl ?_
  refine z_isub dX12_cutsOn_9 ?_
  refine z_imul dX12_cutsOn_10 ?_
  refine z_iconst (0) dX12_cutsOn_11 rfl ?_
  refine e_iload_n dX12_cutsOn_12 rfl ?_
  refine z_iconst (1) dX12_cutsOn_13 rfl ?_
  refine z_isub dX12_cutsOn_14 ?_
  refine e_callS [.int _, .int _] dX12_cutsOn_15 tm_12_176 rfl (Nat.le_of_ble_eq_true rfl) (Nat.le_refl _) (Nat.le_refl _) rfl (zp_X12_greater 0 ⟨by omega, by omega⟩ (e - 1) ⟨by omega, by omega⟩ ?_)
  refine z_iadd dX12_cutsOn_18 ?_
  refine z_ild (grZ (n - 1) (max 0 (e - 1))) dX12_cutsOn_19 (rk_a25 hk) (by decide) (by omega) (by omega) (grR_g HG (by omega) (by omega) (by omega) (by omega)) ?_
  have y1 := grZ_b (show 0 ≤ (n - 1) by omega) (show 0 ≤ (max 0 (e - 1)) by omega) (by omega)
  refine z_iadd dX12_cutsOn_20 ?_
  refine z_iret dX12_cutsOn_21 rfl ⟨rfl, ?_⟩
  refine z_q kq ?_
  rfl
set_option maxHeartbeats 400000 in
theorem zp_X12_grindsOn {ad : mA} {dd : Nat} {h : mH} {Q : mQ} {m : Nat} {N : Int} (hk : rk h m) (HG : grR h m N)  (n : Int) (n_r : -2147483648 ≤ n ∧ n < 2147483648) (e : Int) (e_r : -2147483648 ≤ e ∧ e < 2147483648) (p1 : 1 ≤ n ∧ n ≤ N) (p2 : N ≤ 31) (p3 : 0 ≤ e ∧ e ≤ 20) (kq : Q (some (.int (zI (grZ (n - 1) (min 20 (e + 5)))))) h) : mCal TB0 ad (dd + 2) M_X12_grindsOn [.ref m, .int (zI n), .int (zI e)] h 0 0 Q := by
  refine ⟨Nat.le_of_ble_eq_true rfl, ?_⟩
  show mEv TB0 ad M_X12_grindsOn (dd + 2) (0, 0) (mCal TB0 ad (dd + 1)) (fun v h' z => z.1 = 0 ∧ Q v h') 0 [some (.ref m), some (.int (zI n)), some (.int (zI e))] [] h (0, 0)
  refine e_aload_n dX12_grindsOn_0 rfl ?_
  refine e_get (.ref (m + 25)) dX12_grindsOn_1 tf_12_84 (rk_s hk) (congrArg va_rf (rk_r25 hk)) ?_
  refine z_bipush (21) dX12_grindsOn_4 rfl ?_
  refine e_iload_n dX12_grindsOn_6 rfl ?_
  refine z_iconst (1) dX12_grindsOn_7 rfl ?_
  refine z_isub dX12_grindsOn_8 ?_
  refine z_imul dX12_grindsOn_9 ?_
  refine z_bipush (20) dX12_grindsOn_10 rfl ?_
  refine e_iload_n dX12_grindsOn_12 rfl ?_
  refine z_iconst (5) dX12_grindsOn_13 rfl ?_
  refine z_iadd dX12_grindsOn_14 ?_
  refine e_callS [.int _, .int _] dX12_grindsOn_15 tm_12_340 rfl (Nat.le_of_ble_eq_true rfl) (Nat.le_refl _) (Nat.le_refl _) rfl (zp_X12_lesser 20 ⟨by omega, by omega⟩ (e + 5) ⟨by omega, by omega⟩ ?_)
  refine z_iadd dX12_grindsOn_18 ?_
  refine z_ild (grZ (n - 1) (min 20 (e + 5))) dX12_grindsOn_19 (rk_a25 hk) (by decide) (by omega) (by omega) (grR_g HG (by omega) (by omega) (by omega) (by omega)) ?_
  have y1 := grZ_b (show 0 ≤ (n - 1) by omega) (show 0 ≤ (min 20 (e + 5)) by omega) (by omega)
  refine z_iret dX12_grindsOn_20 rfl ⟨rfl, ?_⟩
  refine z_q kq ?_
  rfl
set_option maxHeartbeats 400000 in
theorem zp_X12_grind {ad : mA} {dd : Nat} {h : mH} {Q : mQ} {m : Nat}  (hk : rk h m)  (n : Int) (n_r : -2147483648 ≤ n ∧ n < 2147483648) (e : Int) (e_r : -2147483648 ≤ e ∧ e < 2147483648) (p : Prop) [Decidable p]  (kq : ∀ v : Int, (gdA n e p v) → ∀ h1, frm (fun a i => a = m ∨ (m + 9 ≤ a ∧ a < m + 30)) h h1 → Q (some (.int (zI v))) h1) : mCal TB0 ad (dd + 3) M_X12_grind [.ref m, .int (zI n), .int (zI e), .int (zI (bZ p))] h 0 0 Q := by
  refine ⟨Nat.le_of_ble_eq_true rfl, ?_⟩
  show mEv TB0 ad M_X12_grind (dd + 3) (0, 0) (mCal TB0 ad (dd + 2)) (fun v h' z => z.1 = 0 ∧ Q v h') 0 [some (.ref m), some (.int (zI n)), some (.int (zI e)), some (.int (zI (bZ p))), none, none] [] h (0, 0)
  have FR0 : frm (fun a i => a = m ∨ (m + 9 ≤ a ∧ a < m + 30)) h h := frm_0 h
  refine e_aload_n dX12_grind_0 rfl ?_
  refine z_iconst (0) dX12_grind_1 rfl ?_
  refine z_put dX12_grind_2 tf_12_103 (rk_s hk) rfl (Or.inl rfl) (fun h1 e2 => ?_)
  have f3 := frm_1 e2
  have k4 := rk_q (frm_s f3) hk
  have FR5 := frm_t FR0 (frm_m (S' := (fun a i => a = m ∨ (m + 9 ≤ a ∧ a < m + 30))) f3 (fun a k q => by omega))
  refine e_iload_n dX12_grind_5 rfl ?_
  refine z_iconst (0) dX12_grind_6 rfl ?_
  refine z_bipush (30) dX12_grind_7 rfl ?_
  refine e_callS [.int _, .int _, .int _] dX12_grind_9 tm_12_115 rfl (Nat.le_of_ble_eq_true rfl) (Nat.le_refl _) (Nat.le_refl _) rfl (zp_X12_in n ⟨by omega, by omega⟩ 0 ⟨by omega, by omega⟩ 30 ⟨by omega, by omega⟩ ?_)
  refine z_ifb_eq 25 dX12_grind_12 rfl (fun c6 => ?_) (fun c6 => ?_)
  · skip
    refine z_bipush (-2) dX12_grind_25 rfl ?_
    refine z_iret dX12_grind_27 rfl ⟨rfl, ?_⟩
    refine kq _ ?_ _ FR5
    first | exact Or.inr ⟨by omega, rfl⟩ | exact Or.inl ⟨by omega, by omega, Or.inr ⟨by assumption, rfl⟩⟩ | exact Or.inl ⟨by omega, by omega, Or.inl ⟨by assumption, Or.inl ⟨rfl, fun k a b => A4 k a (by omega)⟩⟩⟩ | exact Or.inl ⟨by omega, by omega, Or.inl ⟨by assumption, Or.inr ⟨by omega, by unfold grP; rw [show max 0 (e - i - 1) = max 0 (x - 1) by omega, ← A3]; have z2 := grZ_s (n := n - i - 1) (by omega) x; rw [show n - i - 1 + 1 = n - i by omega] at z2; omega, A4⟩⟩⟩
  · skip
    refine e_iload_n dX12_grind_15 rfl ?_
    refine z_iconst (0) dX12_grind_16 rfl ?_
    refine z_bipush (20) dX12_grind_17 rfl ?_
    refine e_callS [.int _, .int _, .int _] dX12_grind_19 tm_12_115 rfl (Nat.le_of_ble_eq_true rfl) (Nat.le_refl _) (Nat.le_refl _) rfl (zp_X12_in e ⟨by omega, by omega⟩ 0 ⟨by omega, by omega⟩ 20 ⟨by omega, by omega⟩ ?_)
    refine z_ifb_ne 28 dX12_grind_22 rfl (fun c7 => ?_) (fun c7 => ?_)
    · skip
      refine z_iconst (0) dX12_grind_28 rfl ?_
      refine e_istore (L' := [_, _, _, _, _, _]) dX12_grind_29 (Nat.le_of_ble_eq_true rfl) rfl ?_
      have lp8 : ∀ (n8 : Nat) (l : Int) (h8 : mH), (n + 1 - l).toNat = n8 → (rk h8 m) → (frm (fun a i => a = m ∨ (m + 9 ≤ a ∧ a < m + 30)) h h8) → (0 ≤ l) → (l ≤ n + 1) → (grR h8 m l) → mEv TB0 ad M_X12_grind (dd + 3) (0, 0) (mCal TB0 ad (dd + 2)) (fun v h' z => z.1 = 0 ∧ Q v h') 31 [some (.ref m), some (.int (zI n)), some (.int (zI e)), some (.int (zI (bZ p))), some (.int (zI l)), none] [] h8 (0, 0) := by
        intro n8
        induction n8 using Nat.strongRecOn with
        | ind n8 ih8 =>
        intro l h8 hn8 k9 FR10 I1 I2 I3
        refine e_iload dX12_grind_31 rfl ?_
        refine e_iload_n dX12_grind_33 rfl ?_
        refine z_icmp_gt 100 dX12_grind_34 rfl ⟨by omega, by omega⟩ ⟨by omega, by omega⟩ (fun c11 => ?_) (fun c11 => ?_)
        · skip
          skip
          refine e_iload_n dX12_grind_100 rfl ?_
          refine z_ifb_ne 116 dX12_grind_101 rfl (fun c12 => ?_) (fun c12 => ?_)
          · skip
            refine e_iload_n dX12_grind_116 rfl ?_
            refine e_istore (L' := [_, _, _, _, _, _]) dX12_grind_117 (Nat.le_of_ble_eq_true rfl) rfl ?_
            refine z_iconst (0) dX12_grind_119 rfl ?_
            refine e_istore (L' := [_, _, _, _, _, _]) dX12_grind_120 (Nat.le_of_ble_eq_true rfl) rfl ?_
            have lp13 : ∀ (n13 : Nat) (x i : Int), (n - i).toNat = n13 → (0 ≤ i) → (i ≤ n) → (x = max 0 (e - i)) → (∀ k, 0 ≤ k → k < i → ¬ grP n e k) → mEv TB0 ad M_X12_grind (dd + 3) (0, 0) (mCal TB0 ad (dd + 2)) (fun v h' z => z.1 = 0 ∧ Q v h') 122 [some (.ref m), some (.int (zI n)), some (.int (zI e)), some (.int (zI (bZ p))), some (.int (zI x)), some (.int (zI i))] [] h8 (0, 0) := by
              intro n13
              induction n13 using Nat.strongRecOn with
              | ind n13 ih13 =>
              intro x i  hn13  A1 A2 A3 A4
              refine e_iload dX12_grind_122 rfl ?_
              refine e_iload_n dX12_grind_124 rfl ?_
              refine z_icmp_ge 170 dX12_grind_125 rfl ⟨by omega, by omega⟩ ⟨by omega, by omega⟩ (fun c14 => ?_) (fun c14 => ?_)
              · skip
                refine z_iconst (-1) dX12_grind_170 rfl ?_
                refine z_iret dX12_grind_171 rfl ⟨rfl, ?_⟩
                refine kq _ ?_ _ FR10
                first | exact Or.inr ⟨by omega, rfl⟩ | exact Or.inl ⟨by omega, by omega, Or.inr ⟨by assumption, rfl⟩⟩ | exact Or.inl ⟨by omega, by omega, Or.inl ⟨by assumption, Or.inl ⟨rfl, fun k a b => A4 k a (by omega)⟩⟩⟩ | exact Or.inl ⟨by omega, by omega, Or.inl ⟨by assumption, Or.inr ⟨by omega, by unfold grP; rw [show max 0 (e - i - 1) = max 0 (x - 1) by omega, ← A3]; have z2 := grZ_s (n := n - i - 1) (by omega) x; rw [show n - i - 1 + 1 = n - i by omega] at z2; omega, A4⟩⟩⟩
              · skip
                refine e_aload_n dX12_grind_128 rfl ?_
                refine e_iload_n dX12_grind_129 rfl ?_
                refine e_iload dX12_grind_130 rfl ?_
                refine z_isub dX12_grind_132 ?_
                refine e_iload dX12_grind_133 rfl ?_
                refine e_callV [.int _, .int _] dX12_grind_135 tm_12_469 rfl (Nat.le_of_ble_eq_true rfl) (rk_s k9) (Nat.le_of_ble_eq_true rfl) (Nat.le_refl _) (Nat.le_refl _) rfl (zp_X12_cutsOn k9 I3 (n - i) ⟨by omega, by omega⟩ x ⟨by omega, by omega⟩ (by omega) (by omega) (by omega) ?_)
                have y15 := grZ_b (show 0 ≤ (n - i) - 1 by omega) (show 0 ≤ max 0 (x - 1) by omega) (by omega)
                refine e_aload_n dX12_grind_138 rfl ?_
                refine e_iload_n dX12_grind_139 rfl ?_
                refine e_iload dX12_grind_140 rfl ?_
                refine z_isub dX12_grind_142 ?_
                refine e_iload dX12_grind_143 rfl ?_
                refine e_callV [.int _, .int _] dX12_grind_145 tm_12_472 rfl (Nat.le_of_ble_eq_true rfl) (rk_s k9) (Nat.le_of_ble_eq_true rfl) (Nat.le_refl _) (Nat.le_refl _) rfl (zp_X12_grindsOn k9 I3 (n - i) ⟨by omega, by omega⟩ x ⟨by omega, by omega⟩ (by omega) (by omega) (by omega) ?_)
                have y16 := grZ_b (show 0 ≤ (n - i) - 1 by omega) (show 0 ≤ min 20 (x + 5) by omega) (by omega)
                refine z_icmp_ge 154 dX12_grind_148 rfl ⟨by omega, by omega⟩ ⟨by omega, by omega⟩ (fun c17 => ?_) (fun c17 => ?_)
                · skip
                  refine z_iconst (0) dX12_grind_154 rfl ?_
                  refine e_iload dX12_grind_155 rfl ?_
                  refine z_iconst (1) dX12_grind_157 rfl ?_
                  refine z_isub dX12_grind_158 ?_
                  refine e_callS [.int _, .int _] dX12_grind_159 tm_12_176 rfl (Nat.le_of_ble_eq_true rfl) (Nat.le_refl _) (Nat.le_refl _) rfl (zp_X12_greater 0 ⟨by omega, by omega⟩ (x - 1) ⟨by omega, by omega⟩ ?_)
                  refine e_istore (L' := [_, _, _, _, _, _]) dX12_grind_162 (Nat.le_of_ble_eq_true rfl) rfl ?_
                  refine z_iinc (L' := [_, _, _, _, _, _]) dX12_grind_164 rfl rfl ?_
                  refine e_goto 122 dX12_grind_167 rfl ?_
                  exact ih13 _ (by omega) (max 0 (x - 1)) (i + 1)  rfl  (by omega) (by omega) (by omega) (allS (P := grP n e) A4 (by intro q; unfold grP at q; rw [show max 0 (e - i - 1) = max 0 (x - 1) by omega, ← A3] at q; have z2 := grZ_s (n := n - i - 1) (by omega) x; rw [show n - i - 1 + 1 = n - i by omega] at z2; omega))
                · skip
                  refine e_iload dX12_grind_151 rfl ?_
                  refine z_iret dX12_grind_153 rfl ⟨rfl, ?_⟩
                  refine kq _ ?_ _ FR10
                  first | exact Or.inr ⟨by omega, rfl⟩ | exact Or.inl ⟨by omega, by omega, Or.inr ⟨by assumption, rfl⟩⟩ | exact Or.inl ⟨by omega, by omega, Or.inl ⟨by assumption, Or.inl ⟨rfl, fun k a b => A4 k a (by omega)⟩⟩⟩ | exact Or.inl ⟨by omega, by omega, Or.inl ⟨by assumption, Or.inr ⟨by omega, by unfold grP; rw [show max 0 (e - i - 1) = max 0 (x - 1) by omega, ← A3]; have z2 := grZ_s (n := n - i - 1) (by omega) x; rw [show n - i - 1 + 1 = n - i by omega] at z2; omega, A4⟩⟩⟩
            exact lp13 _ e 0  rfl  (by omega) (by omega) (by omega) (fun k a b => by omega)
          · skip
            refine e_aload_n dX12_grind_104 rfl ?_
            refine e_get (.ref (m + 25)) dX12_grind_105 tf_12_84 (rk_s k9) (congrArg va_rf (rk_r25 k9)) ?_
            refine z_bipush (21) dX12_grind_108 rfl ?_
            refine e_iload_n dX12_grind_110 rfl ?_
            refine z_imul dX12_grind_111 ?_
            refine e_iload_n dX12_grind_112 rfl ?_
            refine z_iadd dX12_grind_113 ?_
            refine z_ild (grZ n e) dX12_grind_114 (rk_a25 k9) (by decide) (by omega) (by omega) (grR_g I3 (by omega) (by omega) (by omega) (by omega)) ?_
            have y18 := grZ_b (show 0 ≤ n by omega) (show 0 ≤ e by omega) (by omega)
            refine z_iret dX12_grind_115 rfl ⟨rfl, ?_⟩
            refine kq _ ?_ _ FR10
            first | exact Or.inr ⟨by omega, rfl⟩ | exact Or.inl ⟨by omega, by omega, Or.inr ⟨by assumption, rfl⟩⟩ | exact Or.inl ⟨by omega, by omega, Or.inl ⟨by assumption, Or.inl ⟨rfl, fun k a b => A4 k a (by omega)⟩⟩⟩ | exact Or.inl ⟨by omega, by omega, Or.inl ⟨by assumption, Or.inr ⟨by omega, by unfold grP; rw [show max 0 (e - i - 1) = max 0 (x - 1) by omega, ← A3]; have z2 := grZ_s (n := n - i - 1) (by omega) x; rw [show n - i - 1 + 1 = n - i by omega] at z2; omega, A4⟩⟩⟩
        · skip
          skip
          refine z_iconst (0) dX12_grind_37 rfl ?_
          refine e_istore (L' := [_, _, _, _, _, _]) dX12_grind_38 (Nat.le_of_ble_eq_true rfl) rfl ?_
          have lp19 : ∀ (n19 : Nat) (x : Int) (h19 : mH), (21 - x).toNat = n19 → (rk h19 m) → (grR h19 m l) → (frm (fun a i => a = m ∨ (m + 9 ≤ a ∧ a < m + 30)) h h19) → (0 ≤ x) → (x ≤ 21) → (∀ q : Int, 0 ≤ q → q < x → rI h19 (m + 25) (21 * l + q) = grZ l q) → mEv TB0 ad M_X12_grind (dd + 3) (0, 0) (mCal TB0 ad (dd + 2)) (fun v h' z => z.1 = 0 ∧ Q v h') 40 [some (.ref m), some (.int (zI n)), some (.int (zI e)), some (.int (zI (bZ p))), some (.int (zI l)), some (.int (zI x))] [] h19 (0, 0) := by
            intro n19
            induction n19 using Nat.strongRecOn with
            | ind n19 ih19 =>
            intro x h19 hn19 k20 H21 FR22 J1 J2 J4
            refine e_iload dX12_grind_40 rfl ?_
            refine z_bipush (20) dX12_grind_42 rfl ?_
            refine z_icmp_gt 94 dX12_grind_44 rfl ⟨by omega, by omega⟩ ⟨by omega, by omega⟩ (fun c23 => ?_) (fun c23 => ?_)
            · skip
              refine z_iinc (L' := [_, _, _, _, _, _]) dX12_grind_94 rfl rfl ?_
              refine e_goto 31 dX12_grind_97 rfl ?_
              exact mEv_wk (by exact ⟨Or.inr rfl, Or.inr rfl, Or.inr rfl, Or.inr rfl, Or.inr rfl, Or.inl rfl, trivial⟩) (ih8 _ (by omega) (l + 1) h19 rfl k20 FR22 (by omega) (by omega) (grR_up H21 (fun q a c => J4 q a (by omega))))
            · skip
              refine e_aload_n dX12_grind_47 rfl ?_
              refine e_get (.ref (m + 25)) dX12_grind_48 tf_12_84 (rk_s k20) (congrArg va_rf (rk_r25 k20)) ?_
              refine z_bipush (21) dX12_grind_51 rfl ?_
              refine e_iload dX12_grind_53 rfl ?_
              refine z_imul dX12_grind_55 ?_
              refine e_iload dX12_grind_56 rfl ?_
              refine z_iadd dX12_grind_58 ?_
              refine e_iload dX12_grind_59 rfl ?_
              refine z_if_ne 68 dX12_grind_61 rfl ⟨by omega, by omega⟩ (fun c24 => ?_) (fun c24 => ?_)
              · skip
                refine e_aload_n dX12_grind_68 rfl ?_
                refine e_iload dX12_grind_69 rfl ?_
                refine e_iload dX12_grind_71 rfl ?_
                refine e_callV [.int _, .int _] dX12_grind_73 tm_12_469 rfl (Nat.le_of_ble_eq_true rfl) (rk_s k20) (Nat.le_of_ble_eq_true rfl) (Nat.le_refl _) (Nat.le_refl _) rfl (zp_X12_cutsOn k20 H21 l ⟨by omega, by omega⟩ x ⟨by omega, by omega⟩ (by omega) (by omega) (by omega) ?_)
                have y25 := grZ_b (show 0 ≤ l - 1 by omega) (show 0 ≤ max 0 (x - 1) by omega) (by omega)
                refine e_aload_n dX12_grind_76 rfl ?_
                refine e_iload dX12_grind_77 rfl ?_
                refine e_iload dX12_grind_79 rfl ?_
                refine e_callV [.int _, .int _] dX12_grind_81 tm_12_472 rfl (Nat.le_of_ble_eq_true rfl) (rk_s k20) (Nat.le_of_ble_eq_true rfl) (Nat.le_refl _) (Nat.le_refl _) rfl (zp_X12_grindsOn k20 H21 l ⟨by omega, by omega⟩ x ⟨by omega, by omega⟩ (by omega) (by omega) (by omega) ?_)
                have y26 := grZ_b (show 0 ≤ l - 1 by omega) (show 0 ≤ min 20 (x + 5) by omega) (by omega)
                refine e_callS [.int _, .int _] dX12_grind_84 tm_12_176 rfl (Nat.le_of_ble_eq_true rfl) (Nat.le_refl _) (Nat.le_refl _) rfl (zp_X12_greater (x + grZ (l - 1) (max 0 (x - 1))) ⟨by omega, by omega⟩ (grZ (l - 1) (min 20 (x + 5))) ⟨by omega, by omega⟩ ?_)
                refine z_ist dX12_grind_87 (rk_a25 k20) (by decide) (by omega) (by omega) (fun h27 e28 => ?_)
                have f29 := frm_1 e28
                have k30 := rk_q (frm_s f29) k20
                have H31 := grR_c f29 (fun k q => by omega) H21
                have FR32 := frm_t FR22 (frm_m (S' := (fun a i => a = m ∨ (m + 9 ≤ a ∧ a < m + 30))) f29 (fun a k q => by omega))
                refine z_iinc (L' := [_, _, _, _, _, _]) dX12_grind_88 rfl rfl ?_
                refine e_goto 40 dX12_grind_91 rfl ?_
                exact ih19 _ (by omega) (x + 1) h27 rfl k30 H31 FR32 (by omega) (by omega) (fun q a c => by
                            by_cases z : q = x
                            · subst z; exact ((rI_eq e28 ⟨by omega, by omega⟩)).trans (by first | (rw [show l = 0 by omega]; rfl) | (have := grZ_s (n := l - 1) (by omega) q; rw [show l - 1 + 1 = l by omega] at this; exact this.symm))
                            · exact (frm_r f29 (by omega)).trans (J4 q a (by omega)))
              · skip
                refine z_iconst (0) dX12_grind_64 rfl ?_
                refine e_goto 87 dX12_grind_65 rfl ?_
                refine z_ist dX12_grind_87 (rk_a25 k20) (by decide) (by omega) (by omega) (fun h33 e34 => ?_)
                have f35 := frm_1 e34
                have k36 := rk_q (frm_s f35) k20
                have H37 := grR_c f35 (fun k q => by omega) H21
                have FR38 := frm_t FR22 (frm_m (S' := (fun a i => a = m ∨ (m + 9 ≤ a ∧ a < m + 30))) f35 (fun a k q => by omega))
                refine z_iinc (L' := [_, _, _, _, _, _]) dX12_grind_88 rfl rfl ?_
                refine e_goto 40 dX12_grind_91 rfl ?_
                exact ih19 _ (by omega) (x + 1) h33 rfl k36 H37 FR38 (by omega) (by omega) (fun q a c => by
                            by_cases z : q = x
                            · subst z; exact ((rI_eq e34 ⟨by omega, by omega⟩)).trans (by first | (rw [show l = 0 by omega]; rfl) | (have := grZ_s (n := l - 1) (by omega) q; rw [show l - 1 + 1 = l by omega] at this; exact this.symm))
                            · exact (frm_r f35 (by omega)).trans (J4 q a (by omega)))
          exact lp19 _ 0 h8 rfl k9 I3 FR10 (by omega) (by omega) (fun q a b => by omega)
      exact lp8 _ 0 h1 rfl k4 FR5 (by omega) (by omega) (fun j q a b c d => by omega)
    · skip
      refine z_bipush (-2) dX12_grind_25 rfl ?_
      refine z_iret dX12_grind_27 rfl ⟨rfl, ?_⟩
      refine kq _ ?_ _ FR5
      first | exact Or.inr ⟨by omega, rfl⟩ | exact Or.inl ⟨by omega, by omega, Or.inr ⟨by assumption, rfl⟩⟩ | exact Or.inl ⟨by omega, by omega, Or.inl ⟨by assumption, Or.inl ⟨rfl, fun k a b => A4 k a (by omega)⟩⟩⟩ | exact Or.inl ⟨by omega, by omega, Or.inl ⟨by assumption, Or.inr ⟨by omega, by unfold grP; rw [show max 0 (e - i - 1) = max 0 (x - 1) by omega, ← A3]; have z2 := grZ_s (n := n - i - 1) (by omega) x; rw [show n - i - 1 + 1 = n - i by omega] at z2; omega, A4⟩⟩⟩
theorem op14 {ad : mA} {B : Nat} : op_14 ad B (Inv B) := by
  intro a b bb hb
  rw [← zI_toInt a]
  rw [← zI_toInt b]
  rw [bb_z hb]
  have ra := in_of a
  generalize a.toInt = a at *
  have rb := in_of b
  generalize b.toInt = b at *
  refine opq_I (fun σ r => gdA a b (bb = 1) r) (fun σ r r' x y => gdA_u x y) (fun h σ hk HX Q kq => ?_) (fun h σ hr HR Q kq => ?_)
  · exact zp_X11_grind hk a ra b rb (bb = 1) (fun v p h1 f => kq v h1 f p)
  · exact zp_X12_grind hr a ra b rb (bb = 1) (fun v p h1 f => kq v h1 f p)

/-! IMAGES: the copies -/
theorem dX1_copyFrom_0 : decode cX1_copyFrom 0 = .ok (.aload_n 1, 1) := by decide +kernel
theorem dX1_copyFrom_1 : decode cX1_copyFrom 1 = .ok (.getfield 9, 3) := by decide +kernel
theorem dX1_copyFrom_4 : decode cX1_copyFrom 4 = .ok (.iconst 0, 1) := by decide +kernel
theorem dX1_copyFrom_5 : decode cX1_copyFrom 5 = .ok (.aload_n 0, 1) := by decide +kernel
theorem dX1_copyFrom_6 : decode cX1_copyFrom 6 = .ok (.getfield 9, 3) := by decide +kernel
theorem dX1_copyFrom_9 : decode cX1_copyFrom 9 = .ok (.iconst 0, 1) := by decide +kernel
theorem dX1_copyFrom_10 : decode cX1_copyFrom 10 = .ok (.bipush 8, 2) := by decide +kernel
theorem dX1_copyFrom_12 : decode cX1_copyFrom 12 = .ok (.invokestatic 76, 3) := by decide +kernel
theorem dX1_copyFrom_15 : decode cX1_copyFrom 15 = .ok (.aload_n 1, 1) := by decide +kernel
theorem dX1_copyFrom_16 : decode cX1_copyFrom 16 = .ok (.getfield 15, 3) := by decide +kernel
theorem dX1_copyFrom_19 : decode cX1_copyFrom 19 = .ok (.iconst 0, 1) := by decide +kernel
theorem dX1_copyFrom_20 : decode cX1_copyFrom 20 = .ok (.aload_n 0, 1) := by decide +kernel
theorem dX1_copyFrom_21 : decode cX1_copyFrom 21 = .ok (.getfield 15, 3) := by decide +kernel
theorem dX1_copyFrom_24 : decode cX1_copyFrom 24 = .ok (.iconst 0, 1) := by decide +kernel
theorem dX1_copyFrom_25 : decode cX1_copyFrom 25 = .ok (.bipush 8, 2) := by decide +kernel
theorem dX1_copyFrom_27 : decode cX1_copyFrom 27 = .ok (.invokestatic 76, 3) := by decide +kernel
theorem dX1_copyFrom_30 : decode cX1_copyFrom 30 = .ok (.aload_n 1, 1) := by decide +kernel
theorem dX1_copyFrom_31 : decode cX1_copyFrom 31 = .ok (.getfield 18, 3) := by decide +kernel
theorem dX1_copyFrom_34 : decode cX1_copyFrom 34 = .ok (.iconst 0, 1) := by decide +kernel
theorem dX1_copyFrom_35 : decode cX1_copyFrom 35 = .ok (.aload_n 0, 1) := by decide +kernel
theorem dX1_copyFrom_36 : decode cX1_copyFrom 36 = .ok (.getfield 18, 3) := by decide +kernel
theorem dX1_copyFrom_39 : decode cX1_copyFrom 39 = .ok (.iconst 0, 1) := by decide +kernel
theorem dX1_copyFrom_40 : decode cX1_copyFrom 40 = .ok (.bipush 8, 2) := by decide +kernel
theorem dX1_copyFrom_42 : decode cX1_copyFrom 42 = .ok (.invokestatic 76, 3) := by decide +kernel
theorem dX1_copyFrom_45 : decode cX1_copyFrom 45 = .ok (.aload_n 0, 1) := by decide +kernel
theorem dX1_copyFrom_46 : decode cX1_copyFrom 46 = .ok (.aload_n 1, 1) := by decide +kernel
theorem dX1_copyFrom_47 : decode cX1_copyFrom 47 = .ok (.getfield 21, 3) := by decide +kernel
theorem dX1_copyFrom_50 : decode cX1_copyFrom 50 = .ok (.putfield 21, 3) := by decide +kernel
theorem dX1_copyFrom_53 : decode cX1_copyFrom 53 = .ok (.return_, 1) := by decide +kernel
theorem dX8_copyFrom_0 : decode cX8_copyFrom 0 = .ok (.aload_n 1, 1) := by decide +kernel
theorem dX8_copyFrom_1 : decode cX8_copyFrom 1 = .ok (.getfield 9, 3) := by decide +kernel
theorem dX8_copyFrom_4 : decode cX8_copyFrom 4 = .ok (.iconst 0, 1) := by decide +kernel
theorem dX8_copyFrom_5 : decode cX8_copyFrom 5 = .ok (.aload_n 0, 1) := by decide +kernel
theorem dX8_copyFrom_6 : decode cX8_copyFrom 6 = .ok (.getfield 9, 3) := by decide +kernel
theorem dX8_copyFrom_9 : decode cX8_copyFrom 9 = .ok (.iconst 0, 1) := by decide +kernel
theorem dX8_copyFrom_10 : decode cX8_copyFrom 10 = .ok (.sipush 600, 3) := by decide +kernel
theorem dX8_copyFrom_13 : decode cX8_copyFrom 13 = .ok (.invokestatic 79, 3) := by decide +kernel
theorem dX8_copyFrom_16 : decode cX8_copyFrom 16 = .ok (.aload_n 1, 1) := by decide +kernel
theorem dX8_copyFrom_17 : decode cX8_copyFrom 17 = .ok (.getfield 33, 3) := by decide +kernel
theorem dX8_copyFrom_20 : decode cX8_copyFrom 20 = .ok (.iconst 0, 1) := by decide +kernel
theorem dX8_copyFrom_21 : decode cX8_copyFrom 21 = .ok (.aload_n 0, 1) := by decide +kernel
theorem dX8_copyFrom_22 : decode cX8_copyFrom 22 = .ok (.getfield 33, 3) := by decide +kernel
theorem dX8_copyFrom_25 : decode cX8_copyFrom 25 = .ok (.iconst 0, 1) := by decide +kernel
theorem dX8_copyFrom_26 : decode cX8_copyFrom 26 = .ok (.iconst 3, 1) := by decide +kernel
theorem dX8_copyFrom_27 : decode cX8_copyFrom 27 = .ok (.invokestatic 79, 3) := by decide +kernel
theorem dX8_copyFrom_30 : decode cX8_copyFrom 30 = .ok (.iconst 0, 1) := by decide +kernel
theorem dX8_copyFrom_31 : decode cX8_copyFrom 31 = .ok (.istore_n 2, 1) := by decide +kernel
theorem dX8_copyFrom_32 : decode cX8_copyFrom 32 = .ok (.iload_n 2, 1) := by decide +kernel
theorem dX8_copyFrom_33 : decode cX8_copyFrom 33 = .ok (.iconst 2, 1) := by decide +kernel
theorem dX8_copyFrom_34 : decode cX8_copyFrom 34 = .ok (.if_icmp .ge 54, 3) := by decide +kernel
theorem dX8_copyFrom_37 : decode cX8_copyFrom 37 = .ok (.aload_n 0, 1) := by decide +kernel
theorem dX8_copyFrom_38 : decode cX8_copyFrom 38 = .ok (.getfield 17, 3) := by decide +kernel
theorem dX8_copyFrom_41 : decode cX8_copyFrom 41 = .ok (.iload_n 2, 1) := by decide +kernel
theorem dX8_copyFrom_42 : decode cX8_copyFrom 42 = .ok (.aaload, 1) := by decide +kernel
theorem dX8_copyFrom_43 : decode cX8_copyFrom 43 = .ok (.aload_n 1, 1) := by decide +kernel
theorem dX8_copyFrom_44 : decode cX8_copyFrom 44 = .ok (.getfield 17, 3) := by decide +kernel
theorem dX8_copyFrom_47 : decode cX8_copyFrom 47 = .ok (.iload_n 2, 1) := by decide +kernel
theorem dX8_copyFrom_48 : decode cX8_copyFrom 48 = .ok (.aaload, 1) := by decide +kernel
theorem dX8_copyFrom_49 : decode cX8_copyFrom 49 = .ok (.invokevirtual 56, 3) := by decide +kernel
theorem dX8_copyFrom_52 : decode cX8_copyFrom 52 = .ok (.aload_n 0, 1) := by decide +kernel
theorem dX8_copyFrom_53 : decode cX8_copyFrom 53 = .ok (.getfield 23, 3) := by decide +kernel
theorem dX8_copyFrom_56 : decode cX8_copyFrom 56 = .ok (.iload_n 2, 1) := by decide +kernel
theorem dX8_copyFrom_57 : decode cX8_copyFrom 57 = .ok (.aaload, 1) := by decide +kernel
theorem dX8_copyFrom_58 : decode cX8_copyFrom 58 = .ok (.aload_n 1, 1) := by decide +kernel
theorem dX8_copyFrom_59 : decode cX8_copyFrom 59 = .ok (.getfield 23, 3) := by decide +kernel
theorem dX8_copyFrom_62 : decode cX8_copyFrom 62 = .ok (.iload_n 2, 1) := by decide +kernel
theorem dX8_copyFrom_63 : decode cX8_copyFrom 63 = .ok (.aaload, 1) := by decide +kernel
theorem dX8_copyFrom_64 : decode cX8_copyFrom 64 = .ok (.invokevirtual 64, 3) := by decide +kernel
theorem dX8_copyFrom_67 : decode cX8_copyFrom 67 = .ok (.aload_n 0, 1) := by decide +kernel
theorem dX8_copyFrom_68 : decode cX8_copyFrom 68 = .ok (.getfield 29, 3) := by decide +kernel
theorem dX8_copyFrom_71 : decode cX8_copyFrom 71 = .ok (.iload_n 2, 1) := by decide +kernel
theorem dX8_copyFrom_72 : decode cX8_copyFrom 72 = .ok (.aaload, 1) := by decide +kernel
theorem dX8_copyFrom_73 : decode cX8_copyFrom 73 = .ok (.aload_n 1, 1) := by decide +kernel
theorem dX8_copyFrom_74 : decode cX8_copyFrom 74 = .ok (.getfield 29, 3) := by decide +kernel
theorem dX8_copyFrom_77 : decode cX8_copyFrom 77 = .ok (.iload_n 2, 1) := by decide +kernel
theorem dX8_copyFrom_78 : decode cX8_copyFrom 78 = .ok (.aaload, 1) := by decide +kernel
theorem dX8_copyFrom_79 : decode cX8_copyFrom 79 = .ok (.invokevirtual 70, 3) := by decide +kernel
theorem dX8_copyFrom_82 : decode cX8_copyFrom 82 = .ok (.iinc 2 1, 3) := by decide +kernel
theorem dX8_copyFrom_85 : decode cX8_copyFrom 85 = .ok (.goto (-53), 3) := by decide +kernel
theorem dX8_copyFrom_88 : decode cX8_copyFrom 88 = .ok (.aload_n 0, 1) := by decide +kernel
theorem dX8_copyFrom_89 : decode cX8_copyFrom 89 = .ok (.aload_n 1, 1) := by decide +kernel
theorem dX8_copyFrom_90 : decode cX8_copyFrom 90 = .ok (.getfield 37, 3) := by decide +kernel
theorem dX8_copyFrom_93 : decode cX8_copyFrom 93 = .ok (.putfield 37, 3) := by decide +kernel
theorem dX8_copyFrom_96 : decode cX8_copyFrom 96 = .ok (.aload_n 0, 1) := by decide +kernel
theorem dX8_copyFrom_97 : decode cX8_copyFrom 97 = .ok (.aload_n 1, 1) := by decide +kernel
theorem dX8_copyFrom_98 : decode cX8_copyFrom 98 = .ok (.getfield 41, 3) := by decide +kernel
theorem dX8_copyFrom_101 : decode cX8_copyFrom 101 = .ok (.putfield 41, 3) := by decide +kernel
theorem dX8_copyFrom_104 : decode cX8_copyFrom 104 = .ok (.aload_n 0, 1) := by decide +kernel
theorem dX8_copyFrom_105 : decode cX8_copyFrom 105 = .ok (.aload_n 1, 1) := by decide +kernel
theorem dX8_copyFrom_106 : decode cX8_copyFrom 106 = .ok (.getfield 44, 3) := by decide +kernel
theorem dX8_copyFrom_109 : decode cX8_copyFrom 109 = .ok (.putfield 44, 3) := by decide +kernel
theorem dX8_copyFrom_112 : decode cX8_copyFrom 112 = .ok (.return_, 1) := by decide +kernel
theorem dX10_copyFrom_0 : decode cX10_copyFrom 0 = .ok (.aload_n 1, 1) := by decide +kernel
theorem dX10_copyFrom_1 : decode cX10_copyFrom 1 = .ok (.getfield 9, 3) := by decide +kernel
theorem dX10_copyFrom_4 : decode cX10_copyFrom 4 = .ok (.iconst 0, 1) := by decide +kernel
theorem dX10_copyFrom_5 : decode cX10_copyFrom 5 = .ok (.aload_n 0, 1) := by decide +kernel
theorem dX10_copyFrom_6 : decode cX10_copyFrom 6 = .ok (.getfield 9, 3) := by decide +kernel
theorem dX10_copyFrom_9 : decode cX10_copyFrom 9 = .ok (.iconst 0, 1) := by decide +kernel
theorem dX10_copyFrom_10 : decode cX10_copyFrom 10 = .ok (.bipush 40, 2) := by decide +kernel
theorem dX10_copyFrom_12 : decode cX10_copyFrom 12 = .ok (.invokestatic 25, 3) := by decide +kernel
theorem dX10_copyFrom_15 : decode cX10_copyFrom 15 = .ok (.aload_n 1, 1) := by decide +kernel
theorem dX10_copyFrom_16 : decode cX10_copyFrom 16 = .ok (.getfield 15, 3) := by decide +kernel
theorem dX10_copyFrom_19 : decode cX10_copyFrom 19 = .ok (.iconst 0, 1) := by decide +kernel
theorem dX10_copyFrom_20 : decode cX10_copyFrom 20 = .ok (.aload_n 0, 1) := by decide +kernel
theorem dX10_copyFrom_21 : decode cX10_copyFrom 21 = .ok (.getfield 15, 3) := by decide +kernel
theorem dX10_copyFrom_24 : decode cX10_copyFrom 24 = .ok (.iconst 0, 1) := by decide +kernel
theorem dX10_copyFrom_25 : decode cX10_copyFrom 25 = .ok (.bipush 40, 2) := by decide +kernel
theorem dX10_copyFrom_27 : decode cX10_copyFrom 27 = .ok (.invokestatic 25, 3) := by decide +kernel
theorem dX10_copyFrom_30 : decode cX10_copyFrom 30 = .ok (.aload_n 1, 1) := by decide +kernel
theorem dX10_copyFrom_31 : decode cX10_copyFrom 31 = .ok (.getfield 18, 3) := by decide +kernel
theorem dX10_copyFrom_34 : decode cX10_copyFrom 34 = .ok (.iconst 0, 1) := by decide +kernel
theorem dX10_copyFrom_35 : decode cX10_copyFrom 35 = .ok (.aload_n 0, 1) := by decide +kernel
theorem dX10_copyFrom_36 : decode cX10_copyFrom 36 = .ok (.getfield 18, 3) := by decide +kernel
theorem dX10_copyFrom_39 : decode cX10_copyFrom 39 = .ok (.iconst 0, 1) := by decide +kernel
theorem dX10_copyFrom_40 : decode cX10_copyFrom 40 = .ok (.bipush 40, 2) := by decide +kernel
theorem dX10_copyFrom_42 : decode cX10_copyFrom 42 = .ok (.invokestatic 25, 3) := by decide +kernel
theorem dX10_copyFrom_45 : decode cX10_copyFrom 45 = .ok (.aload_n 0, 1) := by decide +kernel
theorem dX10_copyFrom_46 : decode cX10_copyFrom 46 = .ok (.aload_n 1, 1) := by decide +kernel
theorem dX10_copyFrom_47 : decode cX10_copyFrom 47 = .ok (.getfield 21, 3) := by decide +kernel
theorem dX10_copyFrom_50 : decode cX10_copyFrom 50 = .ok (.putfield 21, 3) := by decide +kernel
theorem dX10_copyFrom_53 : decode cX10_copyFrom 53 = .ok (.return_, 1) := by decide +kernel
theorem dX12_copyRow_0 : decode cX12_copyRow 0 = .ok (.iconst 0, 1) := by decide +kernel
theorem dX12_copyRow_1 : decode cX12_copyRow 1 = .ok (.istore 4, 2) := by decide +kernel
theorem dX12_copyRow_3 : decode cX12_copyRow 3 = .ok (.iload 4, 2) := by decide +kernel
theorem dX12_copyRow_5 : decode cX12_copyRow 5 = .ok (.iload_n 1, 1) := by decide +kernel
theorem dX12_copyRow_6 : decode cX12_copyRow 6 = .ok (.if_icmp .ge 25, 3) := by decide +kernel
theorem dX12_copyRow_9 : decode cX12_copyRow 9 = .ok (.aload_n 0, 1) := by decide +kernel
theorem dX12_copyRow_10 : decode cX12_copyRow 10 = .ok (.iload_n 1, 1) := by decide +kernel
theorem dX12_copyRow_11 : decode cX12_copyRow 11 = .ok (.iload_n 3, 1) := by decide +kernel
theorem dX12_copyRow_12 : decode cX12_copyRow 12 = .ok (.imul, 1) := by decide +kernel
theorem dX12_copyRow_13 : decode cX12_copyRow 13 = .ok (.iload 4, 2) := by decide +kernel
theorem dX12_copyRow_15 : decode cX12_copyRow 15 = .ok (.iadd, 1) := by decide +kernel
theorem dX12_copyRow_16 : decode cX12_copyRow 16 = .ok (.aload_n 0, 1) := by decide +kernel
theorem dX12_copyRow_17 : decode cX12_copyRow 17 = .ok (.iload_n 1, 1) := by decide +kernel
theorem dX12_copyRow_18 : decode cX12_copyRow 18 = .ok (.iload_n 2, 1) := by decide +kernel
theorem dX12_copyRow_19 : decode cX12_copyRow 19 = .ok (.imul, 1) := by decide +kernel
theorem dX12_copyRow_20 : decode cX12_copyRow 20 = .ok (.iload 4, 2) := by decide +kernel
theorem dX12_copyRow_22 : decode cX12_copyRow 22 = .ok (.iadd, 1) := by decide +kernel
theorem dX12_copyRow_23 : decode cX12_copyRow 23 = .ok (.iaload, 1) := by decide +kernel
theorem dX12_copyRow_24 : decode cX12_copyRow 24 = .ok (.iastore, 1) := by decide +kernel
theorem dX12_copyRow_25 : decode cX12_copyRow 25 = .ok (.iinc 4 1, 3) := by decide +kernel
theorem dX12_copyRow_28 : decode cX12_copyRow 28 = .ok (.goto (-25), 3) := by decide +kernel
theorem dX12_copyRow_31 : decode cX12_copyRow 31 = .ok (.return_, 1) := by decide +kernel
theorem dX12_copyAll_0 : decode cX12_copyAll 0 = .ok (.iconst 0, 1) := by decide +kernel
theorem dX12_copyAll_1 : decode cX12_copyAll 1 = .ok (.istore_n 3, 1) := by decide +kernel
theorem dX12_copyAll_2 : decode cX12_copyAll 2 = .ok (.iload_n 3, 1) := by decide +kernel
theorem dX12_copyAll_3 : decode cX12_copyAll 3 = .ok (.sipush 600, 3) := by decide +kernel
theorem dX12_copyAll_6 : decode cX12_copyAll 6 = .ok (.if_icmp .ge 33, 3) := by decide +kernel
theorem dX12_copyAll_9 : decode cX12_copyAll 9 = .ok (.aload_n 0, 1) := by decide +kernel
theorem dX12_copyAll_10 : decode cX12_copyAll 10 = .ok (.getfield 7, 3) := by decide +kernel
theorem dX12_copyAll_13 : decode cX12_copyAll 13 = .ok (.sipush 600, 3) := by decide +kernel
theorem dX12_copyAll_16 : decode cX12_copyAll 16 = .ok (.iload_n 2, 1) := by decide +kernel
theorem dX12_copyAll_17 : decode cX12_copyAll 17 = .ok (.imul, 1) := by decide +kernel
theorem dX12_copyAll_18 : decode cX12_copyAll 18 = .ok (.iload_n 3, 1) := by decide +kernel
theorem dX12_copyAll_19 : decode cX12_copyAll 19 = .ok (.iadd, 1) := by decide +kernel
theorem dX12_copyAll_20 : decode cX12_copyAll 20 = .ok (.aload_n 0, 1) := by decide +kernel
theorem dX12_copyAll_21 : decode cX12_copyAll 21 = .ok (.getfield 7, 3) := by decide +kernel
theorem dX12_copyAll_24 : decode cX12_copyAll 24 = .ok (.sipush 600, 3) := by decide +kernel
theorem dX12_copyAll_27 : decode cX12_copyAll 27 = .ok (.iload_n 1, 1) := by decide +kernel
theorem dX12_copyAll_28 : decode cX12_copyAll 28 = .ok (.imul, 1) := by decide +kernel
theorem dX12_copyAll_29 : decode cX12_copyAll 29 = .ok (.iload_n 3, 1) := by decide +kernel
theorem dX12_copyAll_30 : decode cX12_copyAll 30 = .ok (.iadd, 1) := by decide +kernel
theorem dX12_copyAll_31 : decode cX12_copyAll 31 = .ok (.baload, 1) := by decide +kernel
theorem dX12_copyAll_32 : decode cX12_copyAll 32 = .ok (.bastore, 1) := by decide +kernel
theorem dX12_copyAll_33 : decode cX12_copyAll 33 = .ok (.iinc 3 1, 3) := by decide +kernel
theorem dX12_copyAll_36 : decode cX12_copyAll 36 = .ok (.goto (-34), 3) := by decide +kernel
theorem dX12_copyAll_39 : decode cX12_copyAll 39 = .ok (.aload_n 0, 1) := by decide +kernel
theorem dX12_copyAll_40 : decode cX12_copyAll 40 = .ok (.getfield 13, 3) := by decide +kernel
theorem dX12_copyAll_43 : decode cX12_copyAll 43 = .ok (.iconst 1, 1) := by decide +kernel
theorem dX12_copyAll_44 : decode cX12_copyAll 44 = .ok (.iload_n 1, 1) := by decide +kernel
theorem dX12_copyAll_45 : decode cX12_copyAll 45 = .ok (.iload_n 2, 1) := by decide +kernel
theorem dX12_copyAll_46 : decode cX12_copyAll 46 = .ok (.invokestatic 111, 3) := by decide +kernel
theorem dX12_copyAll_49 : decode cX12_copyAll 49 = .ok (.aload_n 0, 1) := by decide +kernel
theorem dX12_copyAll_50 : decode cX12_copyAll 50 = .ok (.getfield 17, 3) := by decide +kernel
theorem dX12_copyAll_53 : decode cX12_copyAll 53 = .ok (.iconst 1, 1) := by decide +kernel
theorem dX12_copyAll_54 : decode cX12_copyAll 54 = .ok (.iload_n 1, 1) := by decide +kernel
theorem dX12_copyAll_55 : decode cX12_copyAll 55 = .ok (.iload_n 2, 1) := by decide +kernel
theorem dX12_copyAll_56 : decode cX12_copyAll 56 = .ok (.invokestatic 111, 3) := by decide +kernel
theorem dX12_copyAll_59 : decode cX12_copyAll 59 = .ok (.aload_n 0, 1) := by decide +kernel
theorem dX12_copyAll_60 : decode cX12_copyAll 60 = .ok (.getfield 20, 3) := by decide +kernel
theorem dX12_copyAll_63 : decode cX12_copyAll 63 = .ok (.iconst 1, 1) := by decide +kernel
theorem dX12_copyAll_64 : decode cX12_copyAll 64 = .ok (.iload_n 1, 1) := by decide +kernel
theorem dX12_copyAll_65 : decode cX12_copyAll 65 = .ok (.iload_n 2, 1) := by decide +kernel
theorem dX12_copyAll_66 : decode cX12_copyAll 66 = .ok (.invokestatic 111, 3) := by decide +kernel
theorem dX12_copyAll_69 : decode cX12_copyAll 69 = .ok (.aload_n 0, 1) := by decide +kernel
theorem dX12_copyAll_70 : decode cX12_copyAll 70 = .ok (.getfield 23, 3) := by decide +kernel
theorem dX12_copyAll_73 : decode cX12_copyAll 73 = .ok (.iconst 3, 1) := by decide +kernel
theorem dX12_copyAll_74 : decode cX12_copyAll 74 = .ok (.iload_n 1, 1) := by decide +kernel
theorem dX12_copyAll_75 : decode cX12_copyAll 75 = .ok (.iload_n 2, 1) := by decide +kernel
theorem dX12_copyAll_76 : decode cX12_copyAll 76 = .ok (.invokestatic 111, 3) := by decide +kernel
theorem dX12_copyAll_79 : decode cX12_copyAll 79 = .ok (.aload_n 0, 1) := by decide +kernel
theorem dX12_copyAll_80 : decode cX12_copyAll 80 = .ok (.getfield 26, 3) := by decide +kernel
theorem dX12_copyAll_83 : decode cX12_copyAll 83 = .ok (.sipush 162, 3) := by decide +kernel
theorem dX12_copyAll_86 : decode cX12_copyAll 86 = .ok (.iload_n 1, 1) := by decide +kernel
theorem dX12_copyAll_87 : decode cX12_copyAll 87 = .ok (.iload_n 2, 1) := by decide +kernel
theorem dX12_copyAll_88 : decode cX12_copyAll 88 = .ok (.invokestatic 111, 3) := by decide +kernel
theorem dX12_copyAll_91 : decode cX12_copyAll 91 = .ok (.aload_n 0, 1) := by decide +kernel
theorem dX12_copyAll_92 : decode cX12_copyAll 92 = .ok (.getfield 29, 3) := by decide +kernel
theorem dX12_copyAll_95 : decode cX12_copyAll 95 = .ok (.sipush 242, 3) := by decide +kernel
theorem dX12_copyAll_98 : decode cX12_copyAll 98 = .ok (.iload_n 1, 1) := by decide +kernel
theorem dX12_copyAll_99 : decode cX12_copyAll 99 = .ok (.iload_n 2, 1) := by decide +kernel
theorem dX12_copyAll_100 : decode cX12_copyAll 100 = .ok (.invokestatic 111, 3) := by decide +kernel
theorem dX12_copyAll_103 : decode cX12_copyAll 103 = .ok (.aload_n 0, 1) := by decide +kernel
theorem dX12_copyAll_104 : decode cX12_copyAll 104 = .ok (.getfield 32, 3) := by decide +kernel
theorem dX12_copyAll_107 : decode cX12_copyAll 107 = .ok (.bipush 50, 2) := by decide +kernel
theorem dX12_copyAll_109 : decode cX12_copyAll 109 = .ok (.iload_n 1, 1) := by decide +kernel
theorem dX12_copyAll_110 : decode cX12_copyAll 110 = .ok (.iload_n 2, 1) := by decide +kernel
theorem dX12_copyAll_111 : decode cX12_copyAll 111 = .ok (.invokestatic 111, 3) := by decide +kernel
theorem dX12_copyAll_114 : decode cX12_copyAll 114 = .ok (.return_, 1) := by decide +kernel
set_option maxRecDepth 20000 in
theorem tm_1_76 : tMet TB0 1 76 = some (5, M_none) := rfl
set_option maxRecDepth 20000 in
theorem tm_8_56 : tMet TB0 8 56 = some (0, M_X2_copyFrom) := rfl
set_option maxRecDepth 20000 in
theorem tm_8_64 : tMet TB0 8 64 = some (0, M_X10_copyFrom) := rfl
set_option maxRecDepth 20000 in
theorem tm_8_70 : tMet TB0 8 70 = some (0, M_X1_copyFrom) := rfl
set_option maxRecDepth 20000 in
theorem tm_8_79 : tMet TB0 8 79 = some (5, M_none) := rfl
set_option maxRecDepth 20000 in
theorem tm_10_25 : tMet TB0 10 25 = some (5, M_none) := rfl
set_option maxRecDepth 20000 in
theorem tm_12_111 : tMet TB0 12 111 = some (1, M_X12_copyRow) := rfl
/-! IMAGES: what is told is copied -/
theorem byZ_id {v : Int} (h0 : -128 ≤ v) (h1 : v < 128) : byZ v = v := by
  unfold byZ
  rw [Int8.toInt_toInt32]
  exact Int8.toInt_ofInt_of_le h0 h1
/-- at f stands now what stood at o -/
def cpF (h1 : mH) (f : Nat) (h : mH) (o : Nat) : Prop := eqF h o h1 f
theorem cpF_c {S : Nat → Nat → Prop} {h h1 h2 : mH} {f o : Nat} (s : frm S h1 h2) (n : ∀ a k, f ≤ a → a < f + 16 → ¬ S a k) (H : cpF h1 f h o) : cpF h2 f h o := by
  obtain ⟨⟨a0, a1⟩, ⟨c0, c1⟩, k0, k1⟩ := H
  have e : ∀ a, f ≤ a → a < f + 16 → ∀ z, rI h2 a z = rI h1 a z := fun a x y z => frm_r s (n a z.toNat x y)
  refine ⟨⟨(e _ (by omega) (by omega) _).trans a0, fun j x y => ?_⟩, ⟨(e _ (by omega) (by omega) _).trans c0, fun j x y => ?_⟩, (e _ (by omega) (by omega) _).trans k0, fun j x y => ?_⟩
  · obtain ⟨p1, p2, p3, p4, p5⟩ := a1 j x y
    exact ⟨(e _ (by omega) (by omega) _).trans p1, (e _ (by omega) (by omega) _).trans p2, (e _ (by omega) (by omega) _).trans p3, (e _ (by omega) (by omega) _).trans p4, (e _ (by omega) (by omega) _).trans p5⟩
  · obtain ⟨p1, p2, p3, p4, p5⟩ := c1 j x y
    exact ⟨(e _ (by omega) (by omega) _).trans p1, (e _ (by omega) (by omega) _).trans p2, (e _ (by omega) (by omega) _).trans p3, (e _ (by omega) (by omega) _).trans p4, (e _ (by omega) (by omega) _).trans p5⟩
  · obtain ⟨p1, p2, p3⟩ := k1 j x y
    exact ⟨(e _ (by omega) (by omega) _).trans p1, (e _ (by omega) (by omega) _).trans p2, (e _ (by omega) (by omega) _).trans p3⟩
def cpY (h1 : mH) (f : Nat) (h : mH) (o : Nat) (n : Int) : Prop := rI h1 f 3 = rI h o 3 ∧ ∀ j : Int, 0 ≤ j → j < n → rI h1 (f + 1) j = rI h (o + 1) j ∧ rI h1 (f + 2) j = rI h (o + 2) j ∧ rI h1 (f + 3) j = rI h (o + 3) j
theorem cpY_c {S : Nat → Nat → Prop} {h h1 h2 : mH} {f o : Nat} {n : Int} (s : frm S h1 h2) (m : ∀ a k, f ≤ a → a < f + 4 → ¬ S a k) (H : cpY h1 f h o n) : cpY h2 f h o n := by
  have e : ∀ a, f ≤ a → a < f + 4 → ∀ z, rI h2 a z = rI h1 a z := fun a x y z => frm_r s (m a z.toNat x y)
  refine ⟨(e _ (by omega) (by omega) _).trans H.1, fun j x y => ?_⟩
  obtain ⟨p1, p2, p3⟩ := H.2 j x y
  exact ⟨(e _ (by omega) (by omega) _).trans p1, (e _ (by omega) (by omega) _).trans p2, (e _ (by omega) (by omega) _).trans p3⟩
theorem isY_eq {h h1 : mH} {f o : Nat} {y : Int → Int} (E : cpY h1 f h o 40) (H : isY h o y) : isY h1 f y := by
  have w := (isY_w H).1
  refine ⟨H.1, E.1.trans H.2.1, fun k a c => ?_⟩
  obtain ⟨p1, p2, p3⟩ := E.2 k a (by omega)
  obtain ⟨q1, q2, q3⟩ := H.2.2 k a c
  exact ⟨p1.trans q1, p2.trans q2, p3.trans q3⟩
theorem isK_eq {h h1 : mH} {f o : Nat} {y : Int → Int} (E : cpY h1 f h o 8) (H : isK h o y) : isK h1 f y := by
  have w := (isK_w H).1
  refine ⟨H.1, E.1.trans H.2.1, fun k a c => ?_⟩
  obtain ⟨p1, p2, p3⟩ := E.2 k a (by omega)
  obtain ⟨q1, q2, q3⟩ := H.2.2 k a c
  exact ⟨p1.trans q1, p2.trans q2, p3.trans q3⟩
set_option maxHeartbeats 400000 in
theorem zp_X10_copyFrom {ad : mA} {dd : Nat} {h : mH} {Q : mQ} {y o : Nat}  (hk : yrk h y) (hk1 : yrk h o)   (pd : y + 4 ≤ o ∨ o + 4 ≤ y) (kq : ∀ h1, frm (fun a k => y ≤ a ∧ a < y + 4) h h1 → (cpY h1 y h o 40) → Q none h1) : mCal TB0 ad (dd + 1) M_X10_copyFrom [.ref y, .ref o] h 0 0 Q := by
  refine ⟨Nat.le_of_ble_eq_true rfl, ?_⟩
  show mEv TB0 ad M_X10_copyFrom (dd + 1) (0, 0) (mCal TB0 ad (dd + 0)) (fun v h' z => z.1 = 0 ∧ Q v h') 0 [some (.ref y), some (.ref o)] [] h (0, 0)
  have FR0 : frm (fun a k => y ≤ a ∧ a < y + 4) h h := frm_0 h
  refine e_aload_n dX10_copyFrom_0 rfl ?_
  refine e_get (.ref (o + 1)) dX10_copyFrom_1 tf_10_9 (congrArg Prod.fst (yr_s0 hk1)) (congrArg va_rf (yr_r0_0 hk1)) ?_
  refine z_iconst (0) dX10_copyFrom_4 rfl ?_
  refine e_aload_n dX10_copyFrom_5 rfl ?_
  refine e_get (.ref (y + 1)) dX10_copyFrom_6 tf_10_9 (congrArg Prod.fst (yr_s0 hk)) (congrArg va_rf (yr_r0_0 hk)) ?_
  refine z_iconst (0) dX10_copyFrom_9 rfl ?_
  refine z_bipush (40) dX10_copyFrom_10 rfl ?_
  refine z_cpy dX10_copyFrom_12 tm_10_25 (Nat.le_of_ble_eq_true rfl) (yr_s1 hk) (yr_s1 hk1) (by decide) (by decide) (by omega) (by omega) (by omega) (by omega) (by omega) (fun h1 f2 e3 => ?_)
  have k4 := lk_q (frm_s f2) hk
  have k5 := lk_q (frm_s f2) hk1
  have FR6 := frm_t FR0 (frm_m (S' := (fun a k => y ≤ a ∧ a < y + 4)) f2 (fun a k q => by omega))
  refine e_aload_n dX10_copyFrom_15 rfl ?_
  refine e_get (.ref (o + 2)) dX10_copyFrom_16 tf_10_15 (congrArg Prod.fst (yr_s0 k5)) (congrArg va_rf (yr_r0_1 k5)) ?_
  refine z_iconst (0) dX10_copyFrom_19 rfl ?_
  refine e_aload_n dX10_copyFrom_20 rfl ?_
  refine e_get (.ref (y + 2)) dX10_copyFrom_21 tf_10_15 (congrArg Prod.fst (yr_s0 k4)) (congrArg va_rf (yr_r0_1 k4)) ?_
  refine z_iconst (0) dX10_copyFrom_24 rfl ?_
  refine z_bipush (40) dX10_copyFrom_25 rfl ?_
  refine z_cpy dX10_copyFrom_27 tm_10_25 (Nat.le_of_ble_eq_true rfl) (yr_s2 k4) (yr_s2 k5) (by decide) (by decide) (by omega) (by omega) (by omega) (by omega) (by omega) (fun h7 f8 e9 => ?_)
  have k10 := lk_q (frm_s f8) k4
  have k11 := lk_q (frm_s f8) k5
  have FR12 := frm_t FR6 (frm_m (S' := (fun a k => y ≤ a ∧ a < y + 4)) f8 (fun a k q => by omega))
  refine e_aload_n dX10_copyFrom_30 rfl ?_
  refine e_get (.ref (o + 3)) dX10_copyFrom_31 tf_10_18 (congrArg Prod.fst (yr_s0 k11)) (congrArg va_rf (yr_r0_2 k11)) ?_
  refine z_iconst (0) dX10_copyFrom_34 rfl ?_
  refine e_aload_n dX10_copyFrom_35 rfl ?_
  refine e_get (.ref (y + 3)) dX10_copyFrom_36 tf_10_18 (congrArg Prod.fst (yr_s0 k10)) (congrArg va_rf (yr_r0_2 k10)) ?_
  refine z_iconst (0) dX10_copyFrom_39 rfl ?_
  refine z_bipush (40) dX10_copyFrom_40 rfl ?_
  refine z_cpy dX10_copyFrom_42 tm_10_25 (Nat.le_of_ble_eq_true rfl) (yr_s3 k10) (yr_s3 k11) (by decide) (by decide) (by omega) (by omega) (by omega) (by omega) (by omega) (fun h13 f14 e15 => ?_)
  have k16 := lk_q (frm_s f14) k10
  have k17 := lk_q (frm_s f14) k11
  have FR18 := frm_t FR12 (frm_m (S' := (fun a k => y ≤ a ∧ a < y + 4)) f14 (fun a k q => by omega))
  refine e_aload_n dX10_copyFrom_45 rfl ?_
  refine e_aload_n dX10_copyFrom_46 rfl ?_
  refine z_get (rI h o 3) dX10_copyFrom_47 tf_10_21 (congrArg Prod.fst (yr_s0 k17)) (Or.inl rfl) ((frm_r f14 (by omega)).trans ((frm_r f8 (by omega)).trans (frm_r f2 (by omega)))) ?_
  have y19 := rI_i h o 3
  refine z_put dX10_copyFrom_50 tf_10_21 (congrArg Prod.fst (yr_s0 k16)) rfl (Or.inl rfl) (fun h20 e21 => ?_)
  have f22 := frm_1 e21
  have k23 := lk_q (frm_s f22) k16
  have k24 := lk_q (frm_s f22) k17
  have FR25 := frm_t FR18 (frm_m (S' := (fun a k => y ≤ a ∧ a < y + 4)) f22 (fun a k q => by omega))
  refine e_vret dX10_copyFrom_53 rfl ⟨rfl, ?_⟩
  exact kq _ FR25 ⟨(rI_eq e21 ⟨by omega, by omega⟩), fun j a c => ⟨(((frm_r f22 (by omega)).trans ((frm_r f14 (by omega)).trans (frm_r f8 (by omega)))).trans (cpy6 e3 a c)), (((frm_r f22 (by omega)).trans (frm_r f14 (by omega))).trans ((cpy6 e9 a c).trans (frm_r f2 (by omega)))), ((frm_r f22 (by omega)).trans ((cpy6 e15 a c).trans ((frm_r f8 (by omega)).trans (frm_r f2 (by omega)))))⟩⟩
set_option maxHeartbeats 400000 in
theorem zp_X1_copyFrom {ad : mA} {dd : Nat} {h : mH} {Q : mQ} {y o : Nat}  (hk : cuk h y) (hk1 : cuk h o)   (pd : y + 4 ≤ o ∨ o + 4 ≤ y) (kq : ∀ h1, frm (fun a k => y ≤ a ∧ a < y + 4) h h1 → (cpY h1 y h o 8) → Q none h1) : mCal TB0 ad (dd + 1) M_X1_copyFrom [.ref y, .ref o] h 0 0 Q := by
  refine ⟨Nat.le_of_ble_eq_true rfl, ?_⟩
  show mEv TB0 ad M_X1_copyFrom (dd + 1) (0, 0) (mCal TB0 ad (dd + 0)) (fun v h' z => z.1 = 0 ∧ Q v h') 0 [some (.ref y), some (.ref o)] [] h (0, 0)
  have FR0 : frm (fun a k => y ≤ a ∧ a < y + 4) h h := frm_0 h
  refine e_aload_n dX1_copyFrom_0 rfl ?_
  refine e_get (.ref (o + 1)) dX1_copyFrom_1 tf_1_9 (congrArg Prod.fst (cu_s0 hk1)) (congrArg va_rf (cu_r0_0 hk1)) ?_
  refine z_iconst (0) dX1_copyFrom_4 rfl ?_
  refine e_aload_n dX1_copyFrom_5 rfl ?_
  refine e_get (.ref (y + 1)) dX1_copyFrom_6 tf_1_9 (congrArg Prod.fst (cu_s0 hk)) (congrArg va_rf (cu_r0_0 hk)) ?_
  refine z_iconst (0) dX1_copyFrom_9 rfl ?_
  refine z_bipush (8) dX1_copyFrom_10 rfl ?_
  refine z_cpy dX1_copyFrom_12 tm_1_76 (Nat.le_of_ble_eq_true rfl) (cu_s1 hk) (cu_s1 hk1) (by decide) (by decide) (by omega) (by omega) (by omega) (by omega) (by omega) (fun h1 f2 e3 => ?_)
  have k4 := lk_q (frm_s f2) hk
  have k5 := lk_q (frm_s f2) hk1
  have FR6 := frm_t FR0 (frm_m (S' := (fun a k => y ≤ a ∧ a < y + 4)) f2 (fun a k q => by omega))
  refine e_aload_n dX1_copyFrom_15 rfl ?_
  refine e_get (.ref (o + 2)) dX1_copyFrom_16 tf_1_15 (congrArg Prod.fst (cu_s0 k5)) (congrArg va_rf (cu_r0_1 k5)) ?_
  refine z_iconst (0) dX1_copyFrom_19 rfl ?_
  refine e_aload_n dX1_copyFrom_20 rfl ?_
  refine e_get (.ref (y + 2)) dX1_copyFrom_21 tf_1_15 (congrArg Prod.fst (cu_s0 k4)) (congrArg va_rf (cu_r0_1 k4)) ?_
  refine z_iconst (0) dX1_copyFrom_24 rfl ?_
  refine z_bipush (8) dX1_copyFrom_25 rfl ?_
  refine z_cpy dX1_copyFrom_27 tm_1_76 (Nat.le_of_ble_eq_true rfl) (cu_s2 k4) (cu_s2 k5) (by decide) (by decide) (by omega) (by omega) (by omega) (by omega) (by omega) (fun h7 f8 e9 => ?_)
  have k10 := lk_q (frm_s f8) k4
  have k11 := lk_q (frm_s f8) k5
  have FR12 := frm_t FR6 (frm_m (S' := (fun a k => y ≤ a ∧ a < y + 4)) f8 (fun a k q => by omega))
  refine e_aload_n dX1_copyFrom_30 rfl ?_
  refine e_get (.ref (o + 3)) dX1_copyFrom_31 tf_1_18 (congrArg Prod.fst (cu_s0 k11)) (congrArg va_rf (cu_r0_2 k11)) ?_
  refine z_iconst (0) dX1_copyFrom_34 rfl ?_
  refine e_aload_n dX1_copyFrom_35 rfl ?_
  refine e_get (.ref (y + 3)) dX1_copyFrom_36 tf_1_18 (congrArg Prod.fst (cu_s0 k10)) (congrArg va_rf (cu_r0_2 k10)) ?_
  refine z_iconst (0) dX1_copyFrom_39 rfl ?_
  refine z_bipush (8) dX1_copyFrom_40 rfl ?_
  refine z_cpy dX1_copyFrom_42 tm_1_76 (Nat.le_of_ble_eq_true rfl) (cu_s3 k10) (cu_s3 k11) (by decide) (by decide) (by omega) (by omega) (by omega) (by omega) (by omega) (fun h13 f14 e15 => ?_)
  have k16 := lk_q (frm_s f14) k10
  have k17 := lk_q (frm_s f14) k11
  have FR18 := frm_t FR12 (frm_m (S' := (fun a k => y ≤ a ∧ a < y + 4)) f14 (fun a k q => by omega))
  refine e_aload_n dX1_copyFrom_45 rfl ?_
  refine e_aload_n dX1_copyFrom_46 rfl ?_
  refine z_get (rI h o 3) dX1_copyFrom_47 tf_1_21 (congrArg Prod.fst (cu_s0 k17)) (Or.inl rfl) ((frm_r f14 (by omega)).trans ((frm_r f8 (by omega)).trans (frm_r f2 (by omega)))) ?_
  have y19 := rI_i h o 3
  refine z_put dX1_copyFrom_50 tf_1_21 (congrArg Prod.fst (cu_s0 k16)) rfl (Or.inl rfl) (fun h20 e21 => ?_)
  have f22 := frm_1 e21
  have k23 := lk_q (frm_s f22) k16
  have k24 := lk_q (frm_s f22) k17
  have FR25 := frm_t FR18 (frm_m (S' := (fun a k => y ≤ a ∧ a < y + 4)) f22 (fun a k q => by omega))
  refine e_vret dX1_copyFrom_53 rfl ⟨rfl, ?_⟩
  exact kq _ FR25 ⟨(rI_eq e21 ⟨by omega, by omega⟩), fun j a c => ⟨(((frm_r f22 (by omega)).trans ((frm_r f14 (by omega)).trans (frm_r f8 (by omega)))).trans (cpy6 e3 a c)), (((frm_r f22 (by omega)).trans (frm_r f14 (by omega))).trans ((cpy6 e9 a c).trans (frm_r f2 (by omega)))), ((frm_r f22 (by omega)).trans ((cpy6 e15 a c).trans ((frm_r f8 (by omega)).trans (frm_r f2 (by omega)))))⟩⟩
set_option maxHeartbeats 4000000 in
theorem zp_X8_copyFrom {ad : mA} {dd : Nat} {h : mH} {Q : mQ} {t o : Nat} {σ : Sg} (hk : tdk h t) (hk1 : tdk h o) (HO : clsT h o σ)   (pd : t + 54 ≤ o ∨ o + 54 ≤ t) (kq : ∀ h1, frm (fun a k => t ≤ a ∧ a < t + 54) h h1 → (clsT h1 t σ) → Q none h1) : mCal TB0 ad (dd + 3) M_X8_copyFrom [.ref t, .ref o] h 0 0 Q := by
  refine ⟨Nat.le_of_ble_eq_true rfl, ?_⟩
  show mEv TB0 ad M_X8_copyFrom (dd + 3) (0, 0) (mCal TB0 ad (dd + 2)) (fun v h' z => z.1 = 0 ∧ Q v h') 0 [some (.ref t), some (.ref o), none] [] h (0, 0)
  have FR0 : frm (fun a k => t ≤ a ∧ a < t + 54) h h := frm_0 h
  have w0 := wS_n HO.1
  refine e_aload_n dX8_copyFrom_0 rfl ?_
  refine e_get (.ref (o + 1)) dX8_copyFrom_1 tf_8_9 (congrArg Prod.fst (td_s0 hk1)) (congrArg va_rf (td_r0_0 hk1)) ?_
  refine z_iconst (0) dX8_copyFrom_4 rfl ?_
  refine e_aload_n dX8_copyFrom_5 rfl ?_
  refine e_get (.ref (t + 1)) dX8_copyFrom_6 tf_8_9 (congrArg Prod.fst (td_s0 hk)) (congrArg va_rf (td_r0_0 hk)) ?_
  refine z_iconst (0) dX8_copyFrom_9 rfl ?_
  refine z_sipush (600) dX8_copyFrom_10 rfl ?_
  refine z_cpyB dX8_copyFrom_13 tm_8_79 (Nat.le_of_ble_eq_true rfl) (td_s1 hk) (td_s1 hk1) (by decide) (by decide) (by omega) (by omega) (by omega) (by omega) (by omega) (fun j a c => by rw [clsT_t HO (by omega) (by omega)]; exact wS_t (clsT_w HO) (by omega) (by omega)) (fun h1 f2 e3 => ?_)
  have k4 := lk_q (frm_s f2) hk
  have k5 := lk_q (frm_s f2) hk1
  have H6 := clsT_c f2 (fun a k q1 q2 => by omega) HO
  have FR7 := frm_t FR0 (frm_m (S' := (fun a k => t ≤ a ∧ a < t + 54)) f2 (fun a k q => by omega))
  refine e_aload_n dX8_copyFrom_16 rfl ?_
  refine e_get (.ref (o + 5)) dX8_copyFrom_17 tf_8_33 (congrArg Prod.fst (td_s0 k5)) (congrArg va_rf (td_r0_4 k5)) ?_
  refine z_iconst (0) dX8_copyFrom_20 rfl ?_
  refine e_aload_n dX8_copyFrom_21 rfl ?_
  refine e_get (.ref (t + 5)) dX8_copyFrom_22 tf_8_33 (congrArg Prod.fst (td_s0 k4)) (congrArg va_rf (td_r0_4 k4)) ?_
  refine z_iconst (0) dX8_copyFrom_25 rfl ?_
  refine z_iconst (3) dX8_copyFrom_26 rfl ?_
  refine z_cpy dX8_copyFrom_27 tm_8_79 (Nat.le_of_ble_eq_true rfl) (td_s5 k4) (td_s5 k5) (by decide) (by decide) (by omega) (by omega) (by omega) (by omega) (by omega) (fun h8 f9 e10 => ?_)
  have k11 := lk_q (frm_s f9) k4
  have k12 := lk_q (frm_s f9) k5
  have H13 := clsT_c f9 (fun a k q1 q2 => by omega) H6
  have FR14 := frm_t FR7 (frm_m (S' := (fun a k => t ≤ a ∧ a < t + 54)) f9 (fun a k q => by omega))
  refine z_iconst (0) dX8_copyFrom_30 rfl ?_
  refine e_istore_n (L' := [_, _, _]) dX8_copyFrom_31 (Nat.le_of_ble_eq_true rfl) rfl ?_
  refine e_iload_n dX8_copyFrom_32 rfl ?_
  refine z_iconst (2) dX8_copyFrom_33 rfl ?_
  refine z_icmp_ge 88 dX8_copyFrom_34 rfl ⟨by omega, by omega⟩ ⟨by omega, by omega⟩ (fun c15 => ?_) (fun c15 => ?_)
  · exfalso; omega
  · skip
    refine e_aload_n dX8_copyFrom_37 rfl ?_
    refine e_get (.ref (t + 2)) dX8_copyFrom_38 tf_8_17 (congrArg Prod.fst (td_s0 k11)) (congrArg va_rf (td_r0_1 k11)) ?_
    refine e_iload_n dX8_copyFrom_41 rfl ?_
    refine z_ald (.ref (t + 6)) dX8_copyFrom_42 (td_s2 k11) (by decide) (by decide) (by decide) (by omega) (by omega) (congrArg va_rf (td_r2_0 k11)) ?_
    refine e_aload_n dX8_copyFrom_43 rfl ?_
    refine e_get (.ref (o + 2)) dX8_copyFrom_44 tf_8_17 (congrArg Prod.fst (td_s0 k12)) (congrArg va_rf (td_r0_1 k12)) ?_
    refine e_iload_n dX8_copyFrom_47 rfl ?_
    refine z_ald (.ref (o + 6)) dX8_copyFrom_48 (td_s2 k12) (by decide) (by decide) (by decide) (by omega) (by omega) (congrArg va_rf (td_r2_0 k12)) ?_
    skip
    refine e_callV [.ref _] dX8_copyFrom_49 tm_8_56 rfl (Nat.le_of_ble_eq_true rfl) (congrArg Prod.fst (td_s6 k11)) (Nat.le_of_ble_eq_true rfl) (Nat.le_refl _) (Nat.le_refl _) rfl (zp_X2_copyFrom (td_fg6 k11) (td_fg6 k12) (by omega) (fun  h16 f17 p18 => ?_))
    have k19 := lk_q (frm_s f17) k11
    have k20 := lk_q (frm_s f17) k12
    have H21 := clsT_c f17 (fun a k q1 q2 => by omega) H13
    have FR22 := frm_t FR14 (frm_m (S' := (fun a k => t ≤ a ∧ a < t + 54)) f17 (fun a k q => by omega))
    have C23 : cpF h16 (t + 6) h8 (o + 6) := p18
    refine e_aload_n dX8_copyFrom_52 rfl ?_
    refine e_get (.ref (t + 3)) dX8_copyFrom_53 tf_8_23 (congrArg Prod.fst (td_s0 k19)) (congrArg va_rf (td_r0_2 k19)) ?_
    refine e_iload_n dX8_copyFrom_56 rfl ?_
    refine z_ald (.ref (t + 22)) dX8_copyFrom_57 (td_s3 k19) (by decide) (by decide) (by decide) (by omega) (by omega) (congrArg va_rf (td_r3_0 k19)) ?_
    refine e_aload_n dX8_copyFrom_58 rfl ?_
    refine e_get (.ref (o + 3)) dX8_copyFrom_59 tf_8_23 (congrArg Prod.fst (td_s0 k20)) (congrArg va_rf (td_r0_2 k20)) ?_
    refine e_iload_n dX8_copyFrom_62 rfl ?_
    refine z_ald (.ref (o + 22)) dX8_copyFrom_63 (td_s3 k20) (by decide) (by decide) (by decide) (by omega) (by omega) (congrArg va_rf (td_r3_0 k20)) ?_
    skip
    refine e_callV [.ref _] dX8_copyFrom_64 tm_8_64 rfl (Nat.le_of_ble_eq_true rfl) (congrArg Prod.fst (td_s22 k19)) (Nat.le_of_ble_eq_true rfl) (Nat.le_refl _) (Nat.le_refl _) rfl (zp_X10_copyFrom (td_yr22 k19) (td_yr22 k20) (by omega) (fun  h24 f25 p26 => ?_))
    have k27 := lk_q (frm_s f25) k19
    have k28 := lk_q (frm_s f25) k20
    have H29 := clsT_c f25 (fun a k q1 q2 => by omega) H21
    have H30 := cpF_c f25 (fun a k q1 q2 => by omega) C23
    have FR31 := frm_t FR22 (frm_m (S' := (fun a k => t ≤ a ∧ a < t + 54)) f25 (fun a k q => by omega))
    have C32 : cpY h24 (t + 22) h16 (o + 22) 40 := p26
    refine e_aload_n dX8_copyFrom_67 rfl ?_
    refine e_get (.ref (t + 4)) dX8_copyFrom_68 tf_8_29 (congrArg Prod.fst (td_s0 k27)) (congrArg va_rf (td_r0_3 k27)) ?_
    refine e_iload_n dX8_copyFrom_71 rfl ?_
    refine z_ald (.ref (t + 26)) dX8_copyFrom_72 (td_s4 k27) (by decide) (by decide) (by decide) (by omega) (by omega) (congrArg va_rf (td_r4_0 k27)) ?_
    refine e_aload_n dX8_copyFrom_73 rfl ?_
    refine e_get (.ref (o + 4)) dX8_copyFrom_74 tf_8_29 (congrArg Prod.fst (td_s0 k28)) (congrArg va_rf (td_r0_3 k28)) ?_
    refine e_iload_n dX8_copyFrom_77 rfl ?_
    refine z_ald (.ref (o + 26)) dX8_copyFrom_78 (td_s4 k28) (by decide) (by decide) (by decide) (by omega) (by omega) (congrArg va_rf (td_r4_0 k28)) ?_
    skip
    refine e_callV [.ref _] dX8_copyFrom_79 tm_8_70 rfl (Nat.le_of_ble_eq_true rfl) (congrArg Prod.fst (td_s26 k27)) (Nat.le_of_ble_eq_true rfl) (Nat.le_refl _) (Nat.le_refl _) rfl (zp_X1_copyFrom (td_cu26 k27) (td_cu26 k28) (by omega) (fun  h33 f34 p35 => ?_))
    have k36 := lk_q (frm_s f34) k27
    have k37 := lk_q (frm_s f34) k28
    have H38 := clsT_c f34 (fun a k q1 q2 => by omega) H29
    have H39 := cpF_c f34 (fun a k q1 q2 => by omega) H30
    have H40 := cpY_c f34 (fun a k q1 q2 => by omega) C32
    have FR41 := frm_t FR31 (frm_m (S' := (fun a k => t ≤ a ∧ a < t + 54)) f34 (fun a k q => by omega))
    have C42 : cpY h33 (t + 26) h24 (o + 26) 8 := p35
    refine z_iinc (L' := [_, _, _]) dX8_copyFrom_82 rfl rfl ?_
    refine e_goto 32 dX8_copyFrom_85 rfl ?_
    refine e_iload_n dX8_copyFrom_32 rfl ?_
    refine z_iconst (2) dX8_copyFrom_33 rfl ?_
    refine z_icmp_ge 88 dX8_copyFrom_34 rfl ⟨by omega, by omega⟩ ⟨by omega, by omega⟩ (fun c43 => ?_) (fun c43 => ?_)
    · exfalso; omega
    · skip
      refine e_aload_n dX8_copyFrom_37 rfl ?_
      refine e_get (.ref (t + 2)) dX8_copyFrom_38 tf_8_17 (congrArg Prod.fst (td_s0 k36)) (congrArg va_rf (td_r0_1 k36)) ?_
      refine e_iload_n dX8_copyFrom_41 rfl ?_
      refine z_ald (.ref (t + 30)) dX8_copyFrom_42 (td_s2 k36) (by decide) (by decide) (by decide) (by omega) (by omega) (congrArg va_rf (td_r2_1 k36)) ?_
      refine e_aload_n dX8_copyFrom_43 rfl ?_
      refine e_get (.ref (o + 2)) dX8_copyFrom_44 tf_8_17 (congrArg Prod.fst (td_s0 k37)) (congrArg va_rf (td_r0_1 k37)) ?_
      refine e_iload_n dX8_copyFrom_47 rfl ?_
      refine z_ald (.ref (o + 30)) dX8_copyFrom_48 (td_s2 k37) (by decide) (by decide) (by decide) (by omega) (by omega) (congrArg va_rf (td_r2_1 k37)) ?_
      skip
      refine e_callV [.ref _] dX8_copyFrom_49 tm_8_56 rfl (Nat.le_of_ble_eq_true rfl) (congrArg Prod.fst (td_s30 k36)) (Nat.le_of_ble_eq_true rfl) (Nat.le_refl _) (Nat.le_refl _) rfl (zp_X2_copyFrom (td_fg30 k36) (td_fg30 k37) (by omega) (fun  h44 f45 p46 => ?_))
      have k47 := lk_q (frm_s f45) k36
      have k48 := lk_q (frm_s f45) k37
      have H49 := clsT_c f45 (fun a k q1 q2 => by omega) H38
      have H50 := cpF_c f45 (fun a k q1 q2 => by omega) H39
      have H51 := cpY_c f45 (fun a k q1 q2 => by omega) H40
      have H52 := cpY_c f45 (fun a k q1 q2 => by omega) C42
      have FR53 := frm_t FR41 (frm_m (S' := (fun a k => t ≤ a ∧ a < t + 54)) f45 (fun a k q => by omega))
      have C54 : cpF h44 (t + 30) h33 (o + 30) := p46
      refine e_aload_n dX8_copyFrom_52 rfl ?_
      refine e_get (.ref (t + 3)) dX8_copyFrom_53 tf_8_23 (congrArg Prod.fst (td_s0 k47)) (congrArg va_rf (td_r0_2 k47)) ?_
      refine e_iload_n dX8_copyFrom_56 rfl ?_
      refine z_ald (.ref (t + 46)) dX8_copyFrom_57 (td_s3 k47) (by decide) (by decide) (by decide) (by omega) (by omega) (congrArg va_rf (td_r3_1 k47)) ?_
      refine e_aload_n dX8_copyFrom_58 rfl ?_
      refine e_get (.ref (o + 3)) dX8_copyFrom_59 tf_8_23 (congrArg Prod.fst (td_s0 k48)) (congrArg va_rf (td_r0_2 k48)) ?_
      refine e_iload_n dX8_copyFrom_62 rfl ?_
      refine z_ald (.ref (o + 46)) dX8_copyFrom_63 (td_s3 k48) (by decide) (by decide) (by decide) (by omega) (by omega) (congrArg va_rf (td_r3_1 k48)) ?_
      skip
      refine e_callV [.ref _] dX8_copyFrom_64 tm_8_64 rfl (Nat.le_of_ble_eq_true rfl) (congrArg Prod.fst (td_s46 k47)) (Nat.le_of_ble_eq_true rfl) (Nat.le_refl _) (Nat.le_refl _) rfl (zp_X10_copyFrom (td_yr46 k47) (td_yr46 k48) (by omega) (fun  h55 f56 p57 => ?_))
      have k58 := lk_q (frm_s f56) k47
      have k59 := lk_q (frm_s f56) k48
      have H60 := clsT_c f56 (fun a k q1 q2 => by omega) H49
      have H61 := cpF_c f56 (fun a k q1 q2 => by omega) H50
      have H62 := cpY_c f56 (fun a k q1 q2 => by omega) H51
      have H63 := cpY_c f56 (fun a k q1 q2 => by omega) H52
      have H64 := cpF_c f56 (fun a k q1 q2 => by omega) C54
      have FR65 := frm_t FR53 (frm_m (S' := (fun a k => t ≤ a ∧ a < t + 54)) f56 (fun a k q => by omega))
      have C66 : cpY h55 (t + 46) h44 (o + 46) 40 := p57
      refine e_aload_n dX8_copyFrom_67 rfl ?_
      refine e_get (.ref (t + 4)) dX8_copyFrom_68 tf_8_29 (congrArg Prod.fst (td_s0 k58)) (congrArg va_rf (td_r0_3 k58)) ?_
      refine e_iload_n dX8_copyFrom_71 rfl ?_
      refine z_ald (.ref (t + 50)) dX8_copyFrom_72 (td_s4 k58) (by decide) (by decide) (by decide) (by omega) (by omega) (congrArg va_rf (td_r4_1 k58)) ?_
      refine e_aload_n dX8_copyFrom_73 rfl ?_
      refine e_get (.ref (o + 4)) dX8_copyFrom_74 tf_8_29 (congrArg Prod.fst (td_s0 k59)) (congrArg va_rf (td_r0_3 k59)) ?_
      refine e_iload_n dX8_copyFrom_77 rfl ?_
      refine z_ald (.ref (o + 50)) dX8_copyFrom_78 (td_s4 k59) (by decide) (by decide) (by decide) (by omega) (by omega) (congrArg va_rf (td_r4_1 k59)) ?_
      skip
      refine e_callV [.ref _] dX8_copyFrom_79 tm_8_70 rfl (Nat.le_of_ble_eq_true rfl) (congrArg Prod.fst (td_s50 k58)) (Nat.le_of_ble_eq_true rfl) (Nat.le_refl _) (Nat.le_refl _) rfl (zp_X1_copyFrom (td_cu50 k58) (td_cu50 k59) (by omega) (fun  h67 f68 p69 => ?_))
      have k70 := lk_q (frm_s f68) k58
      have k71 := lk_q (frm_s f68) k59
      have H72 := clsT_c f68 (fun a k q1 q2 => by omega) H60
      have H73 := cpF_c f68 (fun a k q1 q2 => by omega) H61
      have H74 := cpY_c f68 (fun a k q1 q2 => by omega) H62
      have H75 := cpY_c f68 (fun a k q1 q2 => by omega) H63
      have H76 := cpF_c f68 (fun a k q1 q2 => by omega) H64
      have H77 := cpY_c f68 (fun a k q1 q2 => by omega) C66
      have FR78 := frm_t FR65 (frm_m (S' := (fun a k => t ≤ a ∧ a < t + 54)) f68 (fun a k q => by omega))
      have C79 : cpY h67 (t + 50) h55 (o + 50) 8 := p69
      refine z_iinc (L' := [_, _, _]) dX8_copyFrom_82 rfl rfl ?_
      refine e_goto 32 dX8_copyFrom_85 rfl ?_
      refine e_iload_n dX8_copyFrom_32 rfl ?_
      refine z_iconst (2) dX8_copyFrom_33 rfl ?_
      refine z_icmp_ge 88 dX8_copyFrom_34 rfl ⟨by omega, by omega⟩ ⟨by omega, by omega⟩ (fun c80 => ?_) (fun c80 => ?_)
      · skip
        refine e_aload_n dX8_copyFrom_88 rfl ?_
        refine e_aload_n dX8_copyFrom_89 rfl ?_
        refine z_get (cn σ 3) dX8_copyFrom_90 tf_8_37 (congrArg Prod.fst (td_s0 k71)) (Or.inl rfl) (clsT_3 H72) ?_
        have y81 := wS_n (clsT_w H72)
        refine z_put dX8_copyFrom_93 tf_8_37 (congrArg Prod.fst (td_s0 k70)) rfl (Or.inl rfl) (fun h82 e83 => ?_)
        have f84 := frm_1 e83
        have k85 := lk_q (frm_s f84) k70
        have k86 := lk_q (frm_s f84) k71
        have H87 := clsT_c f84 (fun a k q1 q2 => by omega) H72
        have H88 := cpF_c f84 (fun a k q1 q2 => by omega) H73
        have H89 := cpY_c f84 (fun a k q1 q2 => by omega) H74
        have H90 := cpY_c f84 (fun a k q1 q2 => by omega) H75
        have H91 := cpF_c f84 (fun a k q1 q2 => by omega) H76
        have H92 := cpY_c f84 (fun a k q1 q2 => by omega) H77
        have H93 := cpY_c f84 (fun a k q1 q2 => by omega) C79
        have FR94 := frm_t FR78 (frm_m (S' := (fun a k => t ≤ a ∧ a < t + 54)) f84 (fun a k q => by omega))
        refine e_aload_n dX8_copyFrom_96 rfl ?_
        refine e_aload_n dX8_copyFrom_97 rfl ?_
        refine z_get (cn σ 4) dX8_copyFrom_98 tf_8_41 (congrArg Prod.fst (td_s0 k86)) (Or.inl rfl) (clsT_4 H87) ?_
        have y95 := wS_n (clsT_w H87)
        refine z_put dX8_copyFrom_101 tf_8_41 (congrArg Prod.fst (td_s0 k85)) rfl (Or.inl rfl) (fun h96 e97 => ?_)
        have f98 := frm_1 e97
        have k99 := lk_q (frm_s f98) k85
        have k100 := lk_q (frm_s f98) k86
        have H101 := clsT_c f98 (fun a k q1 q2 => by omega) H87
        have H102 := cpF_c f98 (fun a k q1 q2 => by omega) H88
        have H103 := cpY_c f98 (fun a k q1 q2 => by omega) H89
        have H104 := cpY_c f98 (fun a k q1 q2 => by omega) H90
        have H105 := cpF_c f98 (fun a k q1 q2 => by omega) H91
        have H106 := cpY_c f98 (fun a k q1 q2 => by omega) H92
        have H107 := cpY_c f98 (fun a k q1 q2 => by omega) H93
        have FR108 := frm_t FR94 (frm_m (S' := (fun a k => t ≤ a ∧ a < t + 54)) f98 (fun a k q => by omega))
        refine e_aload_n dX8_copyFrom_104 rfl ?_
        refine e_aload_n dX8_copyFrom_105 rfl ?_
        refine z_get (cn σ 5) dX8_copyFrom_106 tf_8_44 (congrArg Prod.fst (td_s0 k100)) (Or.inl rfl) (clsT_5 H101) ?_
        have y109 := wS_n (clsT_w H101)
        refine z_put dX8_copyFrom_109 tf_8_44 (congrArg Prod.fst (td_s0 k99)) rfl (Or.inl rfl) (fun h110 e111 => ?_)
        have f112 := frm_1 e111
        have k113 := lk_q (frm_s f112) k99
        have k114 := lk_q (frm_s f112) k100
        have H115 := clsT_c f112 (fun a k q1 q2 => by omega) H101
        have H116 := cpF_c f112 (fun a k q1 q2 => by omega) H102
        have H117 := cpY_c f112 (fun a k q1 q2 => by omega) H103
        have H118 := cpY_c f112 (fun a k q1 q2 => by omega) H104
        have H119 := cpF_c f112 (fun a k q1 q2 => by omega) H105
        have H120 := cpY_c f112 (fun a k q1 q2 => by omega) H106
        have H121 := cpY_c f112 (fun a k q1 q2 => by omega) H107
        have FR122 := frm_t FR108 (frm_m (S' := (fun a k => t ≤ a ∧ a < t + 54)) f112 (fun a k q => by omega))
        refine e_vret dX8_copyFrom_112 rfl ⟨rfl, ?_⟩
        exact kq _ FR122 ⟨HO.1, fun i a c => (((frm_r f112 (by omega)).trans ((frm_r f98 (by omega)).trans ((frm_r f84 (by omega)).trans ((frm_r f68 (by omega)).trans ((frm_r f56 (by omega)).trans ((frm_r f45 (by omega)).trans ((frm_r f34 (by omega)).trans ((frm_r f25 (by omega)).trans ((frm_r f17 (by omega)).trans (frm_r f9 (by omega)))))))))))).trans ((cpy6 e3 a c).trans (clsT_t HO a c)), fun i a c => (((frm_r f112 (by omega)).trans ((frm_r f98 (by omega)).trans ((frm_r f84 (by omega)).trans ((frm_r f68 (by omega)).trans ((frm_r f56 (by omega)).trans ((frm_r f45 (by omega)).trans ((frm_r f34 (by omega)).trans ((frm_r f25 (by omega)).trans (frm_r f17 (by omega))))))))))).trans ((cpy6 e10 a c).trans (((frm_r f2 (by omega))).trans (clsT_cn HO a c))), ⟨(show rI h110 t 5 = (cn σ 3) from (((frm_r f112 (by omega)).trans (frm_r f98 (by omega))).trans (rI_eq e83 ⟨by omega, by omega⟩))), (show rI h110 t 6 = (cn σ 4) from ((frm_r f112 (by omega)).trans (rI_eq e97 ⟨by omega, by omega⟩))), (show rI h110 t 7 = (cn σ 5) from (rI_eq e111 ⟨by omega, by omega⟩))⟩, fun k a c => by
            have w1 := wS_n HO.1
            rcases (show k = 0 ∨ k = 1 by omega) with q | q <;> subst q
            · exact isF_eq H116 (clsT_F H13 (k := 0) (by omega) c)
            · exact isF_eq H119 (clsT_F H38 (k := 1) (by omega) c), fun k a c => by
            have w1 := wS_n HO.1
            rcases (show k = 0 ∨ k = 1 by omega) with q | q <;> subst q
            · exact isY_eq H117 (clsT_Y H21 (k := 0) (by omega) c)
            · exact isY_eq H120 (clsT_Y H49 (k := 1) (by omega) c), fun k a c => by
            have w1 := wS_n HO.1
            rcases (show k = 0 ∨ k = 1 by omega) with q | q <;> subst q
            · exact isK_eq H118 (clsT_K H29 (k := 0) (by omega) c)
            · exact isK_eq H121 (clsT_K H60 (k := 1) (by omega) c)⟩
      · exfalso; omega
set_option maxHeartbeats 400000 in
theorem zp_X12_copyRow_1 {ad : mA} {dd : Nat} {h : mH} {Q : mQ} {p : Nat} {N : Nat} (hk : mS h p = (14, N))  (fr : Int) (fr_r : -2147483648 ≤ fr ∧ fr < 2147483648) (to : Int) (to_r : -2147483648 ≤ to ∧ to < 2147483648) (pN : 1 * fr + 1 ≤ N ∧ 1 * to + 1 ≤ N ∧ N ≤ 5000) (pf : 0 ≤ fr ∧ 0 ≤ to ∧ fr ≠ to) (kq : ∀ h1, frm (fun a k => a = p ∧ 1 * to ≤ (k : Int) ∧ (k : Int) < 1 * to + 1) h h1 → (∀ j : Int, 0 ≤ j → j < 1 → rI h1 p (1 * to + j) = rI h p (1 * fr + j)) → Q none h1) : mCal TB0 ad (dd + 1) M_X12_copyRow [.ref p, .int (zI 1), .int (zI fr), .int (zI to)] h 0 0 Q := by
  refine ⟨Nat.le_of_ble_eq_true rfl, ?_⟩
  show mEv TB0 ad M_X12_copyRow (dd + 1) (0, 0) (mCal TB0 ad (dd + 0)) (fun v h' z => z.1 = 0 ∧ Q v h') 0 [some (.ref p), some (.int (zI 1)), some (.int (zI fr)), some (.int (zI to)), none] [] h (0, 0)
  have FR0 : frm (fun a k => a = p ∧ 1 * to ≤ (k : Int) ∧ (k : Int) < 1 * to + 1) h h := frm_0 h
  refine z_iconst (0) dX12_copyRow_0 rfl ?_
  refine e_istore (L' := [_, _, _, _, _]) dX12_copyRow_1 (Nat.le_of_ble_eq_true rfl) rfl ?_
  have lp1 : ∀ (n1 : Nat) (i : Int) (h1 : mH), (1 - i).toNat = n1 → (mS h1 p = (14, N)) → (frm (fun a k => a = p ∧ 1 * to ≤ (k : Int) ∧ (k : Int) < 1 * to + 1) h h1) → (0 ≤ i ∧ i ≤ 1) → (∀ j : Int, 0 ≤ j → j < i → rI h1 p (1 * to + j) = rI h p (1 * fr + j)) → (∀ j : Int, 0 ≤ j → j < 1 → rI h1 p (1 * fr + j) = rI h p (1 * fr + j)) → mEv TB0 ad M_X12_copyRow (dd + 1) (0, 0) (mCal TB0 ad (dd + 0)) (fun v h' z => z.1 = 0 ∧ Q v h') 3 [some (.ref p), some (.int (zI 1)), some (.int (zI fr)), some (.int (zI to)), some (.int (zI i))] [] h1 (0, 0) := by
    intro n1
    induction n1 using Nat.strongRecOn with
    | ind n1 ih1 =>
    intro i h1 hn1 k2 FR3 I1 E1 E2
    refine e_iload dX12_copyRow_3 rfl ?_
    refine e_iload_n dX12_copyRow_5 rfl ?_
    refine z_icmp_ge 31 dX12_copyRow_6 rfl ⟨by omega, by omega⟩ ⟨by omega, by omega⟩ (fun c4 => ?_) (fun c4 => ?_)
    · skip
      refine e_vret dX12_copyRow_31 rfl ⟨rfl, ?_⟩
      exact kq _ FR3 (fun j a c => E1 j a (by omega))
    · skip
      refine e_aload_n dX12_copyRow_9 rfl ?_
      refine e_iload_n dX12_copyRow_10 rfl ?_
      refine e_iload_n dX12_copyRow_11 rfl ?_
      refine z_imul dX12_copyRow_12 ?_
      refine e_iload dX12_copyRow_13 rfl ?_
      refine z_iadd dX12_copyRow_15 ?_
      refine e_aload_n dX12_copyRow_16 rfl ?_
      refine e_iload_n dX12_copyRow_17 rfl ?_
      refine e_iload_n dX12_copyRow_18 rfl ?_
      refine z_imul dX12_copyRow_19 ?_
      refine e_iload dX12_copyRow_20 rfl ?_
      refine z_iadd dX12_copyRow_22 ?_
      refine z_ild (rI h p (1 * fr + i)) dX12_copyRow_23 k2 (by omega) (by omega) (by omega) (E2 i (by omega) (by omega)) ?_
      have y5 := rI_i h p (1 * fr + i)
      refine z_ist dX12_copyRow_24 k2 (by omega) (by omega) (by omega) (fun h6 e7 => ?_)
      have f8 := frm_1 e7
      have k9 := cgS (frm_s f8) k2
      have FR10 := frm_t FR3 (frm_m (S' := (fun a k => a = p ∧ 1 * to ≤ (k : Int) ∧ (k : Int) < 1 * to + 1)) f8 (fun a k q => by omega))
      refine z_iinc (L' := [_, _, _, _, _]) dX12_copyRow_25 rfl rfl ?_
      refine e_goto 3 dX12_copyRow_28 rfl ?_
      exact ih1 _ (by omega) (i + 1) h6 rfl k9 FR10 (by omega) (fun j a c => by
                by_cases z : j = i
                · rw [z]; exact (rI_eq e7 ⟨by omega, by omega⟩)
                · exact ((frm_r f8 (by omega))).trans (E1 j a (by omega))) (fun j a c => ((frm_r f8 (by omega))).trans (E2 j a c))
  exact lp1 _ 0 h rfl hk FR0 (by omega) (fun j a c => by omega) (fun j a c => rfl)
set_option maxHeartbeats 400000 in
theorem zp_X12_copyRow_3 {ad : mA} {dd : Nat} {h : mH} {Q : mQ} {p : Nat} {N : Nat} (hk : mS h p = (14, N))  (fr : Int) (fr_r : -2147483648 ≤ fr ∧ fr < 2147483648) (to : Int) (to_r : -2147483648 ≤ to ∧ to < 2147483648) (pN : 3 * fr + 3 ≤ N ∧ 3 * to + 3 ≤ N ∧ N ≤ 5000) (pf : 0 ≤ fr ∧ 0 ≤ to ∧ fr ≠ to) (kq : ∀ h1, frm (fun a k => a = p ∧ 3 * to ≤ (k : Int) ∧ (k : Int) < 3 * to + 3) h h1 → (∀ j : Int, 0 ≤ j → j < 3 → rI h1 p (3 * to + j) = rI h p (3 * fr + j)) → Q none h1) : mCal TB0 ad (dd + 1) M_X12_copyRow [.ref p, .int (zI 3), .int (zI fr), .int (zI to)] h 0 0 Q := by
  refine ⟨Nat.le_of_ble_eq_true rfl, ?_⟩
  show mEv TB0 ad M_X12_copyRow (dd + 1) (0, 0) (mCal TB0 ad (dd + 0)) (fun v h' z => z.1 = 0 ∧ Q v h') 0 [some (.ref p), some (.int (zI 3)), some (.int (zI fr)), some (.int (zI to)), none] [] h (0, 0)
  have FR0 : frm (fun a k => a = p ∧ 3 * to ≤ (k : Int) ∧ (k : Int) < 3 * to + 3) h h := frm_0 h
  refine z_iconst (0) dX12_copyRow_0 rfl ?_
  refine e_istore (L' := [_, _, _, _, _]) dX12_copyRow_1 (Nat.le_of_ble_eq_true rfl) rfl ?_
  have lp1 : ∀ (n1 : Nat) (i : Int) (h1 : mH), (3 - i).toNat = n1 → (mS h1 p = (14, N)) → (frm (fun a k => a = p ∧ 3 * to ≤ (k : Int) ∧ (k : Int) < 3 * to + 3) h h1) → (0 ≤ i ∧ i ≤ 3) → (∀ j : Int, 0 ≤ j → j < i → rI h1 p (3 * to + j) = rI h p (3 * fr + j)) → (∀ j : Int, 0 ≤ j → j < 3 → rI h1 p (3 * fr + j) = rI h p (3 * fr + j)) → mEv TB0 ad M_X12_copyRow (dd + 1) (0, 0) (mCal TB0 ad (dd + 0)) (fun v h' z => z.1 = 0 ∧ Q v h') 3 [some (.ref p), some (.int (zI 3)), some (.int (zI fr)), some (.int (zI to)), some (.int (zI i))] [] h1 (0, 0) := by
    intro n1
    induction n1 using Nat.strongRecOn with
    | ind n1 ih1 =>
    intro i h1 hn1 k2 FR3 I1 E1 E2
    refine e_iload dX12_copyRow_3 rfl ?_
    refine e_iload_n dX12_copyRow_5 rfl ?_
    refine z_icmp_ge 31 dX12_copyRow_6 rfl ⟨by omega, by omega⟩ ⟨by omega, by omega⟩ (fun c4 => ?_) (fun c4 => ?_)
    · skip
      refine e_vret dX12_copyRow_31 rfl ⟨rfl, ?_⟩
      exact kq _ FR3 (fun j a c => E1 j a (by omega))
    · skip
      refine e_aload_n dX12_copyRow_9 rfl ?_
      refine e_iload_n dX12_copyRow_10 rfl ?_
      refine e_iload_n dX12_copyRow_11 rfl ?_
      refine z_imul dX12_copyRow_12 ?_
      refine e_iload dX12_copyRow_13 rfl ?_
      refine z_iadd dX12_copyRow_15 ?_
      refine e_aload_n dX12_copyRow_16 rfl ?_
      refine e_iload_n dX12_copyRow_17 rfl ?_
      refine e_iload_n dX12_copyRow_18 rfl ?_
      refine z_imul dX12_copyRow_19 ?_
      refine e_iload dX12_copyRow_20 rfl ?_
      refine z_iadd dX12_copyRow_22 ?_
      refine z_ild (rI h p (3 * fr + i)) dX12_copyRow_23 k2 (by omega) (by omega) (by omega) (E2 i (by omega) (by omega)) ?_
      have y5 := rI_i h p (3 * fr + i)
      refine z_ist dX12_copyRow_24 k2 (by omega) (by omega) (by omega) (fun h6 e7 => ?_)
      have f8 := frm_1 e7
      have k9 := cgS (frm_s f8) k2
      have FR10 := frm_t FR3 (frm_m (S' := (fun a k => a = p ∧ 3 * to ≤ (k : Int) ∧ (k : Int) < 3 * to + 3)) f8 (fun a k q => by omega))
      refine z_iinc (L' := [_, _, _, _, _]) dX12_copyRow_25 rfl rfl ?_
      refine e_goto 3 dX12_copyRow_28 rfl ?_
      exact ih1 _ (by omega) (i + 1) h6 rfl k9 FR10 (by omega) (fun j a c => by
                by_cases z : j = i
                · rw [z]; exact (rI_eq e7 ⟨by omega, by omega⟩)
                · exact ((frm_r f8 (by omega))).trans (E1 j a (by omega))) (fun j a c => ((frm_r f8 (by omega))).trans (E2 j a c))
  exact lp1 _ 0 h rfl hk FR0 (by omega) (fun j a c => by omega) (fun j a c => rfl)
set_option maxHeartbeats 400000 in
theorem zp_X12_copyRow_162 {ad : mA} {dd : Nat} {h : mH} {Q : mQ} {p : Nat} {N : Nat} (hk : mS h p = (14, N))  (fr : Int) (fr_r : -2147483648 ≤ fr ∧ fr < 2147483648) (to : Int) (to_r : -2147483648 ≤ to ∧ to < 2147483648) (pN : 162 * fr + 162 ≤ N ∧ 162 * to + 162 ≤ N ∧ N ≤ 5000) (pf : 0 ≤ fr ∧ 0 ≤ to ∧ fr ≠ to) (kq : ∀ h1, frm (fun a k => a = p ∧ 162 * to ≤ (k : Int) ∧ (k : Int) < 162 * to + 162) h h1 → (∀ j : Int, 0 ≤ j → j < 162 → rI h1 p (162 * to + j) = rI h p (162 * fr + j)) → Q none h1) : mCal TB0 ad (dd + 1) M_X12_copyRow [.ref p, .int (zI 162), .int (zI fr), .int (zI to)] h 0 0 Q := by
  refine ⟨Nat.le_of_ble_eq_true rfl, ?_⟩
  show mEv TB0 ad M_X12_copyRow (dd + 1) (0, 0) (mCal TB0 ad (dd + 0)) (fun v h' z => z.1 = 0 ∧ Q v h') 0 [some (.ref p), some (.int (zI 162)), some (.int (zI fr)), some (.int (zI to)), none] [] h (0, 0)
  have FR0 : frm (fun a k => a = p ∧ 162 * to ≤ (k : Int) ∧ (k : Int) < 162 * to + 162) h h := frm_0 h
  refine z_iconst (0) dX12_copyRow_0 rfl ?_
  refine e_istore (L' := [_, _, _, _, _]) dX12_copyRow_1 (Nat.le_of_ble_eq_true rfl) rfl ?_
  have lp1 : ∀ (n1 : Nat) (i : Int) (h1 : mH), (162 - i).toNat = n1 → (mS h1 p = (14, N)) → (frm (fun a k => a = p ∧ 162 * to ≤ (k : Int) ∧ (k : Int) < 162 * to + 162) h h1) → (0 ≤ i ∧ i ≤ 162) → (∀ j : Int, 0 ≤ j → j < i → rI h1 p (162 * to + j) = rI h p (162 * fr + j)) → (∀ j : Int, 0 ≤ j → j < 162 → rI h1 p (162 * fr + j) = rI h p (162 * fr + j)) → mEv TB0 ad M_X12_copyRow (dd + 1) (0, 0) (mCal TB0 ad (dd + 0)) (fun v h' z => z.1 = 0 ∧ Q v h') 3 [some (.ref p), some (.int (zI 162)), some (.int (zI fr)), some (.int (zI to)), some (.int (zI i))] [] h1 (0, 0) := by
    intro n1
    induction n1 using Nat.strongRecOn with
    | ind n1 ih1 =>
    intro i h1 hn1 k2 FR3 I1 E1 E2
    refine e_iload dX12_copyRow_3 rfl ?_
    refine e_iload_n dX12_copyRow_5 rfl ?_
    refine z_icmp_ge 31 dX12_copyRow_6 rfl ⟨by omega, by omega⟩ ⟨by omega, by omega⟩ (fun c4 => ?_) (fun c4 => ?_)
    · skip
      refine e_vret dX12_copyRow_31 rfl ⟨rfl, ?_⟩
      exact kq _ FR3 (fun j a c => E1 j a (by omega))
    · skip
      refine e_aload_n dX12_copyRow_9 rfl ?_
      refine e_iload_n dX12_copyRow_10 rfl ?_
      refine e_iload_n dX12_copyRow_11 rfl ?_
      refine z_imul dX12_copyRow_12 ?_
      refine e_iload dX12_copyRow_13 rfl ?_
      refine z_iadd dX12_copyRow_15 ?_
      refine e_aload_n dX12_copyRow_16 rfl ?_
      refine e_iload_n dX12_copyRow_17 rfl ?_
      refine e_iload_n dX12_copyRow_18 rfl ?_
      refine z_imul dX12_copyRow_19 ?_
      refine e_iload dX12_copyRow_20 rfl ?_
      refine z_iadd dX12_copyRow_22 ?_
      refine z_ild (rI h p (162 * fr + i)) dX12_copyRow_23 k2 (by omega) (by omega) (by omega) (E2 i (by omega) (by omega)) ?_
      have y5 := rI_i h p (162 * fr + i)
      refine z_ist dX12_copyRow_24 k2 (by omega) (by omega) (by omega) (fun h6 e7 => ?_)
      have f8 := frm_1 e7
      have k9 := cgS (frm_s f8) k2
      have FR10 := frm_t FR3 (frm_m (S' := (fun a k => a = p ∧ 162 * to ≤ (k : Int) ∧ (k : Int) < 162 * to + 162)) f8 (fun a k q => by omega))
      refine z_iinc (L' := [_, _, _, _, _]) dX12_copyRow_25 rfl rfl ?_
      refine e_goto 3 dX12_copyRow_28 rfl ?_
      exact ih1 _ (by omega) (i + 1) h6 rfl k9 FR10 (by omega) (fun j a c => by
                by_cases z : j = i
                · rw [z]; exact (rI_eq e7 ⟨by omega, by omega⟩)
                · exact ((frm_r f8 (by omega))).trans (E1 j a (by omega))) (fun j a c => ((frm_r f8 (by omega))).trans (E2 j a c))
  exact lp1 _ 0 h rfl hk FR0 (by omega) (fun j a c => by omega) (fun j a c => rfl)
set_option maxHeartbeats 400000 in
theorem zp_X12_copyRow_242 {ad : mA} {dd : Nat} {h : mH} {Q : mQ} {p : Nat} {N : Nat} (hk : mS h p = (14, N))  (fr : Int) (fr_r : -2147483648 ≤ fr ∧ fr < 2147483648) (to : Int) (to_r : -2147483648 ≤ to ∧ to < 2147483648) (pN : 242 * fr + 242 ≤ N ∧ 242 * to + 242 ≤ N ∧ N ≤ 5000) (pf : 0 ≤ fr ∧ 0 ≤ to ∧ fr ≠ to) (kq : ∀ h1, frm (fun a k => a = p ∧ 242 * to ≤ (k : Int) ∧ (k : Int) < 242 * to + 242) h h1 → (∀ j : Int, 0 ≤ j → j < 242 → rI h1 p (242 * to + j) = rI h p (242 * fr + j)) → Q none h1) : mCal TB0 ad (dd + 1) M_X12_copyRow [.ref p, .int (zI 242), .int (zI fr), .int (zI to)] h 0 0 Q := by
  refine ⟨Nat.le_of_ble_eq_true rfl, ?_⟩
  show mEv TB0 ad M_X12_copyRow (dd + 1) (0, 0) (mCal TB0 ad (dd + 0)) (fun v h' z => z.1 = 0 ∧ Q v h') 0 [some (.ref p), some (.int (zI 242)), some (.int (zI fr)), some (.int (zI to)), none] [] h (0, 0)
  have FR0 : frm (fun a k => a = p ∧ 242 * to ≤ (k : Int) ∧ (k : Int) < 242 * to + 242) h h := frm_0 h
  refine z_iconst (0) dX12_copyRow_0 rfl ?_
  refine e_istore (L' := [_, _, _, _, _]) dX12_copyRow_1 (Nat.le_of_ble_eq_true rfl) rfl ?_
  have lp1 : ∀ (n1 : Nat) (i : Int) (h1 : mH), (242 - i).toNat = n1 → (mS h1 p = (14, N)) → (frm (fun a k => a = p ∧ 242 * to ≤ (k : Int) ∧ (k : Int) < 242 * to + 242) h h1) → (0 ≤ i ∧ i ≤ 242) → (∀ j : Int, 0 ≤ j → j < i → rI h1 p (242 * to + j) = rI h p (242 * fr + j)) → (∀ j : Int, 0 ≤ j → j < 242 → rI h1 p (242 * fr + j) = rI h p (242 * fr + j)) → mEv TB0 ad M_X12_copyRow (dd + 1) (0, 0) (mCal TB0 ad (dd + 0)) (fun v h' z => z.1 = 0 ∧ Q v h') 3 [some (.ref p), some (.int (zI 242)), some (.int (zI fr)), some (.int (zI to)), some (.int (zI i))] [] h1 (0, 0) := by
    intro n1
    induction n1 using Nat.strongRecOn with
    | ind n1 ih1 =>
    intro i h1 hn1 k2 FR3 I1 E1 E2
    refine e_iload dX12_copyRow_3 rfl ?_
    refine e_iload_n dX12_copyRow_5 rfl ?_
    refine z_icmp_ge 31 dX12_copyRow_6 rfl ⟨by omega, by omega⟩ ⟨by omega, by omega⟩ (fun c4 => ?_) (fun c4 => ?_)
    · skip
      refine e_vret dX12_copyRow_31 rfl ⟨rfl, ?_⟩
      exact kq _ FR3 (fun j a c => E1 j a (by omega))
    · skip
      refine e_aload_n dX12_copyRow_9 rfl ?_
      refine e_iload_n dX12_copyRow_10 rfl ?_
      refine e_iload_n dX12_copyRow_11 rfl ?_
      refine z_imul dX12_copyRow_12 ?_
      refine e_iload dX12_copyRow_13 rfl ?_
      refine z_iadd dX12_copyRow_15 ?_
      refine e_aload_n dX12_copyRow_16 rfl ?_
      refine e_iload_n dX12_copyRow_17 rfl ?_
      refine e_iload_n dX12_copyRow_18 rfl ?_
      refine z_imul dX12_copyRow_19 ?_
      refine e_iload dX12_copyRow_20 rfl ?_
      refine z_iadd dX12_copyRow_22 ?_
      refine z_ild (rI h p (242 * fr + i)) dX12_copyRow_23 k2 (by omega) (by omega) (by omega) (E2 i (by omega) (by omega)) ?_
      have y5 := rI_i h p (242 * fr + i)
      refine z_ist dX12_copyRow_24 k2 (by omega) (by omega) (by omega) (fun h6 e7 => ?_)
      have f8 := frm_1 e7
      have k9 := cgS (frm_s f8) k2
      have FR10 := frm_t FR3 (frm_m (S' := (fun a k => a = p ∧ 242 * to ≤ (k : Int) ∧ (k : Int) < 242 * to + 242)) f8 (fun a k q => by omega))
      refine z_iinc (L' := [_, _, _, _, _]) dX12_copyRow_25 rfl rfl ?_
      refine e_goto 3 dX12_copyRow_28 rfl ?_
      exact ih1 _ (by omega) (i + 1) h6 rfl k9 FR10 (by omega) (fun j a c => by
                by_cases z : j = i
                · rw [z]; exact (rI_eq e7 ⟨by omega, by omega⟩)
                · exact ((frm_r f8 (by omega))).trans (E1 j a (by omega))) (fun j a c => ((frm_r f8 (by omega))).trans (E2 j a c))
  exact lp1 _ 0 h rfl hk FR0 (by omega) (fun j a c => by omega) (fun j a c => rfl)
set_option maxHeartbeats 400000 in
theorem zp_X12_copyRow_50 {ad : mA} {dd : Nat} {h : mH} {Q : mQ} {p : Nat} {N : Nat} (hk : mS h p = (14, N))  (fr : Int) (fr_r : -2147483648 ≤ fr ∧ fr < 2147483648) (to : Int) (to_r : -2147483648 ≤ to ∧ to < 2147483648) (pN : 50 * fr + 50 ≤ N ∧ 50 * to + 50 ≤ N ∧ N ≤ 5000) (pf : 0 ≤ fr ∧ 0 ≤ to ∧ fr ≠ to) (kq : ∀ h1, frm (fun a k => a = p ∧ 50 * to ≤ (k : Int) ∧ (k : Int) < 50 * to + 50) h h1 → (∀ j : Int, 0 ≤ j → j < 50 → rI h1 p (50 * to + j) = rI h p (50 * fr + j)) → Q none h1) : mCal TB0 ad (dd + 1) M_X12_copyRow [.ref p, .int (zI 50), .int (zI fr), .int (zI to)] h 0 0 Q := by
  refine ⟨Nat.le_of_ble_eq_true rfl, ?_⟩
  show mEv TB0 ad M_X12_copyRow (dd + 1) (0, 0) (mCal TB0 ad (dd + 0)) (fun v h' z => z.1 = 0 ∧ Q v h') 0 [some (.ref p), some (.int (zI 50)), some (.int (zI fr)), some (.int (zI to)), none] [] h (0, 0)
  have FR0 : frm (fun a k => a = p ∧ 50 * to ≤ (k : Int) ∧ (k : Int) < 50 * to + 50) h h := frm_0 h
  refine z_iconst (0) dX12_copyRow_0 rfl ?_
  refine e_istore (L' := [_, _, _, _, _]) dX12_copyRow_1 (Nat.le_of_ble_eq_true rfl) rfl ?_
  have lp1 : ∀ (n1 : Nat) (i : Int) (h1 : mH), (50 - i).toNat = n1 → (mS h1 p = (14, N)) → (frm (fun a k => a = p ∧ 50 * to ≤ (k : Int) ∧ (k : Int) < 50 * to + 50) h h1) → (0 ≤ i ∧ i ≤ 50) → (∀ j : Int, 0 ≤ j → j < i → rI h1 p (50 * to + j) = rI h p (50 * fr + j)) → (∀ j : Int, 0 ≤ j → j < 50 → rI h1 p (50 * fr + j) = rI h p (50 * fr + j)) → mEv TB0 ad M_X12_copyRow (dd + 1) (0, 0) (mCal TB0 ad (dd + 0)) (fun v h' z => z.1 = 0 ∧ Q v h') 3 [some (.ref p), some (.int (zI 50)), some (.int (zI fr)), some (.int (zI to)), some (.int (zI i))] [] h1 (0, 0) := by
    intro n1
    induction n1 using Nat.strongRecOn with
    | ind n1 ih1 =>
    intro i h1 hn1 k2 FR3 I1 E1 E2
    refine e_iload dX12_copyRow_3 rfl ?_
    refine e_iload_n dX12_copyRow_5 rfl ?_
    refine z_icmp_ge 31 dX12_copyRow_6 rfl ⟨by omega, by omega⟩ ⟨by omega, by omega⟩ (fun c4 => ?_) (fun c4 => ?_)
    · skip
      refine e_vret dX12_copyRow_31 rfl ⟨rfl, ?_⟩
      exact kq _ FR3 (fun j a c => E1 j a (by omega))
    · skip
      refine e_aload_n dX12_copyRow_9 rfl ?_
      refine e_iload_n dX12_copyRow_10 rfl ?_
      refine e_iload_n dX12_copyRow_11 rfl ?_
      refine z_imul dX12_copyRow_12 ?_
      refine e_iload dX12_copyRow_13 rfl ?_
      refine z_iadd dX12_copyRow_15 ?_
      refine e_aload_n dX12_copyRow_16 rfl ?_
      refine e_iload_n dX12_copyRow_17 rfl ?_
      refine e_iload_n dX12_copyRow_18 rfl ?_
      refine z_imul dX12_copyRow_19 ?_
      refine e_iload dX12_copyRow_20 rfl ?_
      refine z_iadd dX12_copyRow_22 ?_
      refine z_ild (rI h p (50 * fr + i)) dX12_copyRow_23 k2 (by omega) (by omega) (by omega) (E2 i (by omega) (by omega)) ?_
      have y5 := rI_i h p (50 * fr + i)
      refine z_ist dX12_copyRow_24 k2 (by omega) (by omega) (by omega) (fun h6 e7 => ?_)
      have f8 := frm_1 e7
      have k9 := cgS (frm_s f8) k2
      have FR10 := frm_t FR3 (frm_m (S' := (fun a k => a = p ∧ 50 * to ≤ (k : Int) ∧ (k : Int) < 50 * to + 50)) f8 (fun a k q => by omega))
      refine z_iinc (L' := [_, _, _, _, _]) dX12_copyRow_25 rfl rfl ?_
      refine e_goto 3 dX12_copyRow_28 rfl ?_
      exact ih1 _ (by omega) (i + 1) h6 rfl k9 FR10 (by omega) (fun j a c => by
                by_cases z : j = i
                · rw [z]; exact (rI_eq e7 ⟨by omega, by omega⟩)
                · exact ((frm_r f8 (by omega))).trans (E1 j a (by omega))) (fun j a c => ((frm_r f8 (by omega))).trans (E2 j a c))
  exact lp1 _ 0 h rfl hk FR0 (by omega) (fun j a c => by omega) (fun j a c => rfl)
set_option maxHeartbeats 4000000 in
theorem zp_X12_copyAll {ad : mA} {dd : Nat} {h : mH} {Q : mQ} {m : Nat} {σ : Sg} (fr : Int) (fr_r : -2147483648 ≤ fr ∧ fr < 2147483648) (to : Int) (to_r : -2147483648 ≤ to ∧ to < 2147483648) (hk : rk h m) (HR : refT h m fr σ)  (p1 : 0 ≤ fr ∧ fr < 4) (p2 : 0 ≤ to ∧ to < 4) (p3 : fr ≠ to) (kq : ∀ h1, frm (fun a k => (a = m + 1 ∧ 600 * to ≤ (k : Int) ∧ (k : Int) < 600 * to + 600) ∨ (m + 2 ≤ a ∧ a ≤ m + 4 ∧ (k : Int) = to) ∨ (a = m + 5 ∧ 3 * to ≤ (k : Int) ∧ (k : Int) < 3 * to + 3) ∨ (a = m + 6 ∧ 162 * to ≤ (k : Int) ∧ (k : Int) < 162 * to + 162) ∨ (a = m + 7 ∧ 242 * to ≤ (k : Int) ∧ (k : Int) < 242 * to + 242) ∨ (a = m + 8 ∧ 50 * to ≤ (k : Int) ∧ (k : Int) < 50 * to + 50)) h h1 → (refT h1 m to σ) → Q none h1) : mCal TB0 ad (dd + 2) M_X12_copyAll [.ref m, .int (zI fr), .int (zI to)] h 0 0 Q := by
  refine ⟨Nat.le_of_ble_eq_true rfl, ?_⟩
  show mEv TB0 ad M_X12_copyAll (dd + 2) (0, 0) (mCal TB0 ad (dd + 1)) (fun v h' z => z.1 = 0 ∧ Q v h') 0 [some (.ref m), some (.int (zI fr)), some (.int (zI to)), none] [] h (0, 0)
  have FR0 : frm (fun a k => (a = m + 1 ∧ 600 * to ≤ (k : Int) ∧ (k : Int) < 600 * to + 600) ∨ (m + 2 ≤ a ∧ a ≤ m + 4 ∧ (k : Int) = to) ∨ (a = m + 5 ∧ 3 * to ≤ (k : Int) ∧ (k : Int) < 3 * to + 3) ∨ (a = m + 6 ∧ 162 * to ≤ (k : Int) ∧ (k : Int) < 162 * to + 162) ∨ (a = m + 7 ∧ 242 * to ≤ (k : Int) ∧ (k : Int) < 242 * to + 242) ∨ (a = m + 8 ∧ 50 * to ≤ (k : Int) ∧ (k : Int) < 50 * to + 50)) h h := frm_0 h
  have w0 := wS_n HR.1
  refine z_iconst (0) dX12_copyAll_0 rfl ?_
  refine e_istore_n (L' := [_, _, _, _]) dX12_copyAll_1 (Nat.le_of_ble_eq_true rfl) rfl ?_
  have lp1 : ∀ (n1 : Nat) (i : Int) (h1 : mH), (600 - i).toNat = n1 → (rk h1 m) → (frm (fun a k => (a = m + 1 ∧ 600 * to ≤ (k : Int) ∧ (k : Int) < 600 * to + 600) ∨ (m + 2 ≤ a ∧ a ≤ m + 4 ∧ (k : Int) = to) ∨ (a = m + 5 ∧ 3 * to ≤ (k : Int) ∧ (k : Int) < 3 * to + 3) ∨ (a = m + 6 ∧ 162 * to ≤ (k : Int) ∧ (k : Int) < 162 * to + 162) ∨ (a = m + 7 ∧ 242 * to ≤ (k : Int) ∧ (k : Int) < 242 * to + 242) ∨ (a = m + 8 ∧ 50 * to ≤ (k : Int) ∧ (k : Int) < 50 * to + 50)) h h1) → (0 ≤ i ∧ i ≤ 600) → (∀ j : Int, 0 ≤ j → j < i → rI h1 (m + 1) (600 * to + j) = sT σ j) → (∀ j : Int, 0 ≤ j → j < 600 → rI h1 (m + 1) (600 * fr + j) = sT σ j) → (∀ (a : Nat) (z : Int), a ≠ m + 1 → rI h1 a z = rI h a z) → mEv TB0 ad M_X12_copyAll (dd + 2) (0, 0) (mCal TB0 ad (dd + 1)) (fun v h' z => z.1 = 0 ∧ Q v h') 2 [some (.ref m), some (.int (zI fr)), some (.int (zI to)), some (.int (zI i))] [] h1 (0, 0) := by
    intro n1
    induction n1 using Nat.strongRecOn with
    | ind n1 ih1 =>
    intro i h1 hn1 k2 FR3 I1 T1 T3 T2
    refine e_iload_n dX12_copyAll_2 rfl ?_
    refine z_sipush (600) dX12_copyAll_3 rfl ?_
    refine z_icmp_ge 39 dX12_copyAll_6 rfl ⟨by omega, by omega⟩ ⟨by omega, by omega⟩ (fun c4 => ?_) (fun c4 => ?_)
    · skip
      refine e_aload_n dX12_copyAll_39 rfl ?_
      refine e_get (.ref (m + 2)) dX12_copyAll_40 tf_12_13 (rk_s k2) (congrArg va_rf (rk_r2 k2)) ?_
      refine z_iconst (1) dX12_copyAll_43 rfl ?_
      refine e_iload_n dX12_copyAll_44 rfl ?_
      refine e_iload_n dX12_copyAll_45 rfl ?_
      refine e_callS [.ref _, .int _, .int _, .int _] dX12_copyAll_46 tm_12_111 rfl (Nat.le_of_ble_eq_true rfl) (Nat.le_refl _) (Nat.le_refl _) rfl (zp_X12_copyRow_1 (rk_a2 k2) fr ⟨by omega, by omega⟩ to ⟨by omega, by omega⟩ (by omega) (by omega) (fun  h5 f6 p7 => ?_))
      have k8 := rk_q (frm_s f6) k2
      have FR9 := frm_t FR3 (frm_m (S' := (fun a k => (a = m + 1 ∧ 600 * to ≤ (k : Int) ∧ (k : Int) < 600 * to + 600) ∨ (m + 2 ≤ a ∧ a ≤ m + 4 ∧ (k : Int) = to) ∨ (a = m + 5 ∧ 3 * to ≤ (k : Int) ∧ (k : Int) < 3 * to + 3) ∨ (a = m + 6 ∧ 162 * to ≤ (k : Int) ∧ (k : Int) < 162 * to + 162) ∨ (a = m + 7 ∧ 242 * to ≤ (k : Int) ∧ (k : Int) < 242 * to + 242) ∨ (a = m + 8 ∧ 50 * to ≤ (k : Int) ∧ (k : Int) < 50 * to + 50))) f6 (fun a k q => by omega))
      skip
      refine e_aload_n dX12_copyAll_49 rfl ?_
      refine e_get (.ref (m + 3)) dX12_copyAll_50 tf_12_17 (rk_s k8) (congrArg va_rf (rk_r3 k8)) ?_
      refine z_iconst (1) dX12_copyAll_53 rfl ?_
      refine e_iload_n dX12_copyAll_54 rfl ?_
      refine e_iload_n dX12_copyAll_55 rfl ?_
      refine e_callS [.ref _, .int _, .int _, .int _] dX12_copyAll_56 tm_12_111 rfl (Nat.le_of_ble_eq_true rfl) (Nat.le_refl _) (Nat.le_refl _) rfl (zp_X12_copyRow_1 (rk_a3 k8) fr ⟨by omega, by omega⟩ to ⟨by omega, by omega⟩ (by omega) (by omega) (fun  h10 f11 p12 => ?_))
      have k13 := rk_q (frm_s f11) k8
      have FR14 := frm_t FR9 (frm_m (S' := (fun a k => (a = m + 1 ∧ 600 * to ≤ (k : Int) ∧ (k : Int) < 600 * to + 600) ∨ (m + 2 ≤ a ∧ a ≤ m + 4 ∧ (k : Int) = to) ∨ (a = m + 5 ∧ 3 * to ≤ (k : Int) ∧ (k : Int) < 3 * to + 3) ∨ (a = m + 6 ∧ 162 * to ≤ (k : Int) ∧ (k : Int) < 162 * to + 162) ∨ (a = m + 7 ∧ 242 * to ≤ (k : Int) ∧ (k : Int) < 242 * to + 242) ∨ (a = m + 8 ∧ 50 * to ≤ (k : Int) ∧ (k : Int) < 50 * to + 50))) f11 (fun a k q => by omega))
      skip
      refine e_aload_n dX12_copyAll_59 rfl ?_
      refine e_get (.ref (m + 4)) dX12_copyAll_60 tf_12_20 (rk_s k13) (congrArg va_rf (rk_r4 k13)) ?_
      refine z_iconst (1) dX12_copyAll_63 rfl ?_
      refine e_iload_n dX12_copyAll_64 rfl ?_
      refine e_iload_n dX12_copyAll_65 rfl ?_
      refine e_callS [.ref _, .int _, .int _, .int _] dX12_copyAll_66 tm_12_111 rfl (Nat.le_of_ble_eq_true rfl) (Nat.le_refl _) (Nat.le_refl _) rfl (zp_X12_copyRow_1 (rk_a4 k13) fr ⟨by omega, by omega⟩ to ⟨by omega, by omega⟩ (by omega) (by omega) (fun  h15 f16 p17 => ?_))
      have k18 := rk_q (frm_s f16) k13
      have FR19 := frm_t FR14 (frm_m (S' := (fun a k => (a = m + 1 ∧ 600 * to ≤ (k : Int) ∧ (k : Int) < 600 * to + 600) ∨ (m + 2 ≤ a ∧ a ≤ m + 4 ∧ (k : Int) = to) ∨ (a = m + 5 ∧ 3 * to ≤ (k : Int) ∧ (k : Int) < 3 * to + 3) ∨ (a = m + 6 ∧ 162 * to ≤ (k : Int) ∧ (k : Int) < 162 * to + 162) ∨ (a = m + 7 ∧ 242 * to ≤ (k : Int) ∧ (k : Int) < 242 * to + 242) ∨ (a = m + 8 ∧ 50 * to ≤ (k : Int) ∧ (k : Int) < 50 * to + 50))) f16 (fun a k q => by omega))
      skip
      refine e_aload_n dX12_copyAll_69 rfl ?_
      refine e_get (.ref (m + 5)) dX12_copyAll_70 tf_12_23 (rk_s k18) (congrArg va_rf (rk_r5 k18)) ?_
      refine z_iconst (3) dX12_copyAll_73 rfl ?_
      refine e_iload_n dX12_copyAll_74 rfl ?_
      refine e_iload_n dX12_copyAll_75 rfl ?_
      refine e_callS [.ref _, .int _, .int _, .int _] dX12_copyAll_76 tm_12_111 rfl (Nat.le_of_ble_eq_true rfl) (Nat.le_refl _) (Nat.le_refl _) rfl (zp_X12_copyRow_3 (rk_a5 k18) fr ⟨by omega, by omega⟩ to ⟨by omega, by omega⟩ (by omega) (by omega) (fun  h20 f21 p22 => ?_))
      have k23 := rk_q (frm_s f21) k18
      have FR24 := frm_t FR19 (frm_m (S' := (fun a k => (a = m + 1 ∧ 600 * to ≤ (k : Int) ∧ (k : Int) < 600 * to + 600) ∨ (m + 2 ≤ a ∧ a ≤ m + 4 ∧ (k : Int) = to) ∨ (a = m + 5 ∧ 3 * to ≤ (k : Int) ∧ (k : Int) < 3 * to + 3) ∨ (a = m + 6 ∧ 162 * to ≤ (k : Int) ∧ (k : Int) < 162 * to + 162) ∨ (a = m + 7 ∧ 242 * to ≤ (k : Int) ∧ (k : Int) < 242 * to + 242) ∨ (a = m + 8 ∧ 50 * to ≤ (k : Int) ∧ (k : Int) < 50 * to + 50))) f21 (fun a k q => by omega))
      skip
      refine e_aload_n dX12_copyAll_79 rfl ?_
      refine e_get (.ref (m + 6)) dX12_copyAll_80 tf_12_26 (rk_s k23) (congrArg va_rf (rk_r6 k23)) ?_
      refine z_sipush (162) dX12_copyAll_83 rfl ?_
      refine e_iload_n dX12_copyAll_86 rfl ?_
      refine e_iload_n dX12_copyAll_87 rfl ?_
      refine e_callS [.ref _, .int _, .int _, .int _] dX12_copyAll_88 tm_12_111 rfl (Nat.le_of_ble_eq_true rfl) (Nat.le_refl _) (Nat.le_refl _) rfl (zp_X12_copyRow_162 (rk_a6 k23) fr ⟨by omega, by omega⟩ to ⟨by omega, by omega⟩ (by omega) (by omega) (fun  h25 f26 p27 => ?_))
      have k28 := rk_q (frm_s f26) k23
      have FR29 := frm_t FR24 (frm_m (S' := (fun a k => (a = m + 1 ∧ 600 * to ≤ (k : Int) ∧ (k : Int) < 600 * to + 600) ∨ (m + 2 ≤ a ∧ a ≤ m + 4 ∧ (k : Int) = to) ∨ (a = m + 5 ∧ 3 * to ≤ (k : Int) ∧ (k : Int) < 3 * to + 3) ∨ (a = m + 6 ∧ 162 * to ≤ (k : Int) ∧ (k : Int) < 162 * to + 162) ∨ (a = m + 7 ∧ 242 * to ≤ (k : Int) ∧ (k : Int) < 242 * to + 242) ∨ (a = m + 8 ∧ 50 * to ≤ (k : Int) ∧ (k : Int) < 50 * to + 50))) f26 (fun a k q => by omega))
      skip
      refine e_aload_n dX12_copyAll_91 rfl ?_
      refine e_get (.ref (m + 7)) dX12_copyAll_92 tf_12_29 (rk_s k28) (congrArg va_rf (rk_r7 k28)) ?_
      refine z_sipush (242) dX12_copyAll_95 rfl ?_
      refine e_iload_n dX12_copyAll_98 rfl ?_
      refine e_iload_n dX12_copyAll_99 rfl ?_
      refine e_callS [.ref _, .int _, .int _, .int _] dX12_copyAll_100 tm_12_111 rfl (Nat.le_of_ble_eq_true rfl) (Nat.le_refl _) (Nat.le_refl _) rfl (zp_X12_copyRow_242 (rk_a7 k28) fr ⟨by omega, by omega⟩ to ⟨by omega, by omega⟩ (by omega) (by omega) (fun  h30 f31 p32 => ?_))
      have k33 := rk_q (frm_s f31) k28
      have FR34 := frm_t FR29 (frm_m (S' := (fun a k => (a = m + 1 ∧ 600 * to ≤ (k : Int) ∧ (k : Int) < 600 * to + 600) ∨ (m + 2 ≤ a ∧ a ≤ m + 4 ∧ (k : Int) = to) ∨ (a = m + 5 ∧ 3 * to ≤ (k : Int) ∧ (k : Int) < 3 * to + 3) ∨ (a = m + 6 ∧ 162 * to ≤ (k : Int) ∧ (k : Int) < 162 * to + 162) ∨ (a = m + 7 ∧ 242 * to ≤ (k : Int) ∧ (k : Int) < 242 * to + 242) ∨ (a = m + 8 ∧ 50 * to ≤ (k : Int) ∧ (k : Int) < 50 * to + 50))) f31 (fun a k q => by omega))
      skip
      refine e_aload_n dX12_copyAll_103 rfl ?_
      refine e_get (.ref (m + 8)) dX12_copyAll_104 tf_12_32 (rk_s k33) (congrArg va_rf (rk_r8 k33)) ?_
      refine z_bipush (50) dX12_copyAll_107 rfl ?_
      refine e_iload_n dX12_copyAll_109 rfl ?_
      refine e_iload_n dX12_copyAll_110 rfl ?_
      refine e_callS [.ref _, .int _, .int _, .int _] dX12_copyAll_111 tm_12_111 rfl (Nat.le_of_ble_eq_true rfl) (Nat.le_refl _) (Nat.le_refl _) rfl (zp_X12_copyRow_50 (rk_a8 k33) fr ⟨by omega, by omega⟩ to ⟨by omega, by omega⟩ (by omega) (by omega) (fun  h35 f36 p37 => ?_))
      have k38 := rk_q (frm_s f36) k33
      have FR39 := frm_t FR34 (frm_m (S' := (fun a k => (a = m + 1 ∧ 600 * to ≤ (k : Int) ∧ (k : Int) < 600 * to + 600) ∨ (m + 2 ≤ a ∧ a ≤ m + 4 ∧ (k : Int) = to) ∨ (a = m + 5 ∧ 3 * to ≤ (k : Int) ∧ (k : Int) < 3 * to + 3) ∨ (a = m + 6 ∧ 162 * to ≤ (k : Int) ∧ (k : Int) < 162 * to + 162) ∨ (a = m + 7 ∧ 242 * to ≤ (k : Int) ∧ (k : Int) < 242 * to + 242) ∨ (a = m + 8 ∧ 50 * to ≤ (k : Int) ∧ (k : Int) < 50 * to + 50))) f36 (fun a k q => by omega))
      skip
      refine e_vret dX12_copyAll_114 rfl ⟨rfl, ?_⟩
      have R0 : ∀ j : Int, 0 ≤ j → j < 1 → rI h35 (m + 2) (1 * to + j) = rI h (m + 2) (1 * fr + j) := fun j a c => (((frm_r f36 (by omega)).trans ((frm_r f31 (by omega)).trans ((frm_r f26 (by omega)).trans ((frm_r f21 (by omega)).trans ((frm_r f16 (by omega)).trans (frm_r f11 (by omega)))))))).trans ((p7 j a c).trans (T2 _ _ (by omega)))
      have R1 : ∀ j : Int, 0 ≤ j → j < 1 → rI h35 (m + 3) (1 * to + j) = rI h (m + 3) (1 * fr + j) := fun j a c => (((frm_r f36 (by omega)).trans ((frm_r f31 (by omega)).trans ((frm_r f26 (by omega)).trans ((frm_r f21 (by omega)).trans (frm_r f16 (by omega))))))).trans ((p12 j a c).trans (((frm_r f6 (by omega))).trans (T2 _ _ (by omega))))
      have R2 : ∀ j : Int, 0 ≤ j → j < 1 → rI h35 (m + 4) (1 * to + j) = rI h (m + 4) (1 * fr + j) := fun j a c => (((frm_r f36 (by omega)).trans ((frm_r f31 (by omega)).trans ((frm_r f26 (by omega)).trans (frm_r f21 (by omega)))))).trans ((p17 j a c).trans ((((frm_r f11 (by omega)).trans (frm_r f6 (by omega)))).trans (T2 _ _ (by omega))))
      have R3 : ∀ j : Int, 0 ≤ j → j < 3 → rI h35 (m + 5) (3 * to + j) = rI h (m + 5) (3 * fr + j) := fun j a c => (((frm_r f36 (by omega)).trans ((frm_r f31 (by omega)).trans (frm_r f26 (by omega))))).trans ((p22 j a c).trans ((((frm_r f16 (by omega)).trans ((frm_r f11 (by omega)).trans (frm_r f6 (by omega))))).trans (T2 _ _ (by omega))))
      have R4 : ∀ j : Int, 0 ≤ j → j < 162 → rI h35 (m + 6) (162 * to + j) = rI h (m + 6) (162 * fr + j) := fun j a c => (((frm_r f36 (by omega)).trans (frm_r f31 (by omega)))).trans ((p27 j a c).trans ((((frm_r f21 (by omega)).trans ((frm_r f16 (by omega)).trans ((frm_r f11 (by omega)).trans (frm_r f6 (by omega)))))).trans (T2 _ _ (by omega))))
      have R5 : ∀ j : Int, 0 ≤ j → j < 242 → rI h35 (m + 7) (242 * to + j) = rI h (m + 7) (242 * fr + j) := fun j a c => ((frm_r f36 (by omega))).trans ((p32 j a c).trans ((((frm_r f26 (by omega)).trans ((frm_r f21 (by omega)).trans ((frm_r f16 (by omega)).trans ((frm_r f11 (by omega)).trans (frm_r f6 (by omega))))))).trans (T2 _ _ (by omega))))
      have R6 : ∀ j : Int, 0 ≤ j → j < 50 → rI h35 (m + 8) (50 * to + j) = rI h (m + 8) (50 * fr + j) := fun j a c => ((p37 j a c).trans ((((frm_r f31 (by omega)).trans ((frm_r f26 (by omega)).trans ((frm_r f21 (by omega)).trans ((frm_r f16 (by omega)).trans ((frm_r f11 (by omega)).trans (frm_r f6 (by omega)))))))).trans (T2 _ _ (by omega))))
      have q0 := R0 0 (by omega) (by omega)
      have q1 := R1 0 (by omega) (by omega)
      have q2 := R2 0 (by omega) (by omega)
      rw [show 1 * to + 0 = to by omega, show 1 * fr + 0 = fr by omega] at q0 q1 q2
      exact kq _ FR39 ⟨HR.1, fun i a c => (((frm_r f36 (by omega)).trans ((frm_r f31 (by omega)).trans ((frm_r f26 (by omega)).trans ((frm_r f21 (by omega)).trans ((frm_r f16 (by omega)).trans ((frm_r f11 (by omega)).trans (frm_r f6 (by omega))))))))).trans (T1 i a (by omega)), fun q a c => (R3 q a c).trans (HR.2.2.1 q a c), ⟨q0.trans HR.2.2.2.1.1, q1.trans HR.2.2.2.1.2.1, q2.trans HR.2.2.2.1.2.2⟩, fun k a c i a' c' => (R4 _ (by omega) (by omega)).trans (HR.2.2.2.2.1 k a c i a' c'), fun k a c i a' c' => (R5 _ (by omega) (by omega)).trans (HR.2.2.2.2.2.1 k a c i a' c'), fun k a c i a' c' => (R6 _ (by omega) (by omega)).trans (HR.2.2.2.2.2.2 k a c i a' c')⟩
    · skip
      refine e_aload_n dX12_copyAll_9 rfl ?_
      refine e_get (.ref (m + 1)) dX12_copyAll_10 tf_12_7 (rk_s k2) (congrArg va_rf (rk_r1 k2)) ?_
      refine z_sipush (600) dX12_copyAll_13 rfl ?_
      refine e_iload_n dX12_copyAll_16 rfl ?_
      refine z_imul dX12_copyAll_17 ?_
      refine e_iload_n dX12_copyAll_18 rfl ?_
      refine z_iadd dX12_copyAll_19 ?_
      refine e_aload_n dX12_copyAll_20 rfl ?_
      refine e_get (.ref (m + 1)) dX12_copyAll_21 tf_12_7 (rk_s k2) (congrArg va_rf (rk_r1 k2)) ?_
      refine z_sipush (600) dX12_copyAll_24 rfl ?_
      refine e_iload_n dX12_copyAll_27 rfl ?_
      refine z_imul dX12_copyAll_28 ?_
      refine e_iload_n dX12_copyAll_29 rfl ?_
      refine z_iadd dX12_copyAll_30 ?_
      refine z_bld (sT σ i) dX12_copyAll_31 (rk_a1 k2) (by decide) (by omega) (by omega) (T3 i (by omega) (by omega)) ?_
      have y40 := wS_t HR.1 (show 0 ≤ i by omega) (by omega)
      refine z_bst dX12_copyAll_32 (rk_a1 k2) (by decide) (by omega) (by omega) (fun h41 e42 => ?_)
      have f43 := frm_1 e42
      have k44 := rk_q (frm_s f43) k2
      have FR45 := frm_t FR3 (frm_m (S' := (fun a k => (a = m + 1 ∧ 600 * to ≤ (k : Int) ∧ (k : Int) < 600 * to + 600) ∨ (m + 2 ≤ a ∧ a ≤ m + 4 ∧ (k : Int) = to) ∨ (a = m + 5 ∧ 3 * to ≤ (k : Int) ∧ (k : Int) < 3 * to + 3) ∨ (a = m + 6 ∧ 162 * to ≤ (k : Int) ∧ (k : Int) < 162 * to + 162) ∨ (a = m + 7 ∧ 242 * to ≤ (k : Int) ∧ (k : Int) < 242 * to + 242) ∨ (a = m + 8 ∧ 50 * to ≤ (k : Int) ∧ (k : Int) < 50 * to + 50))) f43 (fun a k q => by omega))
      refine z_iinc (L' := [_, _, _, _]) dX12_copyAll_33 rfl rfl ?_
      refine e_goto 2 dX12_copyAll_36 rfl ?_
      exact ih1 _ (by omega) (i + 1) h41 rfl k44 FR45 (by omega) (fun j a c => by
                by_cases z : j = i
                · rw [z]; exact ((rI_eq e42 (byZ_in _))).trans (byZ_id (by omega) (by omega))
                · exact ((frm_r f43 (by omega))).trans (T1 j a (by omega))) (fun j a c => ((frm_r f43 (by omega))).trans (T3 j a c)) (fun a z n => ((frm_r f43 (by omega))).trans (T2 a z n))
  exact lp1 _ 0 h rfl hk FR0 (by omega) (fun j a c => by omega) HR.2.1 (fun a z n => rfl)

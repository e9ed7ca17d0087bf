theorem dX2_build_82 : decode cX2_build 82 = .ok (.goto (-43), 3) := by decide +kernel
theorem dX2_build_85 : decode cX2_build 85 = .ok (.return_, 1) := by decide +kernel
theorem dX2_addLargestDie_0 : decode cX2_addLargestDie 0 = .ok (.iload_n 1, 1) := by decide +kernel
theorem dX2_addLargestDie_1 : decode cX2_addLargestDie 1 = .ok (.istore_n 3, 1) := by decide +kernel
theorem dX2_addLargestDie_2 : decode cX2_addLargestDie 2 = .ok (.iload_n 3, 1) := by decide +kernel
theorem dX2_addLargestDie_3 : decode cX2_addLargestDie 3 = .ok (.iload_n 2, 1) := by decide +kernel
theorem dX2_addLargestDie_4 : decode cX2_addLargestDie 4 = .ok (.if_icmp .ge 126, 3) := by decide +kernel
theorem dX2_addLargestDie_7 : decode cX2_addLargestDie 7 = .ok (.iconst 1, 1) := by decide +kernel
theorem dX2_addLargestDie_8 : decode cX2_addLargestDie 8 = .ok (.aload_n 0, 1) := by decide +kernel
theorem dX2_addLargestDie_9 : decode cX2_addLargestDie 9 = .ok (.getfield 9, 3) := by decide +kernel
theorem dX2_addLargestDie_12 : decode cX2_addLargestDie 12 = .ok (.iload_n 3, 1) := by decide +kernel
theorem dX2_addLargestDie_13 : decode cX2_addLargestDie 13 = .ok (.iaload, 1) := by decide +kernel
theorem dX2_addLargestDie_14 : decode cX2_addLargestDie 14 = .ok (.bipush 10, 2) := by decide +kernel
theorem dX2_addLargestDie_16 : decode cX2_addLargestDie 16 = .ok (.irem, 1) := by decide +kernel
theorem dX2_addLargestDie_17 : decode cX2_addLargestDie 17 = .ok (.invokestatic 44, 3) := by decide +kernel
theorem dX2_addLargestDie_20 : decode cX2_addLargestDie 20 = .ok (.istore 4, 2) := by decide +kernel
theorem dX2_addLargestDie_22 : decode cX2_addLargestDie 22 = .ok (.iload 4, 2) := by decide +kernel
theorem dX2_addLargestDie_24 : decode cX2_addLargestDie 24 = .ok (.aload_n 0, 1) := by decide +kernel
theorem dX2_addLargestDie_25 : decode cX2_addLargestDie 25 = .ok (.getfield 28, 3) := by decide +kernel
theorem dX2_addLargestDie_28 : decode cX2_addLargestDie 28 = .ok (.if_icmp .gt 96, 3) := by decide +kernel
theorem dX2_addLargestDie_31 : decode cX2_addLargestDie 31 = .ok (.aload_n 0, 1) := by decide +kernel
theorem dX2_addLargestDie_32 : decode cX2_addLargestDie 32 = .ok (.getfield 31, 3) := by decide +kernel
theorem dX2_addLargestDie_35 : decode cX2_addLargestDie 35 = .ok (.sipush 462, 3) := by decide +kernel
theorem dX2_addLargestDie_38 : decode cX2_addLargestDie 38 = .ok (.if_icmp .lt 4, 3) := by decide +kernel
theorem dX2_addLargestDie_41 : decode cX2_addLargestDie 41 = .ok (.return_, 1) := by decide +kernel
theorem dX2_addLargestDie_42 : decode cX2_addLargestDie 42 = .ok (.aload_n 0, 1) := by decide +kernel
theorem dX2_addLargestDie_43 : decode cX2_addLargestDie 43 = .ok (.getfield 9, 3) := by decide +kernel
theorem dX2_addLargestDie_46 : decode cX2_addLargestDie 46 = .ok (.aload_n 0, 1) := by decide +kernel
theorem dX2_addLargestDie_47 : decode cX2_addLargestDie 47 = .ok (.getfield 31, 3) := by decide +kernel
theorem dX2_addLargestDie_50 : decode cX2_addLargestDie 50 = .ok (.aload_n 0, 1) := by decide +kernel
theorem dX2_addLargestDie_51 : decode cX2_addLargestDie 51 = .ok (.getfield 9, 3) := by decide +kernel
theorem dX2_addLargestDie_54 : decode cX2_addLargestDie 54 = .ok (.iload_n 3, 1) := by decide +kernel
theorem dX2_addLargestDie_55 : decode cX2_addLargestDie 55 = .ok (.iaload, 1) := by decide +kernel
theorem dX2_addLargestDie_56 : decode cX2_addLargestDie 56 = .ok (.bipush 10, 2) := by decide +kernel
theorem dX2_addLargestDie_58 : decode cX2_addLargestDie 58 = .ok (.imul, 1) := by decide +kernel
theorem dX2_addLargestDie_59 : decode cX2_addLargestDie 59 = .ok (.iload 4, 2) := by decide +kernel
theorem dX2_addLargestDie_61 : decode cX2_addLargestDie 61 = .ok (.iadd, 1) := by decide +kernel
theorem dX2_addLargestDie_62 : decode cX2_addLargestDie 62 = .ok (.iastore, 1) := by decide +kernel
theorem dX2_addLargestDie_63 : decode cX2_addLargestDie 63 = .ok (.aload_n 0, 1) := by decide +kernel
theorem dX2_addLargestDie_64 : decode cX2_addLargestDie 64 = .ok (.getfield 15, 3) := by decide +kernel
theorem dX2_addLargestDie_67 : decode cX2_addLargestDie 67 = .ok (.aload_n 0, 1) := by decide +kernel
theorem dX2_addLargestDie_68 : decode cX2_addLargestDie 68 = .ok (.getfield 31, 3) := by decide +kernel
theorem dX2_addLargestDie_71 : decode cX2_addLargestDie 71 = .ok (.aload_n 0, 1) := by decide +kernel
theorem dX2_addLargestDie_72 : decode cX2_addLargestDie 72 = .ok (.getfield 15, 3) := by decide +kernel
theorem dX2_addLargestDie_75 : decode cX2_addLargestDie 75 = .ok (.iload_n 3, 1) := by decide +kernel
theorem dX2_addLargestDie_76 : decode cX2_addLargestDie 76 = .ok (.iaload, 1) := by decide +kernel
theorem dX2_addLargestDie_77 : decode cX2_addLargestDie 77 = .ok (.iconst 1, 1) := by decide +kernel
theorem dX2_addLargestDie_78 : decode cX2_addLargestDie 78 = .ok (.iadd, 1) := by decide +kernel
theorem dX2_addLargestDie_79 : decode cX2_addLargestDie 79 = .ok (.iastore, 1) := by decide +kernel
theorem dX2_addLargestDie_80 : decode cX2_addLargestDie 80 = .ok (.aload_n 0, 1) := by decide +kernel
theorem dX2_addLargestDie_81 : decode cX2_addLargestDie 81 = .ok (.getfield 18, 3) := by decide +kernel
theorem dX2_addLargestDie_84 : decode cX2_addLargestDie 84 = .ok (.aload_n 0, 1) := by decide +kernel
theorem dX2_addLargestDie_85 : decode cX2_addLargestDie 85 = .ok (.getfield 31, 3) := by decide +kernel
theorem dX2_addLargestDie_88 : decode cX2_addLargestDie 88 = .ok (.iload_n 3, 1) := by decide +kernel
theorem dX2_addLargestDie_89 : decode cX2_addLargestDie 89 = .ok (.iastore, 1) := by decide +kernel
theorem dX2_addLargestDie_90 : decode cX2_addLargestDie 90 = .ok (.aload_n 0, 1) := by decide +kernel
theorem dX2_addLargestDie_91 : decode cX2_addLargestDie 91 = .ok (.getfield 21, 3) := by decide +kernel
theorem dX2_addLargestDie_94 : decode cX2_addLargestDie 94 = .ok (.iload_n 3, 1) := by decide +kernel
theorem dX2_addLargestDie_95 : decode cX2_addLargestDie 95 = .ok (.bipush 6, 2) := by decide +kernel
theorem dX2_addLargestDie_97 : decode cX2_addLargestDie 97 = .ok (.imul, 1) := by decide +kernel
theorem dX2_addLargestDie_98 : decode cX2_addLargestDie 98 = .ok (.iload 4, 2) := by decide +kernel
theorem dX2_addLargestDie_100 : decode cX2_addLargestDie 100 = .ok (.iadd, 1) := by decide +kernel
theorem dX2_addLargestDie_101 : decode cX2_addLargestDie 101 = .ok (.iconst 1, 1) := by decide +kernel
theorem dX2_addLargestDie_102 : decode cX2_addLargestDie 102 = .ok (.isub, 1) := by decide +kernel
theorem dX2_addLargestDie_103 : decode cX2_addLargestDie 103 = .ok (.aload_n 0, 1) := by decide +kernel
theorem dX2_addLargestDie_104 : decode cX2_addLargestDie 104 = .ok (.getfield 31, 3) := by decide +kernel
theorem dX2_addLargestDie_107 : decode cX2_addLargestDie 107 = .ok (.iastore, 1) := by decide +kernel
theorem dX2_addLargestDie_108 : decode cX2_addLargestDie 108 = .ok (.aload_n 0, 1) := by decide +kernel
theorem dX2_addLargestDie_109 : decode cX2_addLargestDie 109 = .ok (.dup, 1) := by decide +kernel
theorem dX2_addLargestDie_110 : decode cX2_addLargestDie 110 = .ok (.getfield 31, 3) := by decide +kernel
theorem dX2_addLargestDie_113 : decode cX2_addLargestDie 113 = .ok (.iconst 1, 1) := by decide +kernel
theorem dX2_addLargestDie_114 : decode cX2_addLargestDie 114 = .ok (.iadd, 1) := by decide +kernel
theorem dX2_addLargestDie_115 : decode cX2_addLargestDie 115 = .ok (.putfield 31, 3) := by decide +kernel
theorem dX2_addLargestDie_118 : decode cX2_addLargestDie 118 = .ok (.iinc 4 1, 3) := by decide +kernel
theorem dX2_addLargestDie_121 : decode cX2_addLargestDie 121 = .ok (.goto (-99), 3) := by decide +kernel
theorem dX2_addLargestDie_124 : decode cX2_addLargestDie 124 = .ok (.iinc 3 1, 3) := by decide +kernel
theorem dX2_addLargestDie_127 : decode cX2_addLargestDie 127 = .ok (.goto (-125), 3) := by decide +kernel
theorem dX2_addLargestDie_130 : decode cX2_addLargestDie 130 = .ok (.return_, 1) := by decide +kernel
theorem dX2_addSmallerDie_0 : decode cX2_addSmallerDie 0 = .ok (.iload_n 1, 1) := by decide +kernel
theorem dX2_addSmallerDie_1 : decode cX2_addSmallerDie 1 = .ok (.istore_n 3, 1) := by decide +kernel
theorem dX2_addSmallerDie_2 : decode cX2_addSmallerDie 2 = .ok (.iload_n 3, 1) := by decide +kernel
theorem dX2_addSmallerDie_3 : decode cX2_addSmallerDie 3 = .ok (.iload_n 2, 1) := by decide +kernel
theorem dX2_addSmallerDie_4 : decode cX2_addSmallerDie 4 = .ok (.if_icmp .ge 72, 3) := by decide +kernel
theorem dX2_addSmallerDie_7 : decode cX2_addSmallerDie 7 = .ok (.aload_n 0, 1) := by decide +kernel
theorem dX2_addSmallerDie_8 : decode cX2_addSmallerDie 8 = .ok (.getfield 9, 3) := by decide +kernel
theorem dX2_addSmallerDie_11 : decode cX2_addSmallerDie 11 = .ok (.iload_n 3, 1) := by decide +kernel
theorem dX2_addSmallerDie_12 : decode cX2_addSmallerDie 12 = .ok (.iaload, 1) := by decide +kernel
theorem dX2_addSmallerDie_13 : decode cX2_addSmallerDie 13 = .ok (.bipush 10, 2) := by decide +kernel
theorem dX2_addSmallerDie_15 : decode cX2_addSmallerDie 15 = .ok (.irem, 1) := by decide +kernel
theorem dX2_addSmallerDie_16 : decode cX2_addSmallerDie 16 = .ok (.istore 4, 2) := by decide +kernel
theorem dX2_addSmallerDie_18 : decode cX2_addSmallerDie 18 = .ok (.iconst 1, 1) := by decide +kernel
theorem dX2_addSmallerDie_19 : decode cX2_addSmallerDie 19 = .ok (.istore 5, 2) := by decide +kernel
theorem dX2_addSmallerDie_21 : decode cX2_addSmallerDie 21 = .ok (.iload 5, 2) := by decide +kernel
theorem dX2_addSmallerDie_23 : decode cX2_addSmallerDie 23 = .ok (.iload 4, 2) := by decide +kernel
theorem dX2_addSmallerDie_25 : decode cX2_addSmallerDie 25 = .ok (.if_icmp .ge 45, 3) := by decide +kernel
theorem dX2_addSmallerDie_28 : decode cX2_addSmallerDie 28 = .ok (.aload_n 0, 1) := by decide +kernel
theorem dX2_addSmallerDie_29 : decode cX2_addSmallerDie 29 = .ok (.aload_n 0, 1) := by decide +kernel
theorem dX2_addSmallerDie_30 : decode cX2_addSmallerDie 30 = .ok (.getfield 18, 3) := by decide +kernel
theorem dX2_addSmallerDie_33 : decode cX2_addSmallerDie 33 = .ok (.iload_n 3, 1) := by decide +kernel
theorem dX2_addSmallerDie_34 : decode cX2_addSmallerDie 34 = .ok (.iaload, 1) := by decide +kernel
theorem dX2_addSmallerDie_35 : decode cX2_addSmallerDie 35 = .ok (.iload 5, 2) := by decide +kernel
theorem dX2_addSmallerDie_37 : decode cX2_addSmallerDie 37 = .ok (.invokevirtual 50, 3) := by decide +kernel
theorem dX2_addSmallerDie_40 : decode cX2_addSmallerDie 40 = .ok (.istore 6, 2) := by decide +kernel
theorem dX2_addSmallerDie_42 : decode cX2_addSmallerDie 42 = .ok (.aload_n 0, 1) := by decide +kernel
theorem dX2_addSmallerDie_43 : decode cX2_addSmallerDie 43 = .ok (.getfield 21, 3) := by decide +kernel
theorem dX2_addSmallerDie_46 : decode cX2_addSmallerDie 46 = .ok (.iload_n 3, 1) := by decide +kernel
theorem dX2_addSmallerDie_47 : decode cX2_addSmallerDie 47 = .ok (.bipush 6, 2) := by decide +kernel
theorem dX2_addSmallerDie_49 : decode cX2_addSmallerDie 49 = .ok (.imul, 1) := by decide +kernel
theorem dX2_addSmallerDie_50 : decode cX2_addSmallerDie 50 = .ok (.iload 5, 2) := by decide +kernel
theorem dX2_addSmallerDie_52 : decode cX2_addSmallerDie 52 = .ok (.iadd, 1) := by decide +kernel
theorem dX2_addSmallerDie_53 : decode cX2_addSmallerDie 53 = .ok (.iconst 1, 1) := by decide +kernel
theorem dX2_addSmallerDie_54 : decode cX2_addSmallerDie 54 = .ok (.isub, 1) := by decide +kernel
theorem dX2_addSmallerDie_55 : decode cX2_addSmallerDie 55 = .ok (.aload_n 0, 1) := by decide +kernel
theorem dX2_addSmallerDie_56 : decode cX2_addSmallerDie 56 = .ok (.iload 6, 2) := by decide +kernel
theorem dX2_addSmallerDie_58 : decode cX2_addSmallerDie 58 = .ok (.iload 4, 2) := by decide +kernel
theorem dX2_addSmallerDie_60 : decode cX2_addSmallerDie 60 = .ok (.invokevirtual 50, 3) := by decide +kernel
theorem dX2_addSmallerDie_63 : decode cX2_addSmallerDie 63 = .ok (.iastore, 1) := by decide +kernel
theorem dX2_addSmallerDie_64 : decode cX2_addSmallerDie 64 = .ok (.iinc 5 1, 3) := by decide +kernel
theorem dX2_addSmallerDie_67 : decode cX2_addSmallerDie 67 = .ok (.goto (-46), 3) := by decide +kernel
theorem dX2_addSmallerDie_70 : decode cX2_addSmallerDie 70 = .ok (.iinc 3 1, 3) := by decide +kernel
theorem dX2_addSmallerDie_73 : decode cX2_addSmallerDie 73 = .ok (.goto (-71), 3) := by decide +kernel
theorem dX2_addSmallerDie_76 : decode cX2_addSmallerDie 76 = .ok (.return_, 1) := by decide +kernel
theorem dX2_wholeCount_0 : decode cX2_wholeCount 0 = .ok (.aload_n 0, 1) := by decide +kernel
theorem dX2_wholeCount_1 : decode cX2_wholeCount 1 = .ok (.getfield 31, 3) := by decide +kernel
theorem dX2_wholeCount_4 : decode cX2_wholeCount 4 = .ok (.aload_n 0, 1) := by decide +kernel
theorem dX2_wholeCount_5 : decode cX2_wholeCount 5 = .ok (.getfield 34, 3) := by decide +kernel
theorem dX2_wholeCount_8 : decode cX2_wholeCount 8 = .ok (.isub, 1) := by decide +kernel
theorem dX2_wholeCount_9 : decode cX2_wholeCount 9 = .ok (.ireturn, 1) := by decide +kernel
theorem dX2_withDie_0 : decode cX2_withDie 0 = .ok (.iload_n 1, 1) := by decide +kernel
theorem dX2_withDie_1 : decode cX2_withDie 1 = .ok (.ifCond .lt 37, 3) := by decide +kernel
theorem dX2_withDie_4 : decode cX2_withDie 4 = .ok (.iload_n 1, 1) := by decide +kernel
theorem dX2_withDie_5 : decode cX2_withDie 5 = .ok (.aload_n 0, 1) := by decide +kernel
theorem dX2_withDie_6 : decode cX2_withDie 6 = .ok (.getfield 31, 3) := by decide +kernel
theorem dX2_withDie_9 : decode cX2_withDie 9 = .ok (.if_icmp .ge 29, 3) := by decide +kernel
theorem dX2_withDie_12 : decode cX2_withDie 12 = .ok (.aload_n 0, 1) := by decide +kernel
theorem dX2_withDie_13 : decode cX2_withDie 13 = .ok (.getfield 15, 3) := by decide +kernel
theorem dX2_withDie_16 : decode cX2_withDie 16 = .ok (.iload_n 1, 1) := by decide +kernel
theorem dX2_withDie_17 : decode cX2_withDie 17 = .ok (.iaload, 1) := by decide +kernel
theorem dX2_withDie_18 : decode cX2_withDie 18 = .ok (.aload_n 0, 1) := by decide +kernel
theorem dX2_withDie_19 : decode cX2_withDie 19 = .ok (.getfield 24, 3) := by decide +kernel
theorem dX2_withDie_22 : decode cX2_withDie 22 = .ok (.if_icmp .ge 16, 3) := by decide +kernel
theorem dX2_withDie_25 : decode cX2_withDie 25 = .ok (.iload_n 2, 1) := by decide +kernel
theorem dX2_withDie_26 : decode cX2_withDie 26 = .ok (.iconst 1, 1) := by decide +kernel
theorem dX2_withDie_27 : decode cX2_withDie 27 = .ok (.if_icmp .lt 11, 3) := by decide +kernel
theorem dX2_withDie_30 : decode cX2_withDie 30 = .ok (.iload_n 2, 1) := by decide +kernel
theorem dX2_withDie_31 : decode cX2_withDie 31 = .ok (.aload_n 0, 1) := by decide +kernel
theorem dX2_withDie_32 : decode cX2_withDie 32 = .ok (.getfield 28, 3) := by decide +kernel
theorem dX2_withDie_35 : decode cX2_withDie 35 = .ok (.if_icmp .le 5, 3) := by decide +kernel
theorem dX2_withDie_38 : decode cX2_withDie 38 = .ok (.iload_n 1, 1) := by decide +kernel
theorem dX2_withDie_39 : decode cX2_withDie 39 = .ok (.ireturn, 1) := by decide +kernel
theorem dX2_withDie_40 : decode cX2_withDie 40 = .ok (.aload_n 0, 1) := by decide +kernel
theorem dX2_withDie_41 : decode cX2_withDie 41 = .ok (.getfield 21, 3) := by decide +kernel
theorem dX2_withDie_44 : decode cX2_withDie 44 = .ok (.iload_n 1, 1) := by decide +kernel
theorem dX2_withDie_45 : decode cX2_withDie 45 = .ok (.bipush 6, 2) := by decide +kernel
theorem dX2_withDie_47 : decode cX2_withDie 47 = .ok (.imul, 1) := by decide +kernel
theorem dX2_withDie_48 : decode cX2_withDie 48 = .ok (.iload_n 2, 1) := by decide +kernel
theorem dX2_withDie_49 : decode cX2_withDie 49 = .ok (.iadd, 1) := by decide +kernel
theorem dX2_withDie_50 : decode cX2_withDie 50 = .ok (.iconst 1, 1) := by decide +kernel
theorem dX2_withDie_51 : decode cX2_withDie 51 = .ok (.isub, 1) := by decide +kernel
theorem dX2_withDie_52 : decode cX2_withDie 52 = .ok (.iaload, 1) := by decide +kernel
theorem dX2_withDie_53 : decode cX2_withDie 53 = .ok (.ireturn, 1) := by decide +kernel
theorem dX2_joined_0 : decode cX2_joined 0 = .ok (.iload_n 1, 1) := by decide +kernel
theorem dX2_joined_1 : decode cX2_joined 1 = .ok (.istore 4, 2) := by decide +kernel
theorem dX2_joined_3 : decode cX2_joined 3 = .ok (.iload_n 2, 1) := by decide +kernel
theorem dX2_joined_4 : decode cX2_joined 4 = .ok (.istore 5, 2) := by decide +kernel
theorem dX2_joined_6 : decode cX2_joined 6 = .ok (.iconst 0, 1) := by decide +kernel
theorem dX2_joined_7 : decode cX2_joined 7 = .ok (.istore 6, 2) := by decide +kernel
theorem dX2_joined_9 : decode cX2_joined 9 = .ok (.iload 6, 2) := by decide +kernel
theorem dX2_joined_11 : decode cX2_joined 11 = .ok (.iload_n 3, 1) := by decide +kernel
theorem dX2_joined_12 : decode cX2_joined 12 = .ok (.if_icmp .ge 66, 3) := by decide +kernel
theorem dX2_joined_15 : decode cX2_joined 15 = .ok (.iload 5, 2) := by decide +kernel
theorem dX2_joined_17 : decode cX2_joined 17 = .ok (.bipush 10, 2) := by decide +kernel
theorem dX2_joined_19 : decode cX2_joined 19 = .ok (.irem, 1) := by decide +kernel
theorem dX2_joined_20 : decode cX2_joined 20 = .ok (.istore 7, 2) := by decide +kernel
theorem dX2_joined_22 : decode cX2_joined 22 = .ok (.iload 7, 2) := by decide +kernel
theorem dX2_joined_24 : decode cX2_joined 24 = .ok (.iconst 1, 1) := by decide +kernel
theorem dX2_joined_25 : decode cX2_joined 25 = .ok (.if_icmp .lt 28, 3) := by decide +kernel
theorem dX2_joined_28 : decode cX2_joined 28 = .ok (.iload 7, 2) := by decide +kernel
theorem dX2_joined_30 : decode cX2_joined 30 = .ok (.aload_n 0, 1) := by decide +kernel
theorem dX2_joined_31 : decode cX2_joined 31 = .ok (.getfield 28, 3) := by decide +kernel
theorem dX2_joined_34 : decode cX2_joined 34 = .ok (.if_icmp .gt 19, 3) := by decide +kernel
theorem dX2_joined_37 : decode cX2_joined 37 = .ok (.aload_n 0, 1) := by decide +kernel
theorem dX2_joined_38 : decode cX2_joined 38 = .ok (.getfield 15, 3) := by decide +kernel
theorem dX2_joined_41 : decode cX2_joined 41 = .ok (.iload 4, 2) := by decide +kernel
theorem dX2_joined_43 : decode cX2_joined 43 = .ok (.invokestatic 53, 3) := by decide +kernel
theorem dX2_joined_46 : decode cX2_joined 46 = .ok (.aload_n 0, 1) := by decide +kernel
theorem dX2_joined_47 : decode cX2_joined 47 = .ok (.getfield 24, 3) := by decide +kernel
theorem dX2_joined_50 : decode cX2_joined 50 = .ok (.if_icmp .lt 5, 3) := by decide +kernel
theorem dX2_joined_53 : decode cX2_joined 53 = .ok (.iconst (-1), 1) := by decide +kernel
theorem dX2_joined_54 : decode cX2_joined 54 = .ok (.ireturn, 1) := by decide +kernel
theorem dX2_joined_55 : decode cX2_joined 55 = .ok (.aload_n 0, 1) := by decide +kernel
theorem dX2_joined_56 : decode cX2_joined 56 = .ok (.iload 4, 2) := by decide +kernel
theorem dX2_joined_58 : decode cX2_joined 58 = .ok (.iload 7, 2) := by decide +kernel
theorem dX2_joined_60 : decode cX2_joined 60 = .ok (.invokevirtual 50, 3) := by decide +kernel
theorem dX2_joined_63 : decode cX2_joined 63 = .ok (.istore 4, 2) := by decide +kernel
theorem dX2_joined_65 : decode cX2_joined 65 = .ok (.iload 5, 2) := by decide +kernel
theorem dX2_joined_67 : decode cX2_joined 67 = .ok (.bipush 10, 2) := by decide +kernel
theorem dX2_joined_69 : decode cX2_joined 69 = .ok (.idiv, 1) := by decide +kernel
theorem dX2_joined_70 : decode cX2_joined 70 = .ok (.istore 5, 2) := by decide +kernel
theorem dX2_joined_72 : decode cX2_joined 72 = .ok (.iinc 6 1, 3) := by decide +kernel
theorem dX2_joined_75 : decode cX2_joined 75 = .ok (.goto (-66), 3) := by decide +kernel
theorem dX2_joined_78 : decode cX2_joined 78 = .ok (.iload 5, 2) := by decide +kernel
theorem dX2_joined_80 : decode cX2_joined 80 = .ok (.ifCond .ne 8, 3) := by decide +kernel
theorem dX2_joined_83 : decode cX2_joined 83 = .ok (.iload 4, 2) := by decide +kernel
theorem dX2_joined_85 : decode cX2_joined 85 = .ok (.goto 4, 3) := by decide +kernel
theorem dX2_joined_88 : decode cX2_joined 88 = .ok (.iconst (-1), 1) := by decide +kernel
theorem dX2_joined_89 : decode cX2_joined 89 = .ok (.ireturn, 1) := by decide +kernel
theorem dX2_partOf_0 : decode cX2_partOf 0 = .ok (.aload_n 0, 1) := by decide +kernel
theorem dX2_partOf_1 : decode cX2_partOf 1 = .ok (.iconst 0, 1) := by decide +kernel
theorem dX2_partOf_2 : decode cX2_partOf 2 = .ok (.iload_n 2, 1) := by decide +kernel
theorem dX2_partOf_3 : decode cX2_partOf 3 = .ok (.iload_n 2, 1) := by decide +kernel
theorem dX2_partOf_4 : decode cX2_partOf 4 = .ok (.invokestatic 57, 3) := by decide +kernel
theorem dX2_partOf_7 : decode cX2_partOf 7 = .ok (.invokevirtual 61, 3) := by decide +kernel
theorem dX2_partOf_10 : decode cX2_partOf 10 = .ok (.istore_n 3, 1) := by decide +kernel
theorem dX2_partOf_11 : decode cX2_partOf 11 = .ok (.iload_n 3, 1) := by decide +kernel
theorem dX2_partOf_12 : decode cX2_partOf 12 = .ok (.iconst (-1), 1) := by decide +kernel
theorem dX2_partOf_13 : decode cX2_partOf 13 = .ok (.if_icmp .eq 16, 3) := by decide +kernel
theorem dX2_partOf_16 : decode cX2_partOf 16 = .ok (.aload_n 0, 1) := by decide +kernel
theorem dX2_partOf_17 : decode cX2_partOf 17 = .ok (.iload_n 1, 1) := by decide +kernel
theorem dX2_partOf_18 : decode cX2_partOf 18 = .ok (.iload_n 3, 1) := by decide +kernel
theorem dX2_partOf_19 : decode cX2_partOf 19 = .ok (.invokevirtual 65, 3) := by decide +kernel
theorem dX2_partOf_22 : decode cX2_partOf 22 = .ok (.ifCond .eq 7, 3) := by decide +kernel
theorem dX2_partOf_25 : decode cX2_partOf 25 = .ok (.iload_n 3, 1) := by decide +kernel
theorem dX2_partOf_26 : decode cX2_partOf 26 = .ok (.goto 4, 3) := by decide +kernel
theorem dX2_partOf_29 : decode cX2_partOf 29 = .ok (.iconst (-1), 1) := by decide +kernel
theorem dX2_partOf_30 : decode cX2_partOf 30 = .ok (.ireturn, 1) := by decide +kernel
theorem dX2_figuresOf_0 : decode cX2_figuresOf 0 = .ok (.iconst 0, 1) := by decide +kernel
theorem dX2_figuresOf_1 : decode cX2_figuresOf 1 = .ok (.istore_n 1, 1) := by decide +kernel
theorem dX2_figuresOf_2 : decode cX2_figuresOf 2 = .ok (.iload_n 0, 1) := by decide +kernel
theorem dX2_figuresOf_3 : decode cX2_figuresOf 3 = .ok (.istore_n 2, 1) := by decide +kernel
theorem dX2_figuresOf_4 : decode cX2_figuresOf 4 = .ok (.iconst 0, 1) := by decide +kernel
theorem dX2_figuresOf_5 : decode cX2_figuresOf 5 = .ok (.istore_n 3, 1) := by decide +kernel
theorem dX2_figuresOf_6 : decode cX2_figuresOf 6 = .ok (.iload_n 3, 1) := by decide +kernel
theorem dX2_figuresOf_7 : decode cX2_figuresOf 7 = .ok (.bipush 10, 2) := by decide +kernel
theorem dX2_figuresOf_9 : decode cX2_figuresOf 9 = .ok (.if_icmp .ge 21, 3) := by decide +kernel
theorem dX2_figuresOf_12 : decode cX2_figuresOf 12 = .ok (.iload_n 2, 1) := by decide +kernel
theorem dX2_figuresOf_13 : decode cX2_figuresOf 13 = .ok (.ifCond .eq 17, 3) := by decide +kernel
theorem dX2_figuresOf_16 : decode cX2_figuresOf 16 = .ok (.iload_n 2, 1) := by decide +kernel
theorem dX2_figuresOf_17 : decode cX2_figuresOf 17 = .ok (.bipush 10, 2) := by decide +kernel
theorem dX2_figuresOf_19 : decode cX2_figuresOf 19 = .ok (.idiv, 1) := by decide +kernel
theorem dX2_figuresOf_20 : decode cX2_figuresOf 20 = .ok (.istore_n 2, 1) := by decide +kernel
theorem dX2_figuresOf_21 : decode cX2_figuresOf 21 = .ok (.iinc 1 1, 3) := by decide +kernel
theorem dX2_figuresOf_24 : decode cX2_figuresOf 24 = .ok (.iinc 3 1, 3) := by decide +kernel
theorem dX2_figuresOf_27 : decode cX2_figuresOf 27 = .ok (.goto (-21), 3) := by decide +kernel
theorem dX2_figuresOf_30 : decode cX2_figuresOf 30 = .ok (.iload_n 1, 1) := by decide +kernel
theorem dX2_figuresOf_31 : decode cX2_figuresOf 31 = .ok (.ireturn, 1) := by decide +kernel
theorem dX2_holdsAll_0 : decode cX2_holdsAll 0 = .ok (.aload_n 0, 1) := by decide +kernel
theorem dX2_holdsAll_1 : decode cX2_holdsAll 1 = .ok (.getfield 9, 3) := by decide +kernel
theorem dX2_holdsAll_4 : decode cX2_holdsAll 4 = .ok (.iload_n 2, 1) := by decide +kernel
theorem dX2_holdsAll_5 : decode cX2_holdsAll 5 = .ok (.invokestatic 53, 3) := by decide +kernel
theorem dX2_holdsAll_8 : decode cX2_holdsAll 8 = .ok (.istore_n 3, 1) := by decide +kernel
theorem dX2_holdsAll_9 : decode cX2_holdsAll 9 = .ok (.aload_n 0, 1) := by decide +kernel
theorem dX2_holdsAll_10 : decode cX2_holdsAll 10 = .ok (.getfield 9, 3) := by decide +kernel
theorem dX2_holdsAll_13 : decode cX2_holdsAll 13 = .ok (.iload_n 1, 1) := by decide +kernel
theorem dX2_holdsAll_14 : decode cX2_holdsAll 14 = .ok (.invokestatic 53, 3) := by decide +kernel
theorem dX2_holdsAll_17 : decode cX2_holdsAll 17 = .ok (.istore 4, 2) := by decide +kernel
theorem dX2_holdsAll_19 : decode cX2_holdsAll 19 = .ok (.iconst 0, 1) := by decide +kernel
theorem dX2_holdsAll_20 : decode cX2_holdsAll 20 = .ok (.istore 5, 2) := by decide +kernel
theorem dX2_holdsAll_22 : decode cX2_holdsAll 22 = .ok (.iload 5, 2) := by decide +kernel
theorem dX2_holdsAll_24 : decode cX2_holdsAll 24 = .ok (.iconst 5, 1) := by decide +kernel
theorem dX2_holdsAll_25 : decode cX2_holdsAll 25 = .ok (.if_icmp .ge 37, 3) := by decide +kernel
theorem dX2_holdsAll_28 : decode cX2_holdsAll 28 = .ok (.iload_n 3, 1) := by decide +kernel
theorem dX2_holdsAll_29 : decode cX2_holdsAll 29 = .ok (.ifCond .eq 33, 3) := by decide +kernel
theorem dX2_holdsAll_32 : decode cX2_holdsAll 32 = .ok (.iload 4, 2) := by decide +kernel
theorem dX2_holdsAll_34 : decode cX2_holdsAll 34 = .ok (.bipush 10, 2) := by decide +kernel
theorem dX2_holdsAll_36 : decode cX2_holdsAll 36 = .ok (.irem, 1) := by decide +kernel
theorem dX2_holdsAll_37 : decode cX2_holdsAll 37 = .ok (.iload_n 3, 1) := by decide +kernel
theorem dX2_holdsAll_38 : decode cX2_holdsAll 38 = .ok (.bipush 10, 2) := by decide +kernel
theorem dX2_holdsAll_40 : decode cX2_holdsAll 40 = .ok (.irem, 1) := by decide +kernel
theorem dX2_holdsAll_41 : decode cX2_holdsAll 41 = .ok (.if_icmp .ne 8, 3) := by decide +kernel
theorem dX2_holdsAll_44 : decode cX2_holdsAll 44 = .ok (.iload_n 3, 1) := by decide +kernel
theorem dX2_holdsAll_45 : decode cX2_holdsAll 45 = .ok (.bipush 10, 2) := by decide +kernel
theorem dX2_holdsAll_47 : decode cX2_holdsAll 47 = .ok (.idiv, 1) := by decide +kernel
theorem dX2_holdsAll_48 : decode cX2_holdsAll 48 = .ok (.istore_n 3, 1) := by decide +kernel
theorem dX2_holdsAll_49 : decode cX2_holdsAll 49 = .ok (.iload 4, 2) := by decide +kernel
theorem dX2_holdsAll_51 : decode cX2_holdsAll 51 = .ok (.bipush 10, 2) := by decide +kernel
theorem dX2_holdsAll_53 : decode cX2_holdsAll 53 = .ok (.idiv, 1) := by decide +kernel
theorem dX2_holdsAll_54 : decode cX2_holdsAll 54 = .ok (.istore 4, 2) := by decide +kernel
theorem dX2_holdsAll_56 : decode cX2_holdsAll 56 = .ok (.iinc 5 1, 3) := by decide +kernel
theorem dX2_holdsAll_59 : decode cX2_holdsAll 59 = .ok (.goto (-37), 3) := by decide +kernel
theorem dX2_holdsAll_62 : decode cX2_holdsAll 62 = .ok (.iload_n 3, 1) := by decide +kernel
theorem dX2_holdsAll_63 : decode cX2_holdsAll 63 = .ok (.ifCond .ne 7, 3) := by decide +kernel
theorem dX2_holdsAll_66 : decode cX2_holdsAll 66 = .ok (.iconst 1, 1) := by decide +kernel
theorem dX2_holdsAll_67 : decode cX2_holdsAll 67 = .ok (.goto 4, 3) := by decide +kernel
theorem dX2_holdsAll_70 : decode cX2_holdsAll 70 = .ok (.iconst 0, 1) := by decide +kernel
theorem dX2_holdsAll_71 : decode cX2_holdsAll 71 = .ok (.ireturn, 1) := by decide +kernel
theorem dX3_init_0 : decode cX3_init 0 = .ok (.aload_n 0, 1) := by decide +kernel
theorem dX3_init_1 : decode cX3_init 1 = .ok (.invokespecial 1, 3) := by decide +kernel
theorem dX3_init_4 : decode cX3_init 4 = .ok (.aload_n 0, 1) := by decide +kernel
theorem dX3_init_5 : decode cX3_init 5 = .ok (.iconst 0, 1) := by decide +kernel
theorem dX3_init_6 : decode cX3_init 6 = .ok (.putfield 7, 3) := by decide +kernel
theorem dX3_init_9 : decode cX3_init 9 = .ok (.aload_n 0, 1) := by decide +kernel
theorem dX3_init_10 : decode cX3_init 10 = .ok (.iconst 1, 1) := by decide +kernel
theorem dX3_init_11 : decode cX3_init 11 = .ok (.putfield 13, 3) := by decide +kernel
theorem dX3_init_14 : decode cX3_init 14 = .ok (.aload_n 0, 1) := by decide +kernel
theorem dX3_init_15 : decode cX3_init 15 = .ok (.iconst 0, 1) := by decide +kernel
theorem dX3_init_16 : decode cX3_init 16 = .ok (.putfield 16, 3) := by decide +kernel
theorem dX3_init_19 : decode cX3_init 19 = .ok (.aload_n 0, 1) := by decide +kernel
theorem dX3_init_20 : decode cX3_init 20 = .ok (.iconst 0, 1) := by decide +kernel
theorem dX3_init_21 : decode cX3_init 21 = .ok (.putfield 19, 3) := by decide +kernel
theorem dX3_init_24 : decode cX3_init 24 = .ok (.return_, 1) := by decide +kernel
theorem dX3_become_0 : decode cX3_become 0 = .ok (.aload_n 0, 1) := by decide +kernel
theorem dX3_become_1 : decode cX3_become 1 = .ok (.iload_n 1, 1) := by decide +kernel
theorem dX3_become_2 : decode cX3_become 2 = .ok (.putfield 7, 3) := by decide +kernel
theorem dX3_become_5 : decode cX3_become 5 = .ok (.aload_n 0, 1) := by decide +kernel
theorem dX3_become_6 : decode cX3_become 6 = .ok (.iload_n 2, 1) := by decide +kernel
theorem dX3_become_7 : decode cX3_become 7 = .ok (.putfield 13, 3) := by decide +kernel
theorem dX3_become_10 : decode cX3_become 10 = .ok (.aload_n 0, 1) := by decide +kernel
theorem dX3_become_11 : decode cX3_become 11 = .ok (.iload_n 3, 1) := by decide +kernel
theorem dX3_become_12 : decode cX3_become 12 = .ok (.putfield 16, 3) := by decide +kernel
theorem dX3_become_15 : decode cX3_become 15 = .ok (.return_, 1) := by decide +kernel
theorem dX3_pointsOf_0 : decode cX3_pointsOf 0 = .ok (.aload_n 0, 1) := by decide +kernel
theorem dX3_pointsOf_1 : decode cX3_pointsOf 1 = .ok (.getfield 7, 3) := by decide +kernel
theorem dX3_pointsOf_4 : decode cX3_pointsOf 4 = .ok (.tableswitch 132 0 4 #[36, 50, 70, 90, 111], 36) := by decide +kernel
theorem dX3_pointsOf_40 : decode cX3_pointsOf 40 = .ok (.aload_n 0, 1) := by decide +kernel
theorem dX3_pointsOf_41 : decode cX3_pointsOf 41 = .ok (.getfield 13, 3) := by decide +kernel
theorem dX3_pointsOf_44 : decode cX3_pointsOf 44 = .ok (.aload_n 1, 1) := by decide +kernel
theorem dX3_pointsOf_45 : decode cX3_pointsOf 45 = .ok (.aload_n 0, 1) := by decide +kernel
theorem dX3_pointsOf_46 : decode cX3_pointsOf 46 = .ok (.getfield 13, 3) := by decide +kernel
theorem dX3_pointsOf_49 : decode cX3_pointsOf 49 = .ok (.invokevirtual 22, 3) := by decide +kernel
theorem dX3_pointsOf_52 : decode cX3_pointsOf 52 = .ok (.imul, 1) := by decide +kernel
theorem dX3_pointsOf_53 : decode cX3_pointsOf 53 = .ok (.ireturn, 1) := by decide +kernel
theorem dX3_pointsOf_54 : decode cX3_pointsOf 54 = .ok (.aload_n 1, 1) := by decide +kernel
theorem dX3_pointsOf_55 : decode cX3_pointsOf 55 = .ok (.invokevirtual 28, 3) := by decide +kernel
theorem dX3_pointsOf_58 : decode cX3_pointsOf 58 = .ok (.aload_n 0, 1) := by decide +kernel
theorem dX3_pointsOf_59 : decode cX3_pointsOf 59 = .ok (.getfield 13, 3) := by decide +kernel
theorem dX3_pointsOf_62 : decode cX3_pointsOf 62 = .ok (.if_icmp .lt 10, 3) := by decide +kernel
theorem dX3_pointsOf_65 : decode cX3_pointsOf 65 = .ok (.aload_n 1, 1) := by decide +kernel
theorem dX3_pointsOf_66 : decode cX3_pointsOf 66 = .ok (.invokevirtual 32, 3) := by decide +kernel
theorem dX3_pointsOf_69 : decode cX3_pointsOf 69 = .ok (.goto 4, 3) := by decide +kernel
theorem dX3_pointsOf_72 : decode cX3_pointsOf 72 = .ok (.iconst 0, 1) := by decide +kernel
theorem dX3_pointsOf_73 : decode cX3_pointsOf 73 = .ok (.ireturn, 1) := by decide +kernel
theorem dX3_pointsOf_74 : decode cX3_pointsOf 74 = .ok (.aload_n 1, 1) := by decide +kernel
theorem dX3_pointsOf_75 : decode cX3_pointsOf 75 = .ok (.invokevirtual 35, 3) := by decide +kernel
theorem dX3_pointsOf_78 : decode cX3_pointsOf 78 = .ok (.aload_n 0, 1) := by decide +kernel
theorem dX3_pointsOf_79 : decode cX3_pointsOf 79 = .ok (.getfield 13, 3) := by decide +kernel
theorem dX3_pointsOf_82 : decode cX3_pointsOf 82 = .ok (.if_icmp .lt 10, 3) := by decide +kernel
theorem dX3_pointsOf_85 : decode cX3_pointsOf 85 = .ok (.aload_n 0, 1) := by decide +kernel
theorem dX3_pointsOf_86 : decode cX3_pointsOf 86 = .ok (.getfield 16, 3) := by decide +kernel
theorem dX3_pointsOf_89 : decode cX3_pointsOf 89 = .ok (.goto 4, 3) := by decide +kernel
theorem dX3_pointsOf_92 : decode cX3_pointsOf 92 = .ok (.iconst 0, 1) := by decide +kernel
theorem dX3_pointsOf_93 : decode cX3_pointsOf 93 = .ok (.ireturn, 1) := by decide +kernel
theorem dX3_pointsOf_94 : decode cX3_pointsOf 94 = .ok (.aload_n 1, 1) := by decide +kernel
theorem dX3_pointsOf_95 : decode cX3_pointsOf 95 = .ok (.iconst 2, 1) := by decide +kernel
theorem dX3_pointsOf_96 : decode cX3_pointsOf 96 = .ok (.invokevirtual 38, 3) := by decide +kernel
theorem dX3_pointsOf_99 : decode cX3_pointsOf 99 = .ok (.aload_n 0, 1) := by decide +kernel
theorem dX3_pointsOf_100 : decode cX3_pointsOf 100 = .ok (.getfield 13, 3) := by decide +kernel
theorem dX3_pointsOf_103 : decode cX3_pointsOf 103 = .ok (.if_icmp .lt 10, 3) := by decide +kernel
theorem dX3_pointsOf_106 : decode cX3_pointsOf 106 = .ok (.aload_n 0, 1) := by decide +kernel
theorem dX3_pointsOf_107 : decode cX3_pointsOf 107 = .ok (.getfield 16, 3) := by decide +kernel
theorem dX3_pointsOf_110 : decode cX3_pointsOf 110 = .ok (.goto 4, 3) := by decide +kernel
theorem dX3_pointsOf_113 : decode cX3_pointsOf 113 = .ok (.iconst 0, 1) := by decide +kernel
theorem dX3_pointsOf_114 : decode cX3_pointsOf 114 = .ok (.ireturn, 1) := by decide +kernel
theorem dX3_pointsOf_115 : decode cX3_pointsOf 115 = .ok (.aload_n 1, 1) := by decide +kernel
theorem dX3_pointsOf_116 : decode cX3_pointsOf 116 = .ok (.iconst 1, 1) := by decide +kernel
theorem dX3_pointsOf_117 : decode cX3_pointsOf 117 = .ok (.invokevirtual 38, 3) := by decide +kernel
theorem dX3_pointsOf_120 : decode cX3_pointsOf 120 = .ok (.aload_n 0, 1) := by decide +kernel
theorem dX3_pointsOf_121 : decode cX3_pointsOf 121 = .ok (.getfield 13, 3) := by decide +kernel
theorem dX3_pointsOf_124 : decode cX3_pointsOf 124 = .ok (.if_icmp .ne 10, 3) := by decide +kernel
theorem dX3_pointsOf_127 : decode cX3_pointsOf 127 = .ok (.aload_n 0, 1) := by decide +kernel
theorem dX3_pointsOf_128 : decode cX3_pointsOf 128 = .ok (.getfield 16, 3) := by decide +kernel
theorem dX3_pointsOf_131 : decode cX3_pointsOf 131 = .ok (.goto 4, 3) := by decide +kernel
theorem dX3_pointsOf_134 : decode cX3_pointsOf 134 = .ok (.iconst 0, 1) := by decide +kernel
theorem dX3_pointsOf_135 : decode cX3_pointsOf 135 = .ok (.ireturn, 1) := by decide +kernel
theorem dX3_pointsOf_136 : decode cX3_pointsOf 136 = .ok (.aload_n 1, 1) := by decide +kernel
theorem dX3_pointsOf_137 : decode cX3_pointsOf 137 = .ok (.invokevirtual 32, 3) := by decide +kernel
theorem dX3_pointsOf_140 : decode cX3_pointsOf 140 = .ok (.aload_n 0, 1) := by decide +kernel
theorem dX3_pointsOf_141 : decode cX3_pointsOf 141 = .ok (.getfield 16, 3) := by decide +kernel
theorem dX3_pointsOf_144 : decode cX3_pointsOf 144 = .ok (.iadd, 1) := by decide +kernel
theorem dX3_pointsOf_145 : decode cX3_pointsOf 145 = .ok (.ireturn, 1) := by decide +kernel
theorem dX4_init_0 : decode cX4_init 0 = .ok (.aload_n 0, 1) := by decide +kernel
theorem dX4_init_1 : decode cX4_init 1 = .ok (.invokespecial 3, 3) := by decide +kernel
theorem dX4_init_4 : decode cX4_init 4 = .ok (.aload_n 0, 1) := by decide +kernel
theorem dX4_init_5 : decode cX4_init 5 = .ok (.bipush 7, 2) := by decide +kernel
theorem dX4_init_7 : decode cX4_init 7 = .ok (.newarray .int, 2) := by decide +kernel
theorem dX4_init_9 : decode cX4_init 9 = .ok (.putfield 9, 3) := by decide +kernel
theorem dX4_init_12 : decode cX4_init 12 = .ok (.return_, 1) := by decide +kernel
theorem dX4_read_0 : decode cX4_read 0 = .ok (.aload_n 0, 1) := by decide +kernel
theorem dX4_read_1 : decode cX4_read 1 = .ok (.getfield 9, 3) := by decide +kernel
theorem dX4_read_4 : decode cX4_read 4 = .ok (.iconst 0, 1) := by decide +kernel
theorem dX4_read_5 : decode cX4_read 5 = .ok (.invokestatic 15, 3) := by decide +kernel
theorem dX4_read_8 : decode cX4_read 8 = .ok (.iload_n 1, 1) := by decide +kernel
theorem dX4_read_9 : decode cX4_read 9 = .ok (.istore 4, 2) := by decide +kernel
theorem dX4_read_11 : decode cX4_read 11 = .ok (.iconst 0, 1) := by decide +kernel
theorem dX4_read_12 : decode cX4_read 12 = .ok (.istore 5, 2) := by decide +kernel
theorem dX4_read_14 : decode cX4_read 14 = .ok (.iload 5, 2) := by decide +kernel
theorem dX4_read_16 : decode cX4_read 16 = .ok (.iload_n 2, 1) := by decide +kernel
theorem dX4_read_17 : decode cX4_read 17 = .ok (.if_icmp .ge 48, 3) := by decide +kernel
theorem dX4_read_20 : decode cX4_read 20 = .ok (.iload 4, 2) := by decide +kernel
theorem dX4_read_22 : decode cX4_read 22 = .ok (.bipush 10, 2) := by decide +kernel
theorem dX4_read_24 : decode cX4_read 24 = .ok (.irem, 1) := by decide +kernel
theorem dX4_read_25 : decode cX4_read 25 = .ok (.istore 6, 2) := by decide +kernel
theorem dX4_read_27 : decode cX4_read 27 = .ok (.iload 6, 2) := by decide +kernel
theorem dX4_read_29 : decode cX4_read 29 = .ok (.iconst 1, 1) := by decide +kernel
theorem dX4_read_30 : decode cX4_read 30 = .ok (.if_icmp .lt 9, 3) := by decide +kernel
theorem dX4_read_33 : decode cX4_read 33 = .ok (.iload 6, 2) := by decide +kernel
theorem dX4_read_35 : decode cX4_read 35 = .ok (.iload_n 3, 1) := by decide +kernel
theorem dX4_read_36 : decode cX4_read 36 = .ok (.if_icmp .le 5, 3) := by decide +kernel
theorem dX4_read_39 : decode cX4_read 39 = .ok (.iconst 0, 1) := by decide +kernel
theorem dX4_read_40 : decode cX4_read 40 = .ok (.ireturn, 1) := by decide +kernel
theorem dX4_read_41 : decode cX4_read 41 = .ok (.aload_n 0, 1) := by decide +kernel
theorem dX4_read_42 : decode cX4_read 42 = .ok (.getfield 9, 3) := by decide +kernel
theorem dX4_read_45 : decode cX4_read 45 = .ok (.iload 6, 2) := by decide +kernel
theorem dX4_read_47 : decode cX4_read 47 = .ok (.dup2, 1) := by decide +kernel
theorem dX4_read_48 : decode cX4_read 48 = .ok (.iaload, 1) := by decide +kernel
theorem dX4_read_49 : decode cX4_read 49 = .ok (.iconst 1, 1) := by decide +kernel
theorem dX4_read_50 : decode cX4_read 50 = .ok (.iadd, 1) := by decide +kernel
theorem dX4_read_51 : decode cX4_read 51 = .ok (.iastore, 1) := by decide +kernel
theorem dX4_read_52 : decode cX4_read 52 = .ok (.iload 4, 2) := by decide +kernel
theorem dX4_read_54 : decode cX4_read 54 = .ok (.bipush 10, 2) := by decide +kernel
theorem dX4_read_56 : decode cX4_read 56 = .ok (.idiv, 1) := by decide +kernel
theorem dX4_read_57 : decode cX4_read 57 = .ok (.istore 4, 2) := by decide +kernel
theorem dX4_read_59 : decode cX4_read 59 = .ok (.iinc 5 1, 3) := by decide +kernel
theorem dX4_read_62 : decode cX4_read 62 = .ok (.goto (-48), 3) := by decide +kernel
theorem dX4_read_65 : decode cX4_read 65 = .ok (.iload 4, 2) := by decide +kernel
theorem dX4_read_67 : decode cX4_read 67 = .ok (.ifCond .ne 7, 3) := by decide +kernel
theorem dX4_read_70 : decode cX4_read 70 = .ok (.iconst 1, 1) := by decide +kernel
theorem dX4_read_71 : decode cX4_read 71 = .ok (.goto 4, 3) := by decide +kernel
theorem dX4_read_74 : decode cX4_read 74 = .ok (.iconst 0, 1) := by decide +kernel
theorem dX4_read_75 : decode cX4_read 75 = .ok (.ireturn, 1) := by decide +kernel
theorem dX4_showing_0 : decode cX4_showing 0 = .ok (.iload_n 1, 1) := by decide +kernel
theorem dX4_showing_1 : decode cX4_showing 1 = .ok (.iconst 1, 1) := by decide +kernel
theorem dX4_showing_2 : decode cX4_showing 2 = .ok (.if_icmp .lt 18, 3) := by decide +kernel
theorem dX4_showing_5 : decode cX4_showing 5 = .ok (.iload_n 1, 1) := by decide +kernel
theorem dX4_showing_6 : decode cX4_showing 6 = .ok (.bipush 6, 2) := by decide +kernel
theorem dX4_showing_8 : decode cX4_showing 8 = .ok (.if_icmp .gt 12, 3) := by decide +kernel
theorem dX4_showing_11 : decode cX4_showing 11 = .ok (.aload_n 0, 1) := by decide +kernel
theorem dX4_showing_12 : decode cX4_showing 12 = .ok (.getfield 9, 3) := by decide +kernel
theorem dX4_showing_15 : decode cX4_showing 15 = .ok (.iload_n 1, 1) := by decide +kernel
theorem dX4_showing_16 : decode cX4_showing 16 = .ok (.iaload, 1) := by decide +kernel
theorem dX4_showing_17 : decode cX4_showing 17 = .ok (.goto 4, 3) := by decide +kernel
theorem dX4_showing_20 : decode cX4_showing 20 = .ok (.iconst 0, 1) := by decide +kernel
theorem dX4_showing_21 : decode cX4_showing 21 = .ok (.ireturn, 1) := by decide +kernel
theorem dX4_total_0 : decode cX4_total 0 = .ok (.iconst 0, 1) := by decide +kernel
theorem dX4_total_1 : decode cX4_total 1 = .ok (.istore_n 1, 1) := by decide +kernel
theorem dX4_total_2 : decode cX4_total 2 = .ok (.iconst 1, 1) := by decide +kernel
theorem dX4_total_3 : decode cX4_total 3 = .ok (.istore_n 2, 1) := by decide +kernel
theorem dX4_total_4 : decode cX4_total 4 = .ok (.iload_n 2, 1) := by decide +kernel
theorem dX4_total_5 : decode cX4_total 5 = .ok (.bipush 6, 2) := by decide +kernel
theorem dX4_total_7 : decode cX4_total 7 = .ok (.if_icmp .gt 20, 3) := by decide +kernel
theorem dX4_total_10 : decode cX4_total 10 = .ok (.iload_n 1, 1) := by decide +kernel
theorem dX4_total_11 : decode cX4_total 11 = .ok (.iload_n 2, 1) := by decide +kernel
theorem dX4_total_12 : decode cX4_total 12 = .ok (.aload_n 0, 1) := by decide +kernel
theorem dX4_total_13 : decode cX4_total 13 = .ok (.getfield 9, 3) := by decide +kernel
theorem dX4_total_16 : decode cX4_total 16 = .ok (.iload_n 2, 1) := by decide +kernel
theorem dX4_total_17 : decode cX4_total 17 = .ok (.iaload, 1) := by decide +kernel
theorem dX4_total_18 : decode cX4_total 18 = .ok (.imul, 1) := by decide +kernel
theorem dX4_total_19 : decode cX4_total 19 = .ok (.iadd, 1) := by decide +kernel
theorem dX4_total_20 : decode cX4_total 20 = .ok (.istore_n 1, 1) := by decide +kernel
theorem dX4_total_21 : decode cX4_total 21 = .ok (.iinc 2 1, 3) := by decide +kernel
theorem dX4_total_24 : decode cX4_total 24 = .ok (.goto (-20), 3) := by decide +kernel
theorem dX4_total_27 : decode cX4_total 27 = .ok (.iload_n 1, 1) := by decide +kernel
theorem dX4_total_28 : decode cX4_total 28 = .ok (.ireturn, 1) := by decide +kernel
theorem dX4_mostAlike_0 : decode cX4_mostAlike 0 = .ok (.iconst 0, 1) := by decide +kernel
theorem dX4_mostAlike_1 : decode cX4_mostAlike 1 = .ok (.istore_n 1, 1) := by decide +kernel
theorem dX4_mostAlike_2 : decode cX4_mostAlike 2 = .ok (.iconst 1, 1) := by decide +kernel
theorem dX4_mostAlike_3 : decode cX4_mostAlike 3 = .ok (.istore_n 2, 1) := by decide +kernel
theorem dX4_mostAlike_4 : decode cX4_mostAlike 4 = .ok (.iload_n 2, 1) := by decide +kernel
theorem dX4_mostAlike_5 : decode cX4_mostAlike 5 = .ok (.bipush 6, 2) := by decide +kernel
theorem dX4_mostAlike_7 : decode cX4_mostAlike 7 = .ok (.if_icmp .gt 20, 3) := by decide +kernel
theorem dX4_mostAlike_10 : decode cX4_mostAlike 10 = .ok (.iload_n 1, 1) := by decide +kernel
theorem dX4_mostAlike_11 : decode cX4_mostAlike 11 = .ok (.aload_n 0, 1) := by decide +kernel
theorem dX4_mostAlike_12 : decode cX4_mostAlike 12 = .ok (.getfield 9, 3) := by decide +kernel
theorem dX4_mostAlike_15 : decode cX4_mostAlike 15 = .ok (.iload_n 2, 1) := by decide +kernel
theorem dX4_mostAlike_16 : decode cX4_mostAlike 16 = .ok (.iaload, 1) := by decide +kernel
theorem dX4_mostAlike_17 : decode cX4_mostAlike 17 = .ok (.invokestatic 21, 3) := by decide +kernel
theorem dX4_mostAlike_20 : decode cX4_mostAlike 20 = .ok (.istore_n 1, 1) := by decide +kernel
theorem dX4_mostAlike_21 : decode cX4_mostAlike 21 = .ok (.iinc 2 1, 3) := by decide +kernel
theorem dX4_mostAlike_24 : decode cX4_mostAlike 24 = .ok (.goto (-20), 3) := by decide +kernel
theorem dX4_mostAlike_27 : decode cX4_mostAlike 27 = .ok (.iload_n 1, 1) := by decide +kernel
theorem dX4_mostAlike_28 : decode cX4_mostAlike 28 = .ok (.ireturn, 1) := by decide +kernel
theorem dX4_longestRun_0 : decode cX4_longestRun 0 = .ok (.iconst 0, 1) := by decide +kernel
theorem dX4_longestRun_1 : decode cX4_longestRun 1 = .ok (.istore_n 1, 1) := by decide +kernel
theorem dX4_longestRun_2 : decode cX4_longestRun 2 = .ok (.iconst 0, 1) := by decide +kernel
theorem dX4_longestRun_3 : decode cX4_longestRun 3 = .ok (.istore_n 2, 1) := by decide +kernel
theorem dX4_longestRun_4 : decode cX4_longestRun 4 = .ok (.iconst 1, 1) := by decide +kernel
theorem dX4_longestRun_5 : decode cX4_longestRun 5 = .ok (.istore_n 3, 1) := by decide +kernel
theorem dX4_longestRun_6 : decode cX4_longestRun 6 = .ok (.iload_n 3, 1) := by decide +kernel
theorem dX4_longestRun_7 : decode cX4_longestRun 7 = .ok (.bipush 6, 2) := by decide +kernel
theorem dX4_longestRun_9 : decode cX4_longestRun 9 = .ok (.if_icmp .gt 32, 3) := by decide +kernel
theorem dX4_longestRun_12 : decode cX4_longestRun 12 = .ok (.aload_n 0, 1) := by decide +kernel
theorem dX4_longestRun_13 : decode cX4_longestRun 13 = .ok (.getfield 9, 3) := by decide +kernel
theorem dX4_longestRun_16 : decode cX4_longestRun 16 = .ok (.iload_n 3, 1) := by decide +kernel
theorem dX4_longestRun_17 : decode cX4_longestRun 17 = .ok (.iaload, 1) := by decide +kernel
theorem dX4_longestRun_18 : decode cX4_longestRun 18 = .ok (.ifCond .le 9, 3) := by decide +kernel
theorem dX4_longestRun_21 : decode cX4_longestRun 21 = .ok (.iload_n 2, 1) := by decide +kernel
theorem dX4_longestRun_22 : decode cX4_longestRun 22 = .ok (.iconst 1, 1) := by decide +kernel
theorem dX4_longestRun_23 : decode cX4_longestRun 23 = .ok (.iadd, 1) := by decide +kernel
theorem dX4_longestRun_24 : decode cX4_longestRun 24 = .ok (.goto 4, 3) := by decide +kernel
theorem dX4_longestRun_27 : decode cX4_longestRun 27 = .ok (.iconst 0, 1) := by decide +kernel
theorem dX4_longestRun_28 : decode cX4_longestRun 28 = .ok (.istore_n 2, 1) := by decide +kernel
theorem dX4_longestRun_29 : decode cX4_longestRun 29 = .ok (.iload_n 1, 1) := by decide +kernel
theorem dX4_longestRun_30 : decode cX4_longestRun 30 = .ok (.iload_n 2, 1) := by decide +kernel
theorem dX4_longestRun_31 : decode cX4_longestRun 31 = .ok (.invokestatic 21, 3) := by decide +kernel
theorem dX4_longestRun_34 : decode cX4_longestRun 34 = .ok (.istore_n 1, 1) := by decide +kernel
theorem dX4_longestRun_35 : decode cX4_longestRun 35 = .ok (.iinc 3 1, 3) := by decide +kernel
theorem dX4_longestRun_38 : decode cX4_longestRun 38 = .ok (.goto (-32), 3) := by decide +kernel
theorem dX4_longestRun_41 : decode cX4_longestRun 41 = .ok (.iload_n 1, 1) := by decide +kernel
theorem dX4_longestRun_42 : decode cX4_longestRun 42 = .ok (.ireturn, 1) := by decide +kernel
theorem dX4_sidesShownBy_0 : decode cX4_sidesShownBy 0 = .ok (.iconst 0, 1) := by decide +kernel
theorem dX4_sidesShownBy_1 : decode cX4_sidesShownBy 1 = .ok (.istore_n 2, 1) := by decide +kernel
theorem dX4_sidesShownBy_2 : decode cX4_sidesShownBy 2 = .ok (.iconst 1, 1) := by decide +kernel
theorem dX4_sidesShownBy_3 : decode cX4_sidesShownBy 3 = .ok (.istore_n 3, 1) := by decide +kernel
theorem dX4_sidesShownBy_4 : decode cX4_sidesShownBy 4 = .ok (.iload_n 3, 1) := by decide +kernel
theorem dX4_sidesShownBy_5 : decode cX4_sidesShownBy 5 = .ok (.bipush 6, 2) := by decide +kernel
theorem dX4_sidesShownBy_7 : decode cX4_sidesShownBy 7 = .ok (.if_icmp .gt 22, 3) := by decide +kernel
theorem dX4_sidesShownBy_10 : decode cX4_sidesShownBy 10 = .ok (.aload_n 0, 1) := by decide +kernel
theorem dX4_sidesShownBy_11 : decode cX4_sidesShownBy 11 = .ok (.getfield 9, 3) := by decide +kernel
theorem dX4_sidesShownBy_14 : decode cX4_sidesShownBy 14 = .ok (.iload_n 3, 1) := by decide +kernel
theorem dX4_sidesShownBy_15 : decode cX4_sidesShownBy 15 = .ok (.iaload, 1) := by decide +kernel
theorem dX4_sidesShownBy_16 : decode cX4_sidesShownBy 16 = .ok (.iload_n 1, 1) := by decide +kernel
theorem dX4_sidesShownBy_17 : decode cX4_sidesShownBy 17 = .ok (.if_icmp .lt 6, 3) := by decide +kernel
theorem dX4_sidesShownBy_20 : decode cX4_sidesShownBy 20 = .ok (.iinc 2 1, 3) := by decide +kernel
theorem dX4_sidesShownBy_23 : decode cX4_sidesShownBy 23 = .ok (.iinc 3 1, 3) := by decide +kernel
theorem dX4_sidesShownBy_26 : decode cX4_sidesShownBy 26 = .ok (.goto (-22), 3) := by decide +kernel
theorem dX4_sidesShownBy_29 : decode cX4_sidesShownBy 29 = .ok (.iload_n 2, 1) := by decide +kernel
theorem dX4_sidesShownBy_30 : decode cX4_sidesShownBy 30 = .ok (.ireturn, 1) := by decide +kernel
theorem dX4_orders_0 : decode cX4_orders 0 = .ok (.iconst 0, 1) := by decide +kernel
theorem dX4_orders_1 : decode cX4_orders 1 = .ok (.istore_n 1, 1) := by decide +kernel
theorem dX4_orders_2 : decode cX4_orders 2 = .ok (.iconst 1, 1) := by decide +kernel
theorem dX4_orders_3 : decode cX4_orders 3 = .ok (.istore_n 2, 1) := by decide +kernel
theorem dX4_orders_4 : decode cX4_orders 4 = .ok (.iconst 1, 1) := by decide +kernel
theorem dX4_orders_5 : decode cX4_orders 5 = .ok (.istore_n 3, 1) := by decide +kernel
theorem dX4_orders_6 : decode cX4_orders 6 = .ok (.iload_n 3, 1) := by decide +kernel
theorem dX4_orders_7 : decode cX4_orders 7 = .ok (.bipush 6, 2) := by decide +kernel
theorem dX4_orders_9 : decode cX4_orders 9 = .ok (.if_icmp .gt 33, 3) := by decide +kernel
theorem dX4_orders_12 : decode cX4_orders 12 = .ok (.iload_n 1, 1) := by decide +kernel
theorem dX4_orders_13 : decode cX4_orders 13 = .ok (.aload_n 0, 1) := by decide +kernel
theorem dX4_orders_14 : decode cX4_orders 14 = .ok (.getfield 9, 3) := by decide +kernel
theorem dX4_orders_17 : decode cX4_orders 17 = .ok (.iload_n 3, 1) := by decide +kernel
theorem dX4_orders_18 : decode cX4_orders 18 = .ok (.iaload, 1) := by decide +kernel
theorem dX4_orders_19 : decode cX4_orders 19 = .ok (.iadd, 1) := by decide +kernel
theorem dX4_orders_20 : decode cX4_orders 20 = .ok (.istore_n 1, 1) := by decide +kernel
theorem dX4_orders_21 : decode cX4_orders 21 = .ok (.iload_n 2, 1) := by decide +kernel
theorem dX4_orders_22 : decode cX4_orders 22 = .ok (.getstatic 27, 3) := by decide +kernel
theorem dX4_orders_25 : decode cX4_orders 25 = .ok (.aload_n 0, 1) := by decide +kernel
theorem dX4_orders_26 : decode cX4_orders 26 = .ok (.getfield 9, 3) := by decide +kernel
theorem dX4_orders_29 : decode cX4_orders 29 = .ok (.iload_n 3, 1) := by decide +kernel
theorem dX4_orders_30 : decode cX4_orders 30 = .ok (.iaload, 1) := by decide +kernel
theorem dX4_orders_31 : decode cX4_orders 31 = .ok (.invokestatic 30, 3) := by decide +kernel
theorem dX4_orders_34 : decode cX4_orders 34 = .ok (.imul, 1) := by decide +kernel
theorem dX4_orders_35 : decode cX4_orders 35 = .ok (.istore_n 2, 1) := by decide +kernel
theorem dX4_orders_36 : decode cX4_orders 36 = .ok (.iinc 3 1, 3) := by decide +kernel
theorem dX4_orders_39 : decode cX4_orders 39 = .ok (.goto (-33), 3) := by decide +kernel
theorem dX4_orders_42 : decode cX4_orders 42 = .ok (.iload_n 2, 1) := by decide +kernel
theorem dX4_orders_43 : decode cX4_orders 43 = .ok (.ifCond .ne 7, 3) := by decide +kernel
theorem dX4_orders_46 : decode cX4_orders 46 = .ok (.iconst 0, 1) := by decide +kernel
theorem dX4_orders_47 : decode cX4_orders 47 = .ok (.goto 12, 3) := by decide +kernel
theorem dX4_orders_50 : decode cX4_orders 50 = .ok (.getstatic 27, 3) := by decide +kernel
theorem dX4_orders_53 : decode cX4_orders 53 = .ok (.iload_n 1, 1) := by decide +kernel
theorem dX4_orders_54 : decode cX4_orders 54 = .ok (.invokestatic 30, 3) := by decide +kernel
theorem dX4_orders_57 : decode cX4_orders 57 = .ok (.iload_n 2, 1) := by decide +kernel
theorem dX4_orders_58 : decode cX4_orders 58 = .ok (.idiv, 1) := by decide +kernel
theorem dX4_orders_59 : decode cX4_orders 59 = .ok (.ireturn, 1) := by decide +kernel
theorem dX5_init_0 : decode cX5_init 0 = .ok (.aload_n 0, 1) := by decide +kernel
theorem dX5_init_1 : decode cX5_init 1 = .ok (.invokespecial 3, 3) := by decide +kernel
theorem dX5_init_4 : decode cX5_init 4 = .ok (.aload_n 0, 1) := by decide +kernel
theorem dX5_init_5 : decode cX5_init 5 = .ok (.iconst 3, 1) := by decide +kernel
theorem dX5_init_6 : decode cX5_init 6 = .ok (.sipush 462, 3) := by decide +kernel
theorem dX5_init_9 : decode cX5_init 9 = .ok (.multianewarray 9 2, 4) := by decide +kernel
theorem dX5_init_13 : decode cX5_init 13 = .ok (.putfield 11, 3) := by decide +kernel
theorem dX5_init_16 : decode cX5_init 16 = .ok (.aload_n 0, 1) := by decide +kernel
theorem dX5_init_17 : decode cX5_init 17 = .ok (.iconst 3, 1) := by decide +kernel
theorem dX5_init_18 : decode cX5_init 18 = .ok (.sipush 462, 3) := by decide +kernel
theorem dX5_init_21 : decode cX5_init 21 = .ok (.multianewarray 9 2, 4) := by decide +kernel
theorem dX5_init_25 : decode cX5_init 25 = .ok (.putfield 16, 3) := by decide +kernel
theorem dX5_init_28 : decode cX5_init 28 = .ok (.aload_n 0, 1) := by decide +kernel
theorem dX5_init_29 : decode cX5_init 29 = .ok (.aload_n 1, 1) := by decide +kernel
theorem dX5_init_30 : decode cX5_init 30 = .ok (.putfield 19, 3) := by decide +kernel
theorem dX5_init_33 : decode cX5_init 33 = .ok (.return_, 1) := by decide +kernel
theorem dX5_ground_0 : decode cX5_ground 0 = .ok (.aload_n 0, 1) := by decide +kernel
theorem dX5_ground_1 : decode cX5_ground 1 = .ok (.getfield 11, 3) := by decide +kernel
theorem dX5_ground_4 : decode cX5_ground 4 = .ok (.iconst 0, 1) := by decide +kernel
theorem dX5_ground_5 : decode cX5_ground 5 = .ok (.aaload, 1) := by decide +kernel
theorem dX5_ground_6 : decode cX5_ground 6 = .ok (.areturn, 1) := by decide +kernel
theorem dX5_valueOfHeap_0 : decode cX5_valueOfHeap 0 = .ok (.iload_n 2, 1) := by decide +kernel
theorem dX5_valueOfHeap_1 : decode cX5_valueOfHeap 1 = .ok (.ifCond .lt 21, 3) := by decide +kernel
theorem dX5_valueOfHeap_4 : decode cX5_valueOfHeap 4 = .ok (.iload_n 2, 1) := by decide +kernel
theorem dX5_valueOfHeap_5 : decode cX5_valueOfHeap 5 = .ok (.iconst 3, 1) := by decide +kernel
theorem dX5_valueOfHeap_6 : decode cX5_valueOfHeap 6 = .ok (.if_icmp .ge 16, 3) := by decide +kernel
theorem dX5_valueOfHeap_9 : decode cX5_valueOfHeap 9 = .ok (.aload_n 0, 1) := by decide +kernel
theorem dX5_valueOfHeap_10 : decode cX5_valueOfHeap 10 = .ok (.getfield 11, 3) := by decide +kernel
theorem dX5_valueOfHeap_13 : decode cX5_valueOfHeap 13 = .ok (.iload_n 2, 1) := by decide +kernel
theorem dX5_valueOfHeap_14 : decode cX5_valueOfHeap 14 = .ok (.aaload, 1) := by decide +kernel
theorem dX5_valueOfHeap_15 : decode cX5_valueOfHeap 15 = .ok (.iload_n 1, 1) := by decide +kernel
theorem dX5_valueOfHeap_16 : decode cX5_valueOfHeap 16 = .ok (.invokestatic 23, 3) := by decide +kernel
theorem dX5_valueOfHeap_19 : decode cX5_valueOfHeap 19 = .ok (.goto 4, 3) := by decide +kernel
theorem dX5_valueOfHeap_22 : decode cX5_valueOfHeap 22 = .ok (.lconst 0, 1) := by decide +kernel
theorem dX5_valueOfHeap_23 : decode cX5_valueOfHeap 23 = .ok (.lreturn, 1) := by decide +kernel
theorem dX5_valueOfHold_0 : decode cX5_valueOfHold 0 = .ok (.iload_n 2, 1) := by decide +kernel
theorem dX5_valueOfHold_1 : decode cX5_valueOfHold 1 = .ok (.iconst 1, 1) := by decide +kernel
theorem dX5_valueOfHold_2 : decode cX5_valueOfHold 2 = .ok (.if_icmp .lt 23, 3) := by decide +kernel
theorem dX5_valueOfHold_5 : decode cX5_valueOfHold 5 = .ok (.iload_n 2, 1) := by decide +kernel
theorem dX5_valueOfHold_6 : decode cX5_valueOfHold 6 = .ok (.iconst 3, 1) := by decide +kernel
theorem dX5_valueOfHold_7 : decode cX5_valueOfHold 7 = .ok (.if_icmp .gt 18, 3) := by decide +kernel
theorem dX5_valueOfHold_10 : decode cX5_valueOfHold 10 = .ok (.aload_n 0, 1) := by decide +kernel
theorem dX5_valueOfHold_11 : decode cX5_valueOfHold 11 = .ok (.getfield 16, 3) := by decide +kernel
theorem dX5_valueOfHold_14 : decode cX5_valueOfHold 14 = .ok (.iload_n 2, 1) := by decide +kernel
theorem dX5_valueOfHold_15 : decode cX5_valueOfHold 15 = .ok (.iconst 1, 1) := by decide +kernel
theorem dX5_valueOfHold_16 : decode cX5_valueOfHold 16 = .ok (.isub, 1) := by decide +kernel
theorem dX5_valueOfHold_17 : decode cX5_valueOfHold 17 = .ok (.aaload, 1) := by decide +kernel
theorem dX5_valueOfHold_18 : decode cX5_valueOfHold 18 = .ok (.iload_n 1, 1) := by decide +kernel
theorem dX5_valueOfHold_19 : decode cX5_valueOfHold 19 = .ok (.invokestatic 23, 3) := by decide +kernel
theorem dX5_valueOfHold_22 : decode cX5_valueOfHold 22 = .ok (.goto 4, 3) := by decide +kernel
theorem dX5_valueOfHold_25 : decode cX5_valueOfHold 25 = .ok (.lconst 0, 1) := by decide +kernel
theorem dX5_valueOfHold_26 : decode cX5_valueOfHold 26 = .ok (.lreturn, 1) := by decide +kernel
theorem dX5_bestHoldOf_0 : decode cX5_bestHoldOf 0 = .ok (.aload_n 0, 1) := by decide +kernel
theorem dX5_bestHoldOf_1 : decode cX5_bestHoldOf 1 = .ok (.iload_n 1, 1) := by decide +kernel
theorem dX5_bestHoldOf_2 : decode cX5_bestHoldOf 2 = .ok (.iload_n 2, 1) := by decide +kernel
theorem dX5_bestHoldOf_3 : decode cX5_bestHoldOf 3 = .ok (.invokevirtual 27, 3) := by decide +kernel
theorem dX5_bestHoldOf_6 : decode cX5_bestHoldOf 6 = .ok (.lstore_n 3, 1) := by decide +kernel
theorem dX5_bestHoldOf_7 : decode cX5_bestHoldOf 7 = .ok (.iconst 0, 1) := by decide +kernel
theorem dX5_bestHoldOf_8 : decode cX5_bestHoldOf 8 = .ok (.istore 5, 2) := by decide +kernel
theorem dX5_bestHoldOf_10 : decode cX5_bestHoldOf 10 = .ok (.iload 5, 2) := by decide +kernel
theorem dX5_bestHoldOf_12 : decode cX5_bestHoldOf 12 = .ok (.iload_n 1, 1) := by decide +kernel
theorem dX5_bestHoldOf_13 : decode cX5_bestHoldOf 13 = .ok (.if_icmp .ge 40, 3) := by decide +kernel
theorem dX5_bestHoldOf_16 : decode cX5_bestHoldOf 16 = .ok (.aload_n 0, 1) := by decide +kernel
theorem dX5_bestHoldOf_17 : decode cX5_bestHoldOf 17 = .ok (.iload 5, 2) := by decide +kernel
theorem dX5_bestHoldOf_19 : decode cX5_bestHoldOf 19 = .ok (.iload_n 2, 1) := by decide +kernel
theorem dX5_bestHoldOf_20 : decode cX5_bestHoldOf 20 = .ok (.invokevirtual 31, 3) := by decide +kernel
theorem dX5_bestHoldOf_23 : decode cX5_bestHoldOf 23 = .ok (.lload_n 3, 1) := by decide +kernel
theorem dX5_bestHoldOf_24 : decode cX5_bestHoldOf 24 = .ok (.lcmp, 1) := by decide +kernel
theorem dX5_bestHoldOf_25 : decode cX5_bestHoldOf 25 = .ok (.ifCond .ne 22, 3) := by decide +kernel
theorem dX5_bestHoldOf_28 : decode cX5_bestHoldOf 28 = .ok (.aload_n 0, 1) := by decide +kernel
theorem dX5_bestHoldOf_29 : decode cX5_bestHoldOf 29 = .ok (.getfield 19, 3) := by decide +kernel
theorem dX5_bestHoldOf_32 : decode cX5_bestHoldOf 32 = .ok (.getfield 34, 3) := by decide +kernel
theorem dX5_bestHoldOf_35 : decode cX5_bestHoldOf 35 = .ok (.iload_n 1, 1) := by decide +kernel
theorem dX5_bestHoldOf_36 : decode cX5_bestHoldOf 36 = .ok (.iload 5, 2) := by decide +kernel
theorem dX5_bestHoldOf_38 : decode cX5_bestHoldOf 38 = .ok (.invokevirtual 40, 3) := by decide +kernel
theorem dX5_bestHoldOf_41 : decode cX5_bestHoldOf 41 = .ok (.ifCond .eq 6, 3) := by decide +kernel
theorem dX5_bestHoldOf_44 : decode cX5_bestHoldOf 44 = .ok (.iload 5, 2) := by decide +kernel
theorem dX5_bestHoldOf_46 : decode cX5_bestHoldOf 46 = .ok (.ireturn, 1) := by decide +kernel
theorem dX5_bestHoldOf_47 : decode cX5_bestHoldOf 47 = .ok (.iinc 5 1, 3) := by decide +kernel
theorem dX5_bestHoldOf_50 : decode cX5_bestHoldOf 50 = .ok (.goto (-40), 3) := by decide +kernel
theorem dX5_bestHoldOf_53 : decode cX5_bestHoldOf 53 = .ok (.iload_n 1, 1) := by decide +kernel
theorem dX5_bestHoldOf_54 : decode cX5_bestHoldOf 54 = .ok (.ireturn, 1) := by decide +kernel
theorem dX5_climb_0 : decode cX5_climb 0 = .ok (.iconst 1, 1) := by decide +kernel
theorem dX5_climb_1 : decode cX5_climb 1 = .ok (.istore_n 2, 1) := by decide +kernel
theorem dX5_climb_2 : decode cX5_climb 2 = .ok (.iload_n 2, 1) := by decide +kernel
theorem dX5_climb_3 : decode cX5_climb 3 = .ok (.iload_n 1, 1) := by decide +kernel
theorem dX5_climb_4 : decode cX5_climb 4 = .ok (.if_icmp .gt 64, 3) := by decide +kernel
theorem dX5_climb_7 : decode cX5_climb 7 = .ok (.iload_n 2, 1) := by decide +kernel
theorem dX5_climb_8 : decode cX5_climb 8 = .ok (.iconst 3, 1) := by decide +kernel
theorem dX5_climb_9 : decode cX5_climb 9 = .ok (.if_icmp .ge 59, 3) := by decide +kernel
theorem dX5_climb_12 : decode cX5_climb 12 = .ok (.aload_n 0, 1) := by decide +kernel
theorem dX5_climb_13 : decode cX5_climb 13 = .ok (.aload_n 0, 1) := by decide +kernel
theorem dX5_climb_14 : decode cX5_climb 14 = .ok (.getfield 11, 3) := by decide +kernel
theorem dX5_climb_17 : decode cX5_climb 17 = .ok (.iload_n 2, 1) := by decide +kernel
theorem dX5_climb_18 : decode cX5_climb 18 = .ok (.iconst 1, 1) := by decide +kernel
theorem dX5_climb_19 : decode cX5_climb 19 = .ok (.isub, 1) := by decide +kernel
theorem dX5_climb_20 : decode cX5_climb 20 = .ok (.aaload, 1) := by decide +kernel
theorem dX5_climb_21 : decode cX5_climb 21 = .ok (.aload_n 0, 1) := by decide +kernel
theorem dX5_climb_22 : decode cX5_climb 22 = .ok (.getfield 16, 3) := by decide +kernel
theorem dX5_climb_25 : decode cX5_climb 25 = .ok (.iload_n 2, 1) := by decide +kernel
theorem dX5_climb_26 : decode cX5_climb 26 = .ok (.iconst 1, 1) := by decide +kernel
theorem dX5_climb_27 : decode cX5_climb 27 = .ok (.isub, 1) := by decide +kernel
theorem dX5_climb_28 : decode cX5_climb 28 = .ok (.aaload, 1) := by decide +kernel
theorem dX5_climb_29 : decode cX5_climb 29 = .ok (.invokevirtual 46, 3) := by decide +kernel
theorem dX5_climb_32 : decode cX5_climb 32 = .ok (.aload_n 0, 1) := by decide +kernel
theorem dX5_climb_33 : decode cX5_climb 33 = .ok (.aload_n 0, 1) := by decide +kernel
theorem dX5_climb_34 : decode cX5_climb 34 = .ok (.getfield 16, 3) := by decide +kernel
theorem dX5_climb_37 : decode cX5_climb 37 = .ok (.iload_n 2, 1) := by decide +kernel
theorem dX5_climb_38 : decode cX5_climb 38 = .ok (.iconst 1, 1) := by decide +kernel
theorem dX5_climb_39 : decode cX5_climb 39 = .ok (.isub, 1) := by decide +kernel
theorem dX5_climb_40 : decode cX5_climb 40 = .ok (.aaload, 1) := by decide +kernel
theorem dX5_climb_41 : decode cX5_climb 41 = .ok (.invokevirtual 50, 3) := by decide +kernel
theorem dX5_climb_44 : decode cX5_climb 44 = .ok (.aload_n 0, 1) := by decide +kernel
theorem dX5_climb_45 : decode cX5_climb 45 = .ok (.aload_n 0, 1) := by decide +kernel
theorem dX5_climb_46 : decode cX5_climb 46 = .ok (.getfield 16, 3) := by decide +kernel
theorem dX5_climb_49 : decode cX5_climb 49 = .ok (.iload_n 2, 1) := by decide +kernel
theorem dX5_climb_50 : decode cX5_climb 50 = .ok (.iconst 1, 1) := by decide +kernel
theorem dX5_climb_51 : decode cX5_climb 51 = .ok (.isub, 1) := by decide +kernel
theorem dX5_climb_52 : decode cX5_climb 52 = .ok (.aaload, 1) := by decide +kernel
theorem dX5_climb_53 : decode cX5_climb 53 = .ok (.aload_n 0, 1) := by decide +kernel
theorem dX5_climb_54 : decode cX5_climb 54 = .ok (.getfield 11, 3) := by decide +kernel
theorem dX5_climb_57 : decode cX5_climb 57 = .ok (.iload_n 2, 1) := by decide +kernel
theorem dX5_climb_58 : decode cX5_climb 58 = .ok (.aaload, 1) := by decide +kernel
theorem dX5_climb_59 : decode cX5_climb 59 = .ok (.invokevirtual 54, 3) := by decide +kernel
theorem dX5_climb_62 : decode cX5_climb 62 = .ok (.iinc 2 1, 3) := by decide +kernel
theorem dX5_climb_65 : decode cX5_climb 65 = .ok (.goto (-63), 3) := by decide +kernel
theorem dX5_climb_68 : decode cX5_climb 68 = .ok (.return_, 1) := by decide +kernel
theorem dX5_valueBefore_0 : decode cX5_valueBefore 0 = .ok (.aload_n 0, 1) := by decide +kernel
theorem dX5_valueBefore_1 : decode cX5_valueBefore 1 = .ok (.getfield 19, 3) := by decide +kernel
theorem dX5_valueBefore_4 : decode cX5_valueBefore 4 = .ok (.getfield 57, 3) := by decide +kernel
theorem dX5_valueBefore_7 : decode cX5_valueBefore 7 = .ok (.iconst 1, 1) := by decide +kernel
theorem dX5_valueBefore_8 : decode cX5_valueBefore 8 = .ok (.isub, 1) := by decide +kernel
theorem dX5_valueBefore_9 : decode cX5_valueBefore 9 = .ok (.istore_n 1, 1) := by decide +kernel
theorem dX5_valueBefore_10 : decode cX5_valueBefore 10 = .ok (.iload_n 1, 1) := by decide +kernel
theorem dX5_valueBefore_11 : decode cX5_valueBefore 11 = .ok (.ifCond .lt 8, 3) := by decide +kernel
theorem dX5_valueBefore_14 : decode cX5_valueBefore 14 = .ok (.iload_n 1, 1) := by decide +kernel
theorem dX5_valueBefore_15 : decode cX5_valueBefore 15 = .ok (.iconst 3, 1) := by decide +kernel
theorem dX5_valueBefore_16 : decode cX5_valueBefore 16 = .ok (.if_icmp .lt 5, 3) := by decide +kernel
theorem dX5_valueBefore_19 : decode cX5_valueBefore 19 = .ok (.lconst 0, 1) := by decide +kernel
theorem dX5_valueBefore_20 : decode cX5_valueBefore 20 = .ok (.lreturn, 1) := by decide +kernel
theorem dX5_valueBefore_21 : decode cX5_valueBefore 21 = .ok (.aload_n 0, 1) := by decide +kernel
theorem dX5_valueBefore_22 : decode cX5_valueBefore 22 = .ok (.iload_n 1, 1) := by decide +kernel
theorem dX5_valueBefore_23 : decode cX5_valueBefore 23 = .ok (.invokevirtual 61, 3) := by decide +kernel
theorem dX5_valueBefore_26 : decode cX5_valueBefore 26 = .ok (.aload_n 0, 1) := by decide +kernel
theorem dX5_valueBefore_27 : decode cX5_valueBefore 27 = .ok (.aload_n 0, 1) := by decide +kernel
theorem dX5_valueBefore_28 : decode cX5_valueBefore 28 = .ok (.getfield 11, 3) := by decide +kernel

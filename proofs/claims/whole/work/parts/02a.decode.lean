theorem dX0_init_0 : decode cX0_init 0 = .ok (.aload_n 0, 1) := by decide +kernel
theorem dX0_init_1 : decode cX0_init 1 = .ok (.invokespecial 3, 3) := by decide +kernel
theorem dX0_init_4 : decode cX0_init 4 = .ok (.aload_n 0, 1) := by decide +kernel
theorem dX0_init_5 : decode cX0_init 5 = .ok (.sipush 256, 3) := by decide +kernel
theorem dX0_init_8 : decode cX0_init 8 = .ok (.newarray .int, 2) := by decide +kernel
theorem dX0_init_10 : decode cX0_init 10 = .ok (.putfield 9, 3) := by decide +kernel
theorem dX0_init_13 : decode cX0_init 13 = .ok (.aload_n 0, 1) := by decide +kernel
theorem dX0_init_14 : decode cX0_init 14 = .ok (.sipush 256, 3) := by decide +kernel
theorem dX0_init_17 : decode cX0_init 17 = .ok (.newarray .int, 2) := by decide +kernel
theorem dX0_init_19 : decode cX0_init 19 = .ok (.putfield 15, 3) := by decide +kernel
theorem dX0_init_22 : decode cX0_init 22 = .ok (.aload_n 0, 1) := by decide +kernel
theorem dX0_init_23 : decode cX0_init 23 = .ok (.sipush 256, 3) := by decide +kernel
theorem dX0_init_26 : decode cX0_init 26 = .ok (.newarray .int, 2) := by decide +kernel
theorem dX0_init_28 : decode cX0_init 28 = .ok (.putfield 18, 3) := by decide +kernel
theorem dX0_init_31 : decode cX0_init 31 = .ok (.aload_n 0, 1) := by decide +kernel
theorem dX0_init_32 : decode cX0_init 32 = .ok (.sipush 756, 3) := by decide +kernel
theorem dX0_init_35 : decode cX0_init 35 = .ok (.newarray .long, 2) := by decide +kernel
theorem dX0_init_37 : decode cX0_init 37 = .ok (.putfield 21, 3) := by decide +kernel
theorem dX0_init_40 : decode cX0_init 40 = .ok (.aload_n 0, 1) := by decide +kernel
theorem dX0_init_41 : decode cX0_init 41 = .ok (.iconst 0, 1) := by decide +kernel
theorem dX0_init_42 : decode cX0_init 42 = .ok (.newarray .long, 2) := by decide +kernel
theorem dX0_init_44 : decode cX0_init 44 = .ok (.putfield 25, 3) := by decide +kernel
theorem dX0_init_47 : decode cX0_init 47 = .ok (.aload_n 0, 1) := by decide +kernel
theorem dX0_init_48 : decode cX0_init 48 = .ok (.iconst 0, 1) := by decide +kernel
theorem dX0_init_49 : decode cX0_init 49 = .ok (.putfield 28, 3) := by decide +kernel
theorem dX0_init_52 : decode cX0_init 52 = .ok (.aload_n 0, 1) := by decide +kernel
theorem dX0_init_53 : decode cX0_init 53 = .ok (.aload_n 1, 1) := by decide +kernel
theorem dX0_init_54 : decode cX0_init 54 = .ok (.putfield 32, 3) := by decide +kernel
theorem dX0_init_57 : decode cX0_init 57 = .ok (.aload_n 0, 1) := by decide +kernel
theorem dX0_init_58 : decode cX0_init 58 = .ok (.new 36, 3) := by decide +kernel
theorem dX0_init_61 : decode cX0_init 61 = .ok (.dup, 1) := by decide +kernel
theorem dX0_init_62 : decode cX0_init 62 = .ok (.aload_n 1, 1) := by decide +kernel
theorem dX0_init_63 : decode cX0_init 63 = .ok (.invokespecial 38, 3) := by decide +kernel
theorem dX0_init_66 : decode cX0_init 66 = .ok (.putfield 41, 3) := by decide +kernel
theorem dX0_init_69 : decode cX0_init 69 = .ok (.return_, 1) := by decide +kernel
theorem dX0_forget_0 : decode cX0_forget 0 = .ok (.aload_n 0, 1) := by decide +kernel
theorem dX0_forget_1 : decode cX0_forget 1 = .ok (.iconst 0, 1) := by decide +kernel
theorem dX0_forget_2 : decode cX0_forget 2 = .ok (.putfield 28, 3) := by decide +kernel
theorem dX0_forget_5 : decode cX0_forget 5 = .ok (.return_, 1) := by decide +kernel
theorem dX0_beforeTurn_0 : decode cX0_beforeTurn 0 = .ok (.aload_n 0, 1) := by decide +kernel
theorem dX0_beforeTurn_1 : decode cX0_beforeTurn 1 = .ok (.invokevirtual 45, 3) := by decide +kernel
theorem dX0_beforeTurn_4 : decode cX0_beforeTurn 4 = .ok (.aload_n 0, 1) := by decide +kernel
theorem dX0_beforeTurn_5 : decode cX0_beforeTurn 5 = .ok (.iload_n 1, 1) := by decide +kernel
theorem dX0_beforeTurn_6 : decode cX0_beforeTurn 6 = .ok (.iload_n 2, 1) := by decide +kernel
theorem dX0_beforeTurn_7 : decode cX0_beforeTurn 7 = .ok (.iconst 0, 1) := by decide +kernel
theorem dX0_beforeTurn_8 : decode cX0_beforeTurn 8 = .ok (.invokevirtual 48, 3) := by decide +kernel
theorem dX0_beforeTurn_11 : decode cX0_beforeTurn 11 = .ok (.lreturn, 1) := by decide +kernel
theorem dX0_inTurn_0 : decode cX0_inTurn 0 = .ok (.aload_n 0, 1) := by decide +kernel
theorem dX0_inTurn_1 : decode cX0_inTurn 1 = .ok (.invokevirtual 45, 3) := by decide +kernel
theorem dX0_inTurn_4 : decode cX0_inTurn 4 = .ok (.aload_n 0, 1) := by decide +kernel
theorem dX0_inTurn_5 : decode cX0_inTurn 5 = .ok (.iload_n 1, 1) := by decide +kernel
theorem dX0_inTurn_6 : decode cX0_inTurn 6 = .ok (.iload_n 2, 1) := by decide +kernel
theorem dX0_inTurn_7 : decode cX0_inTurn 7 = .ok (.iconst 0, 1) := by decide +kernel
theorem dX0_inTurn_8 : decode cX0_inTurn 8 = .ok (.invokevirtual 52, 3) := by decide +kernel
theorem dX0_inTurn_11 : decode cX0_inTurn 11 = .ok (.aload_n 0, 1) := by decide +kernel
theorem dX0_inTurn_12 : decode cX0_inTurn 12 = .ok (.getfield 41, 3) := by decide +kernel
theorem dX0_inTurn_15 : decode cX0_inTurn 15 = .ok (.iload_n 3, 1) := by decide +kernel
theorem dX0_inTurn_16 : decode cX0_inTurn 16 = .ok (.invokevirtual 56, 3) := by decide +kernel
theorem dX0_inTurn_19 : decode cX0_inTurn 19 = .ok (.aload_n 0, 1) := by decide +kernel
theorem dX0_inTurn_20 : decode cX0_inTurn 20 = .ok (.getfield 41, 3) := by decide +kernel
theorem dX0_inTurn_23 : decode cX0_inTurn 23 = .ok (.areturn, 1) := by decide +kernel
theorem dX0_makeReady_0 : decode cX0_makeReady 0 = .ok (.aload_n 0, 1) := by decide +kernel
theorem dX0_makeReady_1 : decode cX0_makeReady 1 = .ok (.getfield 28, 3) := by decide +kernel
theorem dX0_makeReady_4 : decode cX0_makeReady 4 = .ok (.ifCond .eq 4, 3) := by decide +kernel
theorem dX0_makeReady_7 : decode cX0_makeReady 7 = .ok (.return_, 1) := by decide +kernel
theorem dX0_makeReady_8 : decode cX0_makeReady 8 = .ok (.aload_n 0, 1) := by decide +kernel
theorem dX0_makeReady_9 : decode cX0_makeReady 9 = .ok (.invokevirtual 60, 3) := by decide +kernel
theorem dX0_makeReady_12 : decode cX0_makeReady 12 = .ok (.istore_n 1, 1) := by decide +kernel
theorem dX0_makeReady_13 : decode cX0_makeReady 13 = .ok (.aload_n 0, 1) := by decide +kernel
theorem dX0_makeReady_14 : decode cX0_makeReady 14 = .ok (.getfield 25, 3) := by decide +kernel
theorem dX0_makeReady_17 : decode cX0_makeReady 17 = .ok (.arraylength, 1) := by decide +kernel
theorem dX0_makeReady_18 : decode cX0_makeReady 18 = .ok (.iload_n 1, 1) := by decide +kernel
theorem dX0_makeReady_19 : decode cX0_makeReady 19 = .ok (.if_icmp .ge 20, 3) := by decide +kernel
theorem dX0_makeReady_22 : decode cX0_makeReady 22 = .ok (.aload_n 0, 1) := by decide +kernel
theorem dX0_makeReady_23 : decode cX0_makeReady 23 = .ok (.iload_n 1, 1) := by decide +kernel
theorem dX0_makeReady_24 : decode cX0_makeReady 24 = .ok (.iconst 2, 1) := by decide +kernel
theorem dX0_makeReady_25 : decode cX0_makeReady 25 = .ok (.aload_n 0, 1) := by decide +kernel
theorem dX0_makeReady_26 : decode cX0_makeReady 26 = .ok (.getfield 25, 3) := by decide +kernel
theorem dX0_makeReady_29 : decode cX0_makeReady 29 = .ok (.arraylength, 1) := by decide +kernel
theorem dX0_makeReady_30 : decode cX0_makeReady 30 = .ok (.imul, 1) := by decide +kernel
theorem dX0_makeReady_31 : decode cX0_makeReady 31 = .ok (.invokestatic 64, 3) := by decide +kernel
theorem dX0_makeReady_34 : decode cX0_makeReady 34 = .ok (.newarray .long, 2) := by decide +kernel
theorem dX0_makeReady_36 : decode cX0_makeReady 36 = .ok (.putfield 25, 3) := by decide +kernel
theorem dX0_makeReady_39 : decode cX0_makeReady 39 = .ok (.aload_n 0, 1) := by decide +kernel
theorem dX0_makeReady_40 : decode cX0_makeReady 40 = .ok (.getfield 25, 3) := by decide +kernel
theorem dX0_makeReady_43 : decode cX0_makeReady 43 = .ok (.iconst 0, 1) := by decide +kernel
theorem dX0_makeReady_44 : decode cX0_makeReady 44 = .ok (.iload_n 1, 1) := by decide +kernel
theorem dX0_makeReady_45 : decode cX0_makeReady 45 = .ok (.ldc2_w 70, 3) := by decide +kernel
theorem dX0_makeReady_48 : decode cX0_makeReady 48 = .ok (.invokestatic 72, 3) := by decide +kernel
theorem dX0_makeReady_51 : decode cX0_makeReady 51 = .ok (.aload_n 0, 1) := by decide +kernel
theorem dX0_makeReady_52 : decode cX0_makeReady 52 = .ok (.iconst 1, 1) := by decide +kernel
theorem dX0_makeReady_53 : decode cX0_makeReady 53 = .ok (.putfield 28, 3) := by decide +kernel
theorem dX0_makeReady_56 : decode cX0_makeReady 56 = .ok (.return_, 1) := by decide +kernel
theorem dX0_measureSheets_0 : decode cX0_measureSheets 0 = .ok (.aload_n 0, 1) := by decide +kernel
theorem dX0_measureSheets_1 : decode cX0_measureSheets 1 = .ok (.getfield 32, 3) := by decide +kernel
theorem dX0_measureSheets_4 : decode cX0_measureSheets 4 = .ok (.invokevirtual 78, 3) := by decide +kernel
theorem dX0_measureSheets_7 : decode cX0_measureSheets 7 = .ok (.istore_n 1, 1) := by decide +kernel
theorem dX0_measureSheets_8 : decode cX0_measureSheets 8 = .ok (.aload_n 0, 1) := by decide +kernel
theorem dX0_measureSheets_9 : decode cX0_measureSheets 9 = .ok (.getfield 9, 3) := by decide +kernel
theorem dX0_measureSheets_12 : decode cX0_measureSheets 12 = .ok (.iload_n 1, 1) := by decide +kernel
theorem dX0_measureSheets_13 : decode cX0_measureSheets 13 = .ok (.iconst 0, 1) := by decide +kernel
theorem dX0_measureSheets_14 : decode cX0_measureSheets 14 = .ok (.iastore, 1) := by decide +kernel
theorem dX0_measureSheets_15 : decode cX0_measureSheets 15 = .ok (.aload_n 0, 1) := by decide +kernel
theorem dX0_measureSheets_16 : decode cX0_measureSheets 16 = .ok (.getfield 15, 3) := by decide +kernel
theorem dX0_measureSheets_19 : decode cX0_measureSheets 19 = .ok (.iload_n 1, 1) := by decide +kernel
theorem dX0_measureSheets_20 : decode cX0_measureSheets 20 = .ok (.iconst 0, 1) := by decide +kernel
theorem dX0_measureSheets_21 : decode cX0_measureSheets 21 = .ok (.iastore, 1) := by decide +kernel
theorem dX0_measureSheets_22 : decode cX0_measureSheets 22 = .ok (.aload_n 0, 1) := by decide +kernel
theorem dX0_measureSheets_23 : decode cX0_measureSheets 23 = .ok (.getfield 18, 3) := by decide +kernel
theorem dX0_measureSheets_26 : decode cX0_measureSheets 26 = .ok (.iload_n 1, 1) := by decide +kernel
theorem dX0_measureSheets_27 : decode cX0_measureSheets 27 = .ok (.iconst 0, 1) := by decide +kernel
theorem dX0_measureSheets_28 : decode cX0_measureSheets 28 = .ok (.iastore, 1) := by decide +kernel
theorem dX0_measureSheets_29 : decode cX0_measureSheets 29 = .ok (.iconst 0, 1) := by decide +kernel
theorem dX0_measureSheets_30 : decode cX0_measureSheets 30 = .ok (.istore_n 2, 1) := by decide +kernel
theorem dX0_measureSheets_31 : decode cX0_measureSheets 31 = .ok (.iconst 0, 1) := by decide +kernel
theorem dX0_measureSheets_32 : decode cX0_measureSheets 32 = .ok (.istore_n 3, 1) := by decide +kernel
theorem dX0_measureSheets_33 : decode cX0_measureSheets 33 = .ok (.iload_n 3, 1) := by decide +kernel
theorem dX0_measureSheets_34 : decode cX0_measureSheets 34 = .ok (.aload_n 0, 1) := by decide +kernel
theorem dX0_measureSheets_35 : decode cX0_measureSheets 35 = .ok (.getfield 32, 3) := by decide +kernel
theorem dX0_measureSheets_38 : decode cX0_measureSheets 38 = .ok (.getfield 83, 3) := by decide +kernel
theorem dX0_measureSheets_41 : decode cX0_measureSheets 41 = .ok (.if_icmp .ge 117, 3) := by decide +kernel
theorem dX0_measureSheets_44 : decode cX0_measureSheets 44 = .ok (.iconst 1, 1) := by decide +kernel
theorem dX0_measureSheets_45 : decode cX0_measureSheets 45 = .ok (.iload_n 3, 1) := by decide +kernel
theorem dX0_measureSheets_46 : decode cX0_measureSheets 46 = .ok (.ishl, 1) := by decide +kernel
theorem dX0_measureSheets_47 : decode cX0_measureSheets 47 = .ok (.istore 4, 2) := by decide +kernel
theorem dX0_measureSheets_49 : decode cX0_measureSheets 49 = .ok (.aload_n 0, 1) := by decide +kernel
theorem dX0_measureSheets_50 : decode cX0_measureSheets 50 = .ok (.iload_n 3, 1) := by decide +kernel
theorem dX0_measureSheets_51 : decode cX0_measureSheets 51 = .ok (.invokevirtual 87, 3) := by decide +kernel
theorem dX0_measureSheets_54 : decode cX0_measureSheets 54 = .ok (.istore 5, 2) := by decide +kernel
theorem dX0_measureSheets_56 : decode cX0_measureSheets 56 = .ok (.aload_n 0, 1) := by decide +kernel
theorem dX0_measureSheets_57 : decode cX0_measureSheets 57 = .ok (.iload_n 3, 1) := by decide +kernel
theorem dX0_measureSheets_58 : decode cX0_measureSheets 58 = .ok (.invokevirtual 91, 3) := by decide +kernel
theorem dX0_measureSheets_61 : decode cX0_measureSheets 61 = .ok (.istore 6, 2) := by decide +kernel
theorem dX0_measureSheets_63 : decode cX0_measureSheets 63 = .ok (.iconst 0, 1) := by decide +kernel
theorem dX0_measureSheets_64 : decode cX0_measureSheets 64 = .ok (.istore 7, 2) := by decide +kernel
theorem dX0_measureSheets_66 : decode cX0_measureSheets 66 = .ok (.iload 7, 2) := by decide +kernel
theorem dX0_measureSheets_68 : decode cX0_measureSheets 68 = .ok (.iload 4, 2) := by decide +kernel
theorem dX0_measureSheets_70 : decode cX0_measureSheets 70 = .ok (.if_icmp .ge 82, 3) := by decide +kernel
theorem dX0_measureSheets_73 : decode cX0_measureSheets 73 = .ok (.iload_n 1, 1) := by decide +kernel
theorem dX0_measureSheets_74 : decode cX0_measureSheets 74 = .ok (.iload 7, 2) := by decide +kernel
theorem dX0_measureSheets_76 : decode cX0_measureSheets 76 = .ok (.ixor, 1) := by decide +kernel
theorem dX0_measureSheets_77 : decode cX0_measureSheets 77 = .ok (.istore 8, 2) := by decide +kernel
theorem dX0_measureSheets_79 : decode cX0_measureSheets 79 = .ok (.iload 8, 2) := by decide +kernel
theorem dX0_measureSheets_81 : decode cX0_measureSheets 81 = .ok (.iload 4, 2) := by decide +kernel
theorem dX0_measureSheets_83 : decode cX0_measureSheets 83 = .ok (.ixor, 1) := by decide +kernel
theorem dX0_measureSheets_84 : decode cX0_measureSheets 84 = .ok (.istore 9, 2) := by decide +kernel
theorem dX0_measureSheets_86 : decode cX0_measureSheets 86 = .ok (.aload_n 0, 1) := by decide +kernel
theorem dX0_measureSheets_87 : decode cX0_measureSheets 87 = .ok (.getfield 9, 3) := by decide +kernel
theorem dX0_measureSheets_90 : decode cX0_measureSheets 90 = .ok (.iload 9, 2) := by decide +kernel
theorem dX0_measureSheets_92 : decode cX0_measureSheets 92 = .ok (.aload_n 0, 1) := by decide +kernel
theorem dX0_measureSheets_93 : decode cX0_measureSheets 93 = .ok (.getfield 9, 3) := by decide +kernel
theorem dX0_measureSheets_96 : decode cX0_measureSheets 96 = .ok (.iload 8, 2) := by decide +kernel
theorem dX0_measureSheets_98 : decode cX0_measureSheets 98 = .ok (.iaload, 1) := by decide +kernel
theorem dX0_measureSheets_99 : decode cX0_measureSheets 99 = .ok (.iload 5, 2) := by decide +kernel
theorem dX0_measureSheets_101 : decode cX0_measureSheets 101 = .ok (.iadd, 1) := by decide +kernel
theorem dX0_measureSheets_102 : decode cX0_measureSheets 102 = .ok (.iastore, 1) := by decide +kernel
theorem dX0_measureSheets_103 : decode cX0_measureSheets 103 = .ok (.aload_n 0, 1) := by decide +kernel
theorem dX0_measureSheets_104 : decode cX0_measureSheets 104 = .ok (.getfield 15, 3) := by decide +kernel
theorem dX0_measureSheets_107 : decode cX0_measureSheets 107 = .ok (.iload 9, 2) := by decide +kernel
theorem dX0_measureSheets_109 : decode cX0_measureSheets 109 = .ok (.aload_n 0, 1) := by decide +kernel
theorem dX0_measureSheets_110 : decode cX0_measureSheets 110 = .ok (.getfield 15, 3) := by decide +kernel
theorem dX0_measureSheets_113 : decode cX0_measureSheets 113 = .ok (.iload 8, 2) := by decide +kernel
theorem dX0_measureSheets_115 : decode cX0_measureSheets 115 = .ok (.iaload, 1) := by decide +kernel
theorem dX0_measureSheets_116 : decode cX0_measureSheets 116 = .ok (.iload 6, 2) := by decide +kernel
theorem dX0_measureSheets_118 : decode cX0_measureSheets 118 = .ok (.iadd, 1) := by decide +kernel
theorem dX0_measureSheets_119 : decode cX0_measureSheets 119 = .ok (.iastore, 1) := by decide +kernel
theorem dX0_measureSheets_120 : decode cX0_measureSheets 120 = .ok (.aload_n 0, 1) := by decide +kernel
theorem dX0_measureSheets_121 : decode cX0_measureSheets 121 = .ok (.getfield 18, 3) := by decide +kernel
theorem dX0_measureSheets_124 : decode cX0_measureSheets 124 = .ok (.iload 9, 2) := by decide +kernel
theorem dX0_measureSheets_126 : decode cX0_measureSheets 126 = .ok (.iload_n 2, 1) := by decide +kernel
theorem dX0_measureSheets_127 : decode cX0_measureSheets 127 = .ok (.iastore, 1) := by decide +kernel
theorem dX0_measureSheets_128 : decode cX0_measureSheets 128 = .ok (.iload_n 2, 1) := by decide +kernel
theorem dX0_measureSheets_129 : decode cX0_measureSheets 129 = .ok (.aload_n 0, 1) := by decide +kernel
theorem dX0_measureSheets_130 : decode cX0_measureSheets 130 = .ok (.getfield 15, 3) := by decide +kernel
theorem dX0_measureSheets_133 : decode cX0_measureSheets 133 = .ok (.iload 9, 2) := by decide +kernel
theorem dX0_measureSheets_135 : decode cX0_measureSheets 135 = .ok (.iaload, 1) := by decide +kernel
theorem dX0_measureSheets_136 : decode cX0_measureSheets 136 = .ok (.aload_n 0, 1) := by decide +kernel
theorem dX0_measureSheets_137 : decode cX0_measureSheets 137 = .ok (.getfield 9, 3) := by decide +kernel
theorem dX0_measureSheets_140 : decode cX0_measureSheets 140 = .ok (.iload 9, 2) := by decide +kernel
theorem dX0_measureSheets_142 : decode cX0_measureSheets 142 = .ok (.iaload, 1) := by decide +kernel
theorem dX0_measureSheets_143 : decode cX0_measureSheets 143 = .ok (.isub, 1) := by decide +kernel
theorem dX0_measureSheets_144 : decode cX0_measureSheets 144 = .ok (.iadd, 1) := by decide +kernel
theorem dX0_measureSheets_145 : decode cX0_measureSheets 145 = .ok (.istore_n 2, 1) := by decide +kernel
theorem dX0_measureSheets_146 : decode cX0_measureSheets 146 = .ok (.iinc 7 1, 3) := by decide +kernel
theorem dX0_measureSheets_149 : decode cX0_measureSheets 149 = .ok (.goto (-83), 3) := by decide +kernel
theorem dX0_measureSheets_152 : decode cX0_measureSheets 152 = .ok (.iinc 3 1, 3) := by decide +kernel
theorem dX0_measureSheets_155 : decode cX0_measureSheets 155 = .ok (.goto (-122), 3) := by decide +kernel
theorem dX0_measureSheets_158 : decode cX0_measureSheets 158 = .ok (.iload_n 2, 1) := by decide +kernel
theorem dX0_measureSheets_159 : decode cX0_measureSheets 159 = .ok (.ireturn, 1) := by decide +kernel
theorem dX0_leastOfRow_0 : decode cX0_leastOfRow 0 = .ok (.aload_n 0, 1) := by decide +kernel
theorem dX0_leastOfRow_1 : decode cX0_leastOfRow 1 = .ok (.getfield 32, 3) := by decide +kernel
theorem dX0_leastOfRow_4 : decode cX0_leastOfRow 4 = .ok (.getfield 94, 3) := by decide +kernel
theorem dX0_leastOfRow_7 : decode cX0_leastOfRow 7 = .ok (.invokevirtual 98, 3) := by decide +kernel
theorem dX0_leastOfRow_10 : decode cX0_leastOfRow 10 = .ok (.istore_n 2, 1) := by decide +kernel
theorem dX0_leastOfRow_11 : decode cX0_leastOfRow 11 = .ok (.aload_n 0, 1) := by decide +kernel
theorem dX0_leastOfRow_12 : decode cX0_leastOfRow 12 = .ok (.getfield 32, 3) := by decide +kernel
theorem dX0_leastOfRow_15 : decode cX0_leastOfRow 15 = .ok (.getfield 103, 3) := by decide +kernel
theorem dX0_leastOfRow_18 : decode cX0_leastOfRow 18 = .ok (.iload_n 1, 1) := by decide +kernel
theorem dX0_leastOfRow_19 : decode cX0_leastOfRow 19 = .ok (.iload_n 2, 1) := by decide +kernel
theorem dX0_leastOfRow_20 : decode cX0_leastOfRow 20 = .ok (.imul, 1) := by decide +kernel
theorem dX0_leastOfRow_21 : decode cX0_leastOfRow 21 = .ok (.invokestatic 106, 3) := by decide +kernel
theorem dX0_leastOfRow_24 : decode cX0_leastOfRow 24 = .ok (.istore_n 3, 1) := by decide +kernel
theorem dX0_leastOfRow_25 : decode cX0_leastOfRow 25 = .ok (.iconst 1, 1) := by decide +kernel
theorem dX0_leastOfRow_26 : decode cX0_leastOfRow 26 = .ok (.istore 4, 2) := by decide +kernel
theorem dX0_leastOfRow_28 : decode cX0_leastOfRow 28 = .ok (.iload 4, 2) := by decide +kernel
theorem dX0_leastOfRow_30 : decode cX0_leastOfRow 30 = .ok (.iload_n 2, 1) := by decide +kernel
theorem dX0_leastOfRow_31 : decode cX0_leastOfRow 31 = .ok (.if_icmp .ge 30, 3) := by decide +kernel
theorem dX0_leastOfRow_34 : decode cX0_leastOfRow 34 = .ok (.iload_n 3, 1) := by decide +kernel
theorem dX0_leastOfRow_35 : decode cX0_leastOfRow 35 = .ok (.aload_n 0, 1) := by decide +kernel
theorem dX0_leastOfRow_36 : decode cX0_leastOfRow 36 = .ok (.getfield 32, 3) := by decide +kernel
theorem dX0_leastOfRow_39 : decode cX0_leastOfRow 39 = .ok (.getfield 103, 3) := by decide +kernel
theorem dX0_leastOfRow_42 : decode cX0_leastOfRow 42 = .ok (.iload_n 1, 1) := by decide +kernel
theorem dX0_leastOfRow_43 : decode cX0_leastOfRow 43 = .ok (.iload_n 2, 1) := by decide +kernel
theorem dX0_leastOfRow_44 : decode cX0_leastOfRow 44 = .ok (.imul, 1) := by decide +kernel
theorem dX0_leastOfRow_45 : decode cX0_leastOfRow 45 = .ok (.iload 4, 2) := by decide +kernel
theorem dX0_leastOfRow_47 : decode cX0_leastOfRow 47 = .ok (.iadd, 1) := by decide +kernel
theorem dX0_leastOfRow_48 : decode cX0_leastOfRow 48 = .ok (.invokestatic 106, 3) := by decide +kernel
theorem dX0_leastOfRow_51 : decode cX0_leastOfRow 51 = .ok (.invokestatic 110, 3) := by decide +kernel
theorem dX0_leastOfRow_54 : decode cX0_leastOfRow 54 = .ok (.istore_n 3, 1) := by decide +kernel
theorem dX0_leastOfRow_55 : decode cX0_leastOfRow 55 = .ok (.iinc 4 1, 3) := by decide +kernel
theorem dX0_leastOfRow_58 : decode cX0_leastOfRow 58 = .ok (.goto (-30), 3) := by decide +kernel
theorem dX0_leastOfRow_61 : decode cX0_leastOfRow 61 = .ok (.iload_n 3, 1) := by decide +kernel
theorem dX0_leastOfRow_62 : decode cX0_leastOfRow 62 = .ok (.ireturn, 1) := by decide +kernel
theorem dX0_mostOfRow_0 : decode cX0_mostOfRow 0 = .ok (.aload_n 0, 1) := by decide +kernel
theorem dX0_mostOfRow_1 : decode cX0_mostOfRow 1 = .ok (.getfield 32, 3) := by decide +kernel
theorem dX0_mostOfRow_4 : decode cX0_mostOfRow 4 = .ok (.getfield 94, 3) := by decide +kernel
theorem dX0_mostOfRow_7 : decode cX0_mostOfRow 7 = .ok (.invokevirtual 98, 3) := by decide +kernel
theorem dX0_mostOfRow_10 : decode cX0_mostOfRow 10 = .ok (.istore_n 2, 1) := by decide +kernel
theorem dX0_mostOfRow_11 : decode cX0_mostOfRow 11 = .ok (.iconst 0, 1) := by decide +kernel
theorem dX0_mostOfRow_12 : decode cX0_mostOfRow 12 = .ok (.istore_n 3, 1) := by decide +kernel
theorem dX0_mostOfRow_13 : decode cX0_mostOfRow 13 = .ok (.iconst 0, 1) := by decide +kernel
theorem dX0_mostOfRow_14 : decode cX0_mostOfRow 14 = .ok (.istore 4, 2) := by decide +kernel
theorem dX0_mostOfRow_16 : decode cX0_mostOfRow 16 = .ok (.iload 4, 2) := by decide +kernel
theorem dX0_mostOfRow_18 : decode cX0_mostOfRow 18 = .ok (.iload_n 2, 1) := by decide +kernel
theorem dX0_mostOfRow_19 : decode cX0_mostOfRow 19 = .ok (.if_icmp .ge 30, 3) := by decide +kernel
theorem dX0_mostOfRow_22 : decode cX0_mostOfRow 22 = .ok (.iload_n 3, 1) := by decide +kernel
theorem dX0_mostOfRow_23 : decode cX0_mostOfRow 23 = .ok (.aload_n 0, 1) := by decide +kernel
theorem dX0_mostOfRow_24 : decode cX0_mostOfRow 24 = .ok (.getfield 32, 3) := by decide +kernel
theorem dX0_mostOfRow_27 : decode cX0_mostOfRow 27 = .ok (.getfield 103, 3) := by decide +kernel
theorem dX0_mostOfRow_30 : decode cX0_mostOfRow 30 = .ok (.iload_n 1, 1) := by decide +kernel
theorem dX0_mostOfRow_31 : decode cX0_mostOfRow 31 = .ok (.iload_n 2, 1) := by decide +kernel
theorem dX0_mostOfRow_32 : decode cX0_mostOfRow 32 = .ok (.imul, 1) := by decide +kernel
theorem dX0_mostOfRow_33 : decode cX0_mostOfRow 33 = .ok (.iload 4, 2) := by decide +kernel
theorem dX0_mostOfRow_35 : decode cX0_mostOfRow 35 = .ok (.iadd, 1) := by decide +kernel
theorem dX0_mostOfRow_36 : decode cX0_mostOfRow 36 = .ok (.invokestatic 106, 3) := by decide +kernel
theorem dX0_mostOfRow_39 : decode cX0_mostOfRow 39 = .ok (.invokestatic 64, 3) := by decide +kernel
theorem dX0_mostOfRow_42 : decode cX0_mostOfRow 42 = .ok (.istore_n 3, 1) := by decide +kernel
theorem dX0_mostOfRow_43 : decode cX0_mostOfRow 43 = .ok (.iinc 4 1, 3) := by decide +kernel
theorem dX0_mostOfRow_46 : decode cX0_mostOfRow 46 = .ok (.goto (-30), 3) := by decide +kernel
theorem dX0_mostOfRow_49 : decode cX0_mostOfRow 49 = .ok (.iload_n 3, 1) := by decide +kernel
theorem dX0_mostOfRow_50 : decode cX0_mostOfRow 50 = .ok (.ireturn, 1) := by decide +kernel
theorem dX0_ofSheet_0 : decode cX0_ofSheet 0 = .ok (.iload_n 2, 1) := by decide +kernel
theorem dX0_ofSheet_1 : decode cX0_ofSheet 1 = .ok (.aload_n 0, 1) := by decide +kernel
theorem dX0_ofSheet_2 : decode cX0_ofSheet 2 = .ok (.getfield 9, 3) := by decide +kernel
theorem dX0_ofSheet_5 : decode cX0_ofSheet 5 = .ok (.iload_n 1, 1) := by decide +kernel
theorem dX0_ofSheet_6 : decode cX0_ofSheet 6 = .ok (.invokestatic 106, 3) := by decide +kernel
theorem dX0_ofSheet_9 : decode cX0_ofSheet 9 = .ok (.if_icmp .gt 12, 3) := by decide +kernel
theorem dX0_ofSheet_12 : decode cX0_ofSheet 12 = .ok (.aload_n 0, 1) := by decide +kernel
theorem dX0_ofSheet_13 : decode cX0_ofSheet 13 = .ok (.getfield 32, 3) := by decide +kernel
theorem dX0_ofSheet_16 : decode cX0_ofSheet 16 = .ok (.iload_n 1, 1) := by decide +kernel
theorem dX0_ofSheet_17 : decode cX0_ofSheet 17 = .ok (.invokevirtual 113, 3) := by decide +kernel
theorem dX0_ofSheet_20 : decode cX0_ofSheet 20 = .ok (.lreturn, 1) := by decide +kernel
theorem dX0_ofSheet_21 : decode cX0_ofSheet 21 = .ok (.aload_n 0, 1) := by decide +kernel
theorem dX0_ofSheet_22 : decode cX0_ofSheet 22 = .ok (.getfield 18, 3) := by decide +kernel
theorem dX0_ofSheet_25 : decode cX0_ofSheet 25 = .ok (.iload_n 1, 1) := by decide +kernel
theorem dX0_ofSheet_26 : decode cX0_ofSheet 26 = .ok (.invokestatic 106, 3) := by decide +kernel
theorem dX0_ofSheet_29 : decode cX0_ofSheet 29 = .ok (.iload_n 2, 1) := by decide +kernel
theorem dX0_ofSheet_30 : decode cX0_ofSheet 30 = .ok (.iadd, 1) := by decide +kernel
theorem dX0_ofSheet_31 : decode cX0_ofSheet 31 = .ok (.aload_n 0, 1) := by decide +kernel
theorem dX0_ofSheet_32 : decode cX0_ofSheet 32 = .ok (.getfield 9, 3) := by decide +kernel
theorem dX0_ofSheet_35 : decode cX0_ofSheet 35 = .ok (.iload_n 1, 1) := by decide +kernel
theorem dX0_ofSheet_36 : decode cX0_ofSheet 36 = .ok (.invokestatic 106, 3) := by decide +kernel
theorem dX0_ofSheet_39 : decode cX0_ofSheet 39 = .ok (.isub, 1) := by decide +kernel
theorem dX0_ofSheet_40 : decode cX0_ofSheet 40 = .ok (.iconst 1, 1) := by decide +kernel
theorem dX0_ofSheet_41 : decode cX0_ofSheet 41 = .ok (.isub, 1) := by decide +kernel
theorem dX0_ofSheet_42 : decode cX0_ofSheet 42 = .ok (.istore 4, 2) := by decide +kernel
theorem dX0_ofSheet_44 : decode cX0_ofSheet 44 = .ok (.iload_n 2, 1) := by decide +kernel
theorem dX0_ofSheet_45 : decode cX0_ofSheet 45 = .ok (.aload_n 0, 1) := by decide +kernel
theorem dX0_ofSheet_46 : decode cX0_ofSheet 46 = .ok (.getfield 15, 3) := by decide +kernel
theorem dX0_ofSheet_49 : decode cX0_ofSheet 49 = .ok (.iload_n 1, 1) := by decide +kernel
theorem dX0_ofSheet_50 : decode cX0_ofSheet 50 = .ok (.invokestatic 106, 3) := by decide +kernel
theorem dX0_ofSheet_53 : decode cX0_ofSheet 53 = .ok (.if_icmp .gt 29, 3) := by decide +kernel
theorem dX0_ofSheet_56 : decode cX0_ofSheet 56 = .ok (.iload_n 3, 1) := by decide +kernel
theorem dX0_ofSheet_57 : decode cX0_ofSheet 57 = .ok (.aload_n 0, 1) := by decide +kernel
theorem dX0_ofSheet_58 : decode cX0_ofSheet 58 = .ok (.getfield 32, 3) := by decide +kernel
theorem dX0_ofSheet_61 : decode cX0_ofSheet 61 = .ok (.getfield 83, 3) := by decide +kernel
theorem dX0_ofSheet_64 : decode cX0_ofSheet 64 = .ok (.if_icmp .ge 18, 3) := by decide +kernel
theorem dX0_ofSheet_67 : decode cX0_ofSheet 67 = .ok (.iload 4, 2) := by decide +kernel
theorem dX0_ofSheet_69 : decode cX0_ofSheet 69 = .ok (.ifCond .lt 13, 3) := by decide +kernel
theorem dX0_ofSheet_72 : decode cX0_ofSheet 72 = .ok (.iload 4, 2) := by decide +kernel
theorem dX0_ofSheet_74 : decode cX0_ofSheet 74 = .ok (.aload_n 0, 1) := by decide +kernel
theorem dX0_ofSheet_75 : decode cX0_ofSheet 75 = .ok (.getfield 25, 3) := by decide +kernel
theorem dX0_ofSheet_78 : decode cX0_ofSheet 78 = .ok (.arraylength, 1) := by decide +kernel
theorem dX0_ofSheet_79 : decode cX0_ofSheet 79 = .ok (.if_icmp .lt 5, 3) := by decide +kernel
theorem dX0_ofSheet_82 : decode cX0_ofSheet 82 = .ok (.lconst 0, 1) := by decide +kernel
theorem dX0_ofSheet_83 : decode cX0_ofSheet 83 = .ok (.lreturn, 1) := by decide +kernel
theorem dX0_ofSheet_84 : decode cX0_ofSheet 84 = .ok (.aload_n 0, 1) := by decide +kernel
theorem dX0_ofSheet_85 : decode cX0_ofSheet 85 = .ok (.getfield 25, 3) := by decide +kernel
theorem dX0_ofSheet_88 : decode cX0_ofSheet 88 = .ok (.iload 4, 2) := by decide +kernel
theorem dX0_ofSheet_90 : decode cX0_ofSheet 90 = .ok (.laload, 1) := by decide +kernel
theorem dX0_ofSheet_91 : decode cX0_ofSheet 91 = .ok (.ldc2_w 70, 3) := by decide +kernel
theorem dX0_ofSheet_94 : decode cX0_ofSheet 94 = .ok (.lcmp, 1) := by decide +kernel
theorem dX0_ofSheet_95 : decode cX0_ofSheet 95 = .ok (.ifCond .ne 24, 3) := by decide +kernel
theorem dX0_ofSheet_98 : decode cX0_ofSheet 98 = .ok (.aload_n 0, 1) := by decide +kernel
theorem dX0_ofSheet_99 : decode cX0_ofSheet 99 = .ok (.iload_n 1, 1) := by decide +kernel
theorem dX0_ofSheet_100 : decode cX0_ofSheet 100 = .ok (.iload_n 2, 1) := by decide +kernel
theorem dX0_ofSheet_101 : decode cX0_ofSheet 101 = .ok (.iload_n 3, 1) := by decide +kernel
theorem dX0_ofSheet_102 : decode cX0_ofSheet 102 = .ok (.invokevirtual 52, 3) := by decide +kernel
theorem dX0_ofSheet_105 : decode cX0_ofSheet 105 = .ok (.aload_n 0, 1) := by decide +kernel
theorem dX0_ofSheet_106 : decode cX0_ofSheet 106 = .ok (.getfield 25, 3) := by decide +kernel
theorem dX0_ofSheet_109 : decode cX0_ofSheet 109 = .ok (.iload 4, 2) := by decide +kernel
theorem dX0_ofSheet_111 : decode cX0_ofSheet 111 = .ok (.aload_n 0, 1) := by decide +kernel
theorem dX0_ofSheet_112 : decode cX0_ofSheet 112 = .ok (.getfield 41, 3) := by decide +kernel
theorem dX0_ofSheet_115 : decode cX0_ofSheet 115 = .ok (.invokevirtual 117, 3) := by decide +kernel
theorem dX0_ofSheet_118 : decode cX0_ofSheet 118 = .ok (.lastore, 1) := by decide +kernel
theorem dX0_ofSheet_119 : decode cX0_ofSheet 119 = .ok (.aload_n 0, 1) := by decide +kernel
theorem dX0_ofSheet_120 : decode cX0_ofSheet 120 = .ok (.getfield 25, 3) := by decide +kernel
theorem dX0_ofSheet_123 : decode cX0_ofSheet 123 = .ok (.iload 4, 2) := by decide +kernel
theorem dX0_ofSheet_125 : decode cX0_ofSheet 125 = .ok (.laload, 1) := by decide +kernel
theorem dX0_ofSheet_126 : decode cX0_ofSheet 126 = .ok (.lreturn, 1) := by decide +kernel
theorem dX0_layGround_0 : decode cX0_layGround 0 = .ok (.aload_n 0, 1) := by decide +kernel
theorem dX0_layGround_1 : decode cX0_layGround 1 = .ok (.getfield 32, 3) := by decide +kernel
theorem dX0_layGround_4 : decode cX0_layGround 4 = .ok (.getfield 94, 3) := by decide +kernel
theorem dX0_layGround_7 : decode cX0_layGround 7 = .ok (.invokevirtual 98, 3) := by decide +kernel
theorem dX0_layGround_10 : decode cX0_layGround 10 = .ok (.istore 4, 2) := by decide +kernel
theorem dX0_layGround_12 : decode cX0_layGround 12 = .ok (.iload_n 3, 1) := by decide +kernel
theorem dX0_layGround_13 : decode cX0_layGround 13 = .ok (.iload 4, 2) := by decide +kernel
theorem dX0_layGround_15 : decode cX0_layGround 15 = .ok (.imul, 1) := by decide +kernel
theorem dX0_layGround_16 : decode cX0_layGround 16 = .ok (.istore 5, 2) := by decide +kernel
theorem dX0_layGround_18 : decode cX0_layGround 18 = .ok (.iload 5, 2) := by decide +kernel
theorem dX0_layGround_20 : decode cX0_layGround 20 = .ok (.iload 4, 2) := by decide +kernel
theorem dX0_layGround_22 : decode cX0_layGround 22 = .ok (.iadd, 1) := by decide +kernel
theorem dX0_layGround_23 : decode cX0_layGround 23 = .ok (.sipush 756, 3) := by decide +kernel
theorem dX0_layGround_26 : decode cX0_layGround 26 = .ok (.if_icmp .le 4, 3) := by decide +kernel
theorem dX0_layGround_29 : decode cX0_layGround 29 = .ok (.return_, 1) := by decide +kernel
theorem dX0_layGround_30 : decode cX0_layGround 30 = .ok (.aload_n 0, 1) := by decide +kernel
theorem dX0_layGround_31 : decode cX0_layGround 31 = .ok (.getfield 21, 3) := by decide +kernel
theorem dX0_layGround_34 : decode cX0_layGround 34 = .ok (.iload 5, 2) := by decide +kernel
theorem dX0_layGround_36 : decode cX0_layGround 36 = .ok (.iload 5, 2) := by decide +kernel
theorem dX0_layGround_38 : decode cX0_layGround 38 = .ok (.iload 4, 2) := by decide +kernel
theorem dX0_layGround_40 : decode cX0_layGround 40 = .ok (.iadd, 1) := by decide +kernel
theorem dX0_layGround_41 : decode cX0_layGround 41 = .ok (.lconst 0, 1) := by decide +kernel
theorem dX0_layGround_42 : decode cX0_layGround 42 = .ok (.invokestatic 72, 3) := by decide +kernel
theorem dX0_layGround_45 : decode cX0_layGround 45 = .ok (.iconst 0, 1) := by decide +kernel
theorem dX0_layGround_46 : decode cX0_layGround 46 = .ok (.istore 6, 2) := by decide +kernel
theorem dX0_layGround_48 : decode cX0_layGround 48 = .ok (.iload 6, 2) := by decide +kernel
theorem dX0_layGround_50 : decode cX0_layGround 50 = .ok (.aload_n 0, 1) := by decide +kernel
theorem dX0_layGround_51 : decode cX0_layGround 51 = .ok (.getfield 32, 3) := by decide +kernel
theorem dX0_layGround_54 : decode cX0_layGround 54 = .ok (.getfield 83, 3) := by decide +kernel
theorem dX0_layGround_57 : decode cX0_layGround 57 = .ok (.if_icmp .ge 102, 3) := by decide +kernel
theorem dX0_layGround_60 : decode cX0_layGround 60 = .ok (.aload_n 0, 1) := by decide +kernel
theorem dX0_layGround_61 : decode cX0_layGround 61 = .ok (.getfield 32, 3) := by decide +kernel
theorem dX0_layGround_64 : decode cX0_layGround 64 = .ok (.iload_n 1, 1) := by decide +kernel
theorem dX0_layGround_65 : decode cX0_layGround 65 = .ok (.iload 6, 2) := by decide +kernel
theorem dX0_layGround_67 : decode cX0_layGround 67 = .ok (.invokevirtual 121, 3) := by decide +kernel
theorem dX0_layGround_70 : decode cX0_layGround 70 = .ok (.ifCond .eq 83, 3) := by decide +kernel
theorem dX0_layGround_73 : decode cX0_layGround 73 = .ok (.iload_n 1, 1) := by decide +kernel
theorem dX0_layGround_74 : decode cX0_layGround 74 = .ok (.iconst 1, 1) := by decide +kernel
theorem dX0_layGround_75 : decode cX0_layGround 75 = .ok (.iload 6, 2) := by decide +kernel
theorem dX0_layGround_77 : decode cX0_layGround 77 = .ok (.ishl, 1) := by decide +kernel
theorem dX0_layGround_78 : decode cX0_layGround 78 = .ok (.ior, 1) := by decide +kernel
theorem dX0_layGround_79 : decode cX0_layGround 79 = .ok (.istore 7, 2) := by decide +kernel
theorem dX0_layGround_81 : decode cX0_layGround 81 = .ok (.iconst 0, 1) := by decide +kernel
theorem dX0_layGround_82 : decode cX0_layGround 82 = .ok (.istore 8, 2) := by decide +kernel
theorem dX0_layGround_84 : decode cX0_layGround 84 = .ok (.iload 8, 2) := by decide +kernel
theorem dX0_layGround_86 : decode cX0_layGround 86 = .ok (.iload 4, 2) := by decide +kernel
theorem dX0_layGround_88 : decode cX0_layGround 88 = .ok (.if_icmp .ge 65, 3) := by decide +kernel
theorem dX0_layGround_91 : decode cX0_layGround 91 = .ok (.aload_n 0, 1) := by decide +kernel
theorem dX0_layGround_92 : decode cX0_layGround 92 = .ok (.iload 7, 2) := by decide +kernel
theorem dX0_layGround_94 : decode cX0_layGround 94 = .ok (.iload_n 2, 1) := by decide +kernel
theorem dX0_layGround_95 : decode cX0_layGround 95 = .ok (.aload_n 0, 1) := by decide +kernel
theorem dX0_layGround_96 : decode cX0_layGround 96 = .ok (.getfield 32, 3) := by decide +kernel
theorem dX0_layGround_99 : decode cX0_layGround 99 = .ok (.getfield 103, 3) := by decide +kernel
theorem dX0_layGround_102 : decode cX0_layGround 102 = .ok (.iload 6, 2) := by decide +kernel
theorem dX0_layGround_104 : decode cX0_layGround 104 = .ok (.iload 4, 2) := by decide +kernel
theorem dX0_layGround_106 : decode cX0_layGround 106 = .ok (.imul, 1) := by decide +kernel
theorem dX0_layGround_107 : decode cX0_layGround 107 = .ok (.iload 8, 2) := by decide +kernel
theorem dX0_layGround_109 : decode cX0_layGround 109 = .ok (.iadd, 1) := by decide +kernel
theorem dX0_layGround_110 : decode cX0_layGround 110 = .ok (.invokestatic 106, 3) := by decide +kernel
theorem dX0_layGround_113 : decode cX0_layGround 113 = .ok (.isub, 1) := by decide +kernel
theorem dX0_layGround_114 : decode cX0_layGround 114 = .ok (.iload_n 3, 1) := by decide +kernel
theorem dX0_layGround_115 : decode cX0_layGround 115 = .ok (.iconst 1, 1) := by decide +kernel
theorem dX0_layGround_116 : decode cX0_layGround 116 = .ok (.iadd, 1) := by decide +kernel
theorem dX0_layGround_117 : decode cX0_layGround 117 = .ok (.invokevirtual 48, 3) := by decide +kernel
theorem dX0_layGround_120 : decode cX0_layGround 120 = .ok (.lstore 9, 2) := by decide +kernel
theorem dX0_layGround_122 : decode cX0_layGround 122 = .ok (.aload_n 0, 1) := by decide +kernel
theorem dX0_layGround_123 : decode cX0_layGround 123 = .ok (.getfield 21, 3) := by decide +kernel
theorem dX0_layGround_126 : decode cX0_layGround 126 = .ok (.iload 5, 2) := by decide +kernel
theorem dX0_layGround_128 : decode cX0_layGround 128 = .ok (.iload 8, 2) := by decide +kernel
theorem dX0_layGround_130 : decode cX0_layGround 130 = .ok (.iadd, 1) := by decide +kernel
theorem dX0_layGround_131 : decode cX0_layGround 131 = .ok (.aload_n 0, 1) := by decide +kernel
theorem dX0_layGround_132 : decode cX0_layGround 132 = .ok (.getfield 21, 3) := by decide +kernel
theorem dX0_layGround_135 : decode cX0_layGround 135 = .ok (.iload 5, 2) := by decide +kernel
theorem dX0_layGround_137 : decode cX0_layGround 137 = .ok (.iload 8, 2) := by decide +kernel
theorem dX0_layGround_139 : decode cX0_layGround 139 = .ok (.iadd, 1) := by decide +kernel
theorem dX0_layGround_140 : decode cX0_layGround 140 = .ok (.laload, 1) := by decide +kernel
theorem dX0_layGround_141 : decode cX0_layGround 141 = .ok (.lload 9, 2) := by decide +kernel
theorem dX0_layGround_143 : decode cX0_layGround 143 = .ok (.invokestatic 125, 3) := by decide +kernel
theorem dX0_layGround_146 : decode cX0_layGround 146 = .ok (.lastore, 1) := by decide +kernel
theorem dX0_layGround_147 : decode cX0_layGround 147 = .ok (.iinc 8 1, 3) := by decide +kernel
theorem dX0_layGround_150 : decode cX0_layGround 150 = .ok (.goto (-66), 3) := by decide +kernel
theorem dX0_layGround_153 : decode cX0_layGround 153 = .ok (.iinc 6 1, 3) := by decide +kernel
theorem dX0_layGround_156 : decode cX0_layGround 156 = .ok (.goto (-108), 3) := by decide +kernel
theorem dX0_layGround_159 : decode cX0_layGround 159 = .ok (.aload_n 0, 1) := by decide +kernel
theorem dX0_layGround_160 : decode cX0_layGround 160 = .ok (.getfield 21, 3) := by decide +kernel
theorem dX0_layGround_163 : decode cX0_layGround 163 = .ok (.iload 5, 2) := by decide +kernel
theorem dX0_layGround_165 : decode cX0_layGround 165 = .ok (.aload_n 0, 1) := by decide +kernel
theorem dX0_layGround_166 : decode cX0_layGround 166 = .ok (.getfield 41, 3) := by decide +kernel
theorem dX0_layGround_169 : decode cX0_layGround 169 = .ok (.invokevirtual 128, 3) := by decide +kernel
theorem dX0_layGround_172 : decode cX0_layGround 172 = .ok (.aload_n 0, 1) := by decide +kernel
theorem dX0_layGround_173 : decode cX0_layGround 173 = .ok (.getfield 32, 3) := by decide +kernel
theorem dX0_layGround_176 : decode cX0_layGround 176 = .ok (.getfield 94, 3) := by decide +kernel
theorem dX0_layGround_179 : decode cX0_layGround 179 = .ok (.getfield 132, 3) := by decide +kernel
theorem dX0_layGround_182 : decode cX0_layGround 182 = .ok (.iload 4, 2) := by decide +kernel
theorem dX0_layGround_184 : decode cX0_layGround 184 = .ok (.invokestatic 135, 3) := by decide +kernel
theorem dX0_layGround_187 : decode cX0_layGround 187 = .ok (.return_, 1) := by decide +kernel
theorem dX1_init_0 : decode cX1_init 0 = .ok (.aload_n 0, 1) := by decide +kernel
theorem dX1_init_1 : decode cX1_init 1 = .ok (.invokespecial 3, 3) := by decide +kernel
theorem dX1_init_4 : decode cX1_init 4 = .ok (.aload_n 0, 1) := by decide +kernel
theorem dX1_init_5 : decode cX1_init 5 = .ok (.new 9, 3) := by decide +kernel
theorem dX1_init_8 : decode cX1_init 8 = .ok (.dup, 1) := by decide +kernel
theorem dX1_init_9 : decode cX1_init 9 = .ok (.invokespecial 11, 3) := by decide +kernel
theorem dX1_init_12 : decode cX1_init 12 = .ok (.putfield 12, 3) := by decide +kernel
theorem dX1_init_15 : decode cX1_init 15 = .ok (.aload_n 0, 1) := by decide +kernel
theorem dX1_init_16 : decode cX1_init 16 = .ok (.sipush 756, 3) := by decide +kernel
theorem dX1_init_19 : decode cX1_init 19 = .ok (.newarray .int, 2) := by decide +kernel
theorem dX1_init_21 : decode cX1_init 21 = .ok (.putfield 18, 3) := by decide +kernel
theorem dX1_init_24 : decode cX1_init 24 = .ok (.aload_n 0, 1) := by decide +kernel
theorem dX1_init_25 : decode cX1_init 25 = .ok (.bipush 25, 2) := by decide +kernel
theorem dX1_init_27 : decode cX1_init 27 = .ok (.newarray .long, 2) := by decide +kernel
theorem dX1_init_29 : decode cX1_init 29 = .ok (.putfield 22, 3) := by decide +kernel
theorem dX1_init_32 : decode cX1_init 32 = .ok (.aload_n 0, 1) := by decide +kernel
theorem dX1_init_33 : decode cX1_init 33 = .ok (.bipush 6, 2) := by decide +kernel
theorem dX1_init_35 : decode cX1_init 35 = .ok (.newarray .long, 2) := by decide +kernel
theorem dX1_init_37 : decode cX1_init 37 = .ok (.putfield 26, 3) := by decide +kernel
theorem dX1_init_40 : decode cX1_init 40 = .ok (.aload_n 0, 1) := by decide +kernel
theorem dX1_init_41 : decode cX1_init 41 = .ok (.iconst 1, 1) := by decide +kernel
theorem dX1_init_42 : decode cX1_init 42 = .ok (.putfield 29, 3) := by decide +kernel
theorem dX1_init_45 : decode cX1_init 45 = .ok (.aload_n 0, 1) := by decide +kernel
theorem dX1_init_46 : decode cX1_init 46 = .ok (.iconst 0, 1) := by decide +kernel
theorem dX1_init_47 : decode cX1_init 47 = .ok (.putfield 33, 3) := by decide +kernel
theorem dX1_init_50 : decode cX1_init 50 = .ok (.return_, 1) := by decide +kernel
theorem dX1_prepare_0 : decode cX1_prepare 0 = .ok (.aload_n 0, 1) := by decide +kernel
theorem dX1_prepare_1 : decode cX1_prepare 1 = .ok (.getfield 12, 3) := by decide +kernel
theorem dX1_prepare_4 : decode cX1_prepare 4 = .ok (.iload_n 1, 1) := by decide +kernel
theorem dX1_prepare_5 : decode cX1_prepare 5 = .ok (.iload_n 2, 1) := by decide +kernel
theorem dX1_prepare_6 : decode cX1_prepare 6 = .ok (.invokevirtual 36, 3) := by decide +kernel
theorem dX1_prepare_9 : decode cX1_prepare 9 = .ok (.aload_n 0, 1) := by decide +kernel
theorem dX1_prepare_10 : decode cX1_prepare 10 = .ok (.iconst 1, 1) := by decide +kernel
theorem dX1_prepare_11 : decode cX1_prepare 11 = .ok (.iload_n 3, 1) := by decide +kernel
theorem dX1_prepare_12 : decode cX1_prepare 12 = .ok (.iconst 3, 1) := by decide +kernel
theorem dX1_prepare_13 : decode cX1_prepare 13 = .ok (.invokestatic 40, 3) := by decide +kernel
theorem dX1_prepare_16 : decode cX1_prepare 16 = .ok (.invokestatic 46, 3) := by decide +kernel
theorem dX1_prepare_19 : decode cX1_prepare 19 = .ok (.putfield 29, 3) := by decide +kernel
theorem dX1_prepare_22 : decode cX1_prepare 22 = .ok (.aload_n 0, 1) := by decide +kernel
theorem dX1_prepare_23 : decode cX1_prepare 23 = .ok (.iload 4, 2) := by decide +kernel
theorem dX1_prepare_25 : decode cX1_prepare 25 = .ok (.bipush 8, 2) := by decide +kernel
theorem dX1_prepare_27 : decode cX1_prepare 27 = .ok (.invokestatic 40, 3) := by decide +kernel
theorem dX1_prepare_30 : decode cX1_prepare 30 = .ok (.putfield 33, 3) := by decide +kernel
theorem dX1_prepare_33 : decode cX1_prepare 33 = .ok (.aload_n 0, 1) := by decide +kernel
theorem dX1_prepare_34 : decode cX1_prepare 34 = .ok (.getfield 26, 3) := by decide +kernel
theorem dX1_prepare_37 : decode cX1_prepare 37 = .ok (.iconst 0, 1) := by decide +kernel
theorem dX1_prepare_38 : decode cX1_prepare 38 = .ok (.lconst 1, 1) := by decide +kernel
theorem dX1_prepare_39 : decode cX1_prepare 39 = .ok (.lastore, 1) := by decide +kernel
theorem dX1_prepare_40 : decode cX1_prepare 40 = .ok (.iconst 1, 1) := by decide +kernel
theorem dX1_prepare_41 : decode cX1_prepare 41 = .ok (.istore 5, 2) := by decide +kernel
theorem dX1_prepare_43 : decode cX1_prepare 43 = .ok (.iload 5, 2) := by decide +kernel
theorem dX1_prepare_45 : decode cX1_prepare 45 = .ok (.iload_n 1, 1) := by decide +kernel
theorem dX1_prepare_46 : decode cX1_prepare 46 = .ok (.if_icmp .gt 34, 3) := by decide +kernel
theorem dX1_prepare_49 : decode cX1_prepare 49 = .ok (.iload 5, 2) := by decide +kernel
theorem dX1_prepare_51 : decode cX1_prepare 51 = .ok (.iconst 5, 1) := by decide +kernel
theorem dX1_prepare_52 : decode cX1_prepare 52 = .ok (.if_icmp .gt 28, 3) := by decide +kernel
theorem dX1_prepare_55 : decode cX1_prepare 55 = .ok (.aload_n 0, 1) := by decide +kernel
theorem dX1_prepare_56 : decode cX1_prepare 56 = .ok (.getfield 26, 3) := by decide +kernel
theorem dX1_prepare_59 : decode cX1_prepare 59 = .ok (.iload 5, 2) := by decide +kernel
theorem dX1_prepare_61 : decode cX1_prepare 61 = .ok (.aload_n 0, 1) := by decide +kernel
theorem dX1_prepare_62 : decode cX1_prepare 62 = .ok (.getfield 26, 3) := by decide +kernel
theorem dX1_prepare_65 : decode cX1_prepare 65 = .ok (.iload 5, 2) := by decide +kernel
theorem dX1_prepare_67 : decode cX1_prepare 67 = .ok (.iconst 1, 1) := by decide +kernel
theorem dX1_prepare_68 : decode cX1_prepare 68 = .ok (.isub, 1) := by decide +kernel
theorem dX1_prepare_69 : decode cX1_prepare 69 = .ok (.laload, 1) := by decide +kernel
theorem dX1_prepare_70 : decode cX1_prepare 70 = .ok (.iload_n 2, 1) := by decide +kernel
theorem dX1_prepare_71 : decode cX1_prepare 71 = .ok (.i2l, 1) := by decide +kernel
theorem dX1_prepare_72 : decode cX1_prepare 72 = .ok (.lmul, 1) := by decide +kernel
theorem dX1_prepare_73 : decode cX1_prepare 73 = .ok (.lastore, 1) := by decide +kernel
theorem dX1_prepare_74 : decode cX1_prepare 74 = .ok (.iinc 5 1, 3) := by decide +kernel
theorem dX1_prepare_77 : decode cX1_prepare 77 = .ok (.goto (-34), 3) := by decide +kernel
theorem dX1_prepare_80 : decode cX1_prepare 80 = .ok (.aload_n 0, 1) := by decide +kernel
theorem dX1_prepare_81 : decode cX1_prepare 81 = .ok (.getfield 22, 3) := by decide +kernel
theorem dX1_prepare_84 : decode cX1_prepare 84 = .ok (.iconst 0, 1) := by decide +kernel
theorem dX1_prepare_85 : decode cX1_prepare 85 = .ok (.lconst 1, 1) := by decide +kernel
theorem dX1_prepare_86 : decode cX1_prepare 86 = .ok (.lastore, 1) := by decide +kernel
theorem dX1_prepare_87 : decode cX1_prepare 87 = .ok (.iconst 1, 1) := by decide +kernel
theorem dX1_prepare_88 : decode cX1_prepare 88 = .ok (.istore 5, 2) := by decide +kernel
theorem dX1_prepare_90 : decode cX1_prepare 90 = .ok (.iload 5, 2) := by decide +kernel
theorem dX1_prepare_92 : decode cX1_prepare 92 = .ok (.aload_n 0, 1) := by decide +kernel
theorem dX1_prepare_93 : decode cX1_prepare 93 = .ok (.getfield 29, 3) := by decide +kernel
theorem dX1_prepare_96 : decode cX1_prepare 96 = .ok (.aload_n 0, 1) := by decide +kernel
theorem dX1_prepare_97 : decode cX1_prepare 97 = .ok (.getfield 33, 3) := by decide +kernel
theorem dX1_prepare_100 : decode cX1_prepare 100 = .ok (.imul, 1) := by decide +kernel
theorem dX1_prepare_101 : decode cX1_prepare 101 = .ok (.if_icmp .gt 34, 3) := by decide +kernel
theorem dX1_prepare_104 : decode cX1_prepare 104 = .ok (.aload_n 0, 1) := by decide +kernel
theorem dX1_prepare_105 : decode cX1_prepare 105 = .ok (.getfield 22, 3) := by decide +kernel
theorem dX1_prepare_108 : decode cX1_prepare 108 = .ok (.iload 5, 2) := by decide +kernel
theorem dX1_prepare_110 : decode cX1_prepare 110 = .ok (.aload_n 0, 1) := by decide +kernel
theorem dX1_prepare_111 : decode cX1_prepare 111 = .ok (.getfield 22, 3) := by decide +kernel
theorem dX1_prepare_114 : decode cX1_prepare 114 = .ok (.iload 5, 2) := by decide +kernel
theorem dX1_prepare_116 : decode cX1_prepare 116 = .ok (.iconst 1, 1) := by decide +kernel
theorem dX1_prepare_117 : decode cX1_prepare 117 = .ok (.isub, 1) := by decide +kernel
theorem dX1_prepare_118 : decode cX1_prepare 118 = .ok (.laload, 1) := by decide +kernel
theorem dX1_prepare_119 : decode cX1_prepare 119 = .ok (.aload_n 0, 1) := by decide +kernel
theorem dX1_prepare_120 : decode cX1_prepare 120 = .ok (.getfield 26, 3) := by decide +kernel
theorem dX1_prepare_123 : decode cX1_prepare 123 = .ok (.iload_n 1, 1) := by decide +kernel
theorem dX1_prepare_124 : decode cX1_prepare 124 = .ok (.invokestatic 49, 3) := by decide +kernel
theorem dX1_prepare_127 : decode cX1_prepare 127 = .ok (.lmul, 1) := by decide +kernel
theorem dX1_prepare_128 : decode cX1_prepare 128 = .ok (.lastore, 1) := by decide +kernel
theorem dX1_prepare_129 : decode cX1_prepare 129 = .ok (.iinc 5 1, 3) := by decide +kernel
theorem dX1_prepare_132 : decode cX1_prepare 132 = .ok (.goto (-42), 3) := by decide +kernel
theorem dX1_prepare_135 : decode cX1_prepare 135 = .ok (.return_, 1) := by decide +kernel
theorem dX1_writePoints_0 : decode cX1_writePoints 0 = .ok (.aload_n 0, 1) := by decide +kernel
theorem dX1_writePoints_1 : decode cX1_writePoints 1 = .ok (.getfield 12, 3) := by decide +kernel
theorem dX1_writePoints_4 : decode cX1_writePoints 4 = .ok (.invokevirtual 53, 3) := by decide +kernel
theorem dX1_writePoints_7 : decode cX1_writePoints 7 = .ok (.istore_n 3, 1) := by decide +kernel
theorem dX1_writePoints_8 : decode cX1_writePoints 8 = .ok (.iconst 0, 1) := by decide +kernel
theorem dX1_writePoints_9 : decode cX1_writePoints 9 = .ok (.istore 4, 2) := by decide +kernel
theorem dX1_writePoints_11 : decode cX1_writePoints 11 = .ok (.iload 4, 2) := by decide +kernel
theorem dX1_writePoints_13 : decode cX1_writePoints 13 = .ok (.iload_n 3, 1) := by decide +kernel
theorem dX1_writePoints_14 : decode cX1_writePoints 14 = .ok (.if_icmp .ge 99, 3) := by decide +kernel
theorem dX1_writePoints_17 : decode cX1_writePoints 17 = .ok (.aload_n 2, 1) := by decide +kernel
theorem dX1_writePoints_18 : decode cX1_writePoints 18 = .ok (.aload_n 0, 1) := by decide +kernel
theorem dX1_writePoints_19 : decode cX1_writePoints 19 = .ok (.getfield 12, 3) := by decide +kernel
theorem dX1_writePoints_22 : decode cX1_writePoints 22 = .ok (.getfield 57, 3) := by decide +kernel
theorem dX1_writePoints_25 : decode cX1_writePoints 25 = .ok (.aload_n 0, 1) := by decide +kernel
theorem dX1_writePoints_26 : decode cX1_writePoints 26 = .ok (.getfield 12, 3) := by decide +kernel
theorem dX1_writePoints_29 : decode cX1_writePoints 29 = .ok (.getfield 60, 3) := by decide +kernel
theorem dX1_writePoints_32 : decode cX1_writePoints 32 = .ok (.iload 4, 2) := by decide +kernel
theorem dX1_writePoints_34 : decode cX1_writePoints 34 = .ok (.iadd, 1) := by decide +kernel
theorem dX1_writePoints_35 : decode cX1_writePoints 35 = .ok (.invokestatic 63, 3) := by decide +kernel
theorem dX1_writePoints_38 : decode cX1_writePoints 38 = .ok (.aload_n 0, 1) := by decide +kernel
theorem dX1_writePoints_39 : decode cX1_writePoints 39 = .ok (.getfield 12, 3) := by decide +kernel
theorem dX1_writePoints_42 : decode cX1_writePoints 42 = .ok (.getfield 66, 3) := by decide +kernel
theorem dX1_writePoints_45 : decode cX1_writePoints 45 = .ok (.aload_n 0, 1) := by decide +kernel
theorem dX1_writePoints_46 : decode cX1_writePoints 46 = .ok (.getfield 12, 3) := by decide +kernel
theorem dX1_writePoints_49 : decode cX1_writePoints 49 = .ok (.getfield 69, 3) := by decide +kernel
theorem dX1_writePoints_52 : decode cX1_writePoints 52 = .ok (.invokevirtual 72, 3) := by decide +kernel
theorem dX1_writePoints_55 : decode cX1_writePoints 55 = .ok (.pop, 1) := by decide +kernel
theorem dX1_writePoints_56 : decode cX1_writePoints 56 = .ok (.iconst 0, 1) := by decide +kernel
theorem dX1_writePoints_57 : decode cX1_writePoints 57 = .ok (.istore 5, 2) := by decide +kernel
theorem dX1_writePoints_59 : decode cX1_writePoints 59 = .ok (.iload 5, 2) := by decide +kernel
theorem dX1_writePoints_61 : decode cX1_writePoints 61 = .ok (.aload_n 0, 1) := by decide +kernel
theorem dX1_writePoints_62 : decode cX1_writePoints 62 = .ok (.getfield 33, 3) := by decide +kernel
theorem dX1_writePoints_65 : decode cX1_writePoints 65 = .ok (.if_icmp .ge 42, 3) := by decide +kernel
theorem dX1_writePoints_68 : decode cX1_writePoints 68 = .ok (.iload 5, 2) := by decide +kernel
theorem dX1_writePoints_70 : decode cX1_writePoints 70 = .ok (.iload_n 3, 1) := by decide +kernel
theorem dX1_writePoints_71 : decode cX1_writePoints 71 = .ok (.imul, 1) := by decide +kernel
theorem dX1_writePoints_72 : decode cX1_writePoints 72 = .ok (.iload 4, 2) := by decide +kernel
theorem dX1_writePoints_74 : decode cX1_writePoints 74 = .ok (.iadd, 1) := by decide +kernel
theorem dX1_writePoints_75 : decode cX1_writePoints 75 = .ok (.sipush 756, 3) := by decide +kernel
theorem dX1_writePoints_78 : decode cX1_writePoints 78 = .ok (.if_icmp .ge 29, 3) := by decide +kernel
theorem dX1_writePoints_81 : decode cX1_writePoints 81 = .ok (.aload_n 0, 1) := by decide +kernel
theorem dX1_writePoints_82 : decode cX1_writePoints 82 = .ok (.getfield 18, 3) := by decide +kernel
theorem dX1_writePoints_85 : decode cX1_writePoints 85 = .ok (.iload 5, 2) := by decide +kernel
theorem dX1_writePoints_87 : decode cX1_writePoints 87 = .ok (.iload_n 3, 1) := by decide +kernel
theorem dX1_writePoints_88 : decode cX1_writePoints 88 = .ok (.imul, 1) := by decide +kernel
theorem dX1_writePoints_89 : decode cX1_writePoints 89 = .ok (.iload 4, 2) := by decide +kernel
theorem dX1_writePoints_91 : decode cX1_writePoints 91 = .ok (.iadd, 1) := by decide +kernel
theorem dX1_writePoints_92 : decode cX1_writePoints 92 = .ok (.aload_n 1, 1) := by decide +kernel
theorem dX1_writePoints_93 : decode cX1_writePoints 93 = .ok (.iload 5, 2) := by decide +kernel
theorem dX1_writePoints_95 : decode cX1_writePoints 95 = .ok (.aaload, 1) := by decide +kernel
theorem dX1_writePoints_96 : decode cX1_writePoints 96 = .ok (.aload_n 2, 1) := by decide +kernel
theorem dX1_writePoints_97 : decode cX1_writePoints 97 = .ok (.invokevirtual 78, 3) := by decide +kernel
theorem dX1_writePoints_100 : decode cX1_writePoints 100 = .ok (.iastore, 1) := by decide +kernel
theorem dX1_writePoints_101 : decode cX1_writePoints 101 = .ok (.iinc 5 1, 3) := by decide +kernel
theorem dX1_writePoints_104 : decode cX1_writePoints 104 = .ok (.goto (-45), 3) := by decide +kernel
theorem dX1_writePoints_107 : decode cX1_writePoints 107 = .ok (.iinc 4 1, 3) := by decide +kernel
theorem dX1_writePoints_110 : decode cX1_writePoints 110 = .ok (.goto (-99), 3) := by decide +kernel
theorem dX1_writePoints_113 : decode cX1_writePoints 113 = .ok (.return_, 1) := by decide +kernel
theorem dX1_pointsAt_0 : decode cX1_pointsAt 0 = .ok (.aload_n 0, 1) := by decide +kernel
theorem dX1_pointsAt_1 : decode cX1_pointsAt 1 = .ok (.getfield 18, 3) := by decide +kernel
theorem dX1_pointsAt_4 : decode cX1_pointsAt 4 = .ok (.iload_n 1, 1) := by decide +kernel
theorem dX1_pointsAt_5 : decode cX1_pointsAt 5 = .ok (.aload_n 0, 1) := by decide +kernel
theorem dX1_pointsAt_6 : decode cX1_pointsAt 6 = .ok (.getfield 12, 3) := by decide +kernel
theorem dX1_pointsAt_9 : decode cX1_pointsAt 9 = .ok (.invokevirtual 53, 3) := by decide +kernel
theorem dX1_pointsAt_12 : decode cX1_pointsAt 12 = .ok (.imul, 1) := by decide +kernel
theorem dX1_pointsAt_13 : decode cX1_pointsAt 13 = .ok (.iload_n 2, 1) := by decide +kernel
theorem dX1_pointsAt_14 : decode cX1_pointsAt 14 = .ok (.iadd, 1) := by decide +kernel
theorem dX1_pointsAt_15 : decode cX1_pointsAt 15 = .ok (.aload_n 0, 1) := by decide +kernel
theorem dX1_pointsAt_16 : decode cX1_pointsAt 16 = .ok (.getfield 12, 3) := by decide +kernel
theorem dX1_pointsAt_19 : decode cX1_pointsAt 19 = .ok (.getfield 60, 3) := by decide +kernel
theorem dX1_pointsAt_22 : decode cX1_pointsAt 22 = .ok (.isub, 1) := by decide +kernel
theorem dX1_pointsAt_23 : decode cX1_pointsAt 23 = .ok (.invokestatic 63, 3) := by decide +kernel
theorem dX1_pointsAt_26 : decode cX1_pointsAt 26 = .ok (.ireturn, 1) := by decide +kernel
theorem dX1_freeRows_0 : decode cX1_freeRows 0 = .ok (.aload_n 0, 1) := by decide +kernel
theorem dX1_freeRows_1 : decode cX1_freeRows 1 = .ok (.getfield 33, 3) := by decide +kernel
theorem dX1_freeRows_4 : decode cX1_freeRows 4 = .ok (.iload_n 1, 1) := by decide +kernel
theorem dX1_freeRows_5 : decode cX1_freeRows 5 = .ok (.invokestatic 84, 3) := by decide +kernel
theorem dX1_freeRows_8 : decode cX1_freeRows 8 = .ok (.isub, 1) := by decide +kernel
theorem dX1_freeRows_9 : decode cX1_freeRows 9 = .ok (.ireturn, 1) := by decide +kernel
theorem dX1_fullSheet_0 : decode cX1_fullSheet 0 = .ok (.iconst 1, 1) := by decide +kernel
theorem dX1_fullSheet_1 : decode cX1_fullSheet 1 = .ok (.aload_n 0, 1) := by decide +kernel
theorem dX1_fullSheet_2 : decode cX1_fullSheet 2 = .ok (.getfield 33, 3) := by decide +kernel
theorem dX1_fullSheet_5 : decode cX1_fullSheet 5 = .ok (.ishl, 1) := by decide +kernel
theorem dX1_fullSheet_6 : decode cX1_fullSheet 6 = .ok (.iconst 1, 1) := by decide +kernel
theorem dX1_fullSheet_7 : decode cX1_fullSheet 7 = .ok (.isub, 1) := by decide +kernel
theorem dX1_fullSheet_8 : decode cX1_fullSheet 8 = .ok (.ireturn, 1) := by decide +kernel
theorem dX1_isFree_0 : decode cX1_isFree 0 = .ok (.iload_n 1, 1) := by decide +kernel
theorem dX1_isFree_1 : decode cX1_isFree 1 = .ok (.iload_n 2, 1) := by decide +kernel
theorem dX1_isFree_2 : decode cX1_isFree 2 = .ok (.ishr, 1) := by decide +kernel
theorem dX1_isFree_3 : decode cX1_isFree 3 = .ok (.iconst 1, 1) := by decide +kernel
theorem dX1_isFree_4 : decode cX1_isFree 4 = .ok (.iand, 1) := by decide +kernel
theorem dX1_isFree_5 : decode cX1_isFree 5 = .ok (.ifCond .ne 7, 3) := by decide +kernel
theorem dX1_isFree_8 : decode cX1_isFree 8 = .ok (.iconst 1, 1) := by decide +kernel
theorem dX1_isFree_9 : decode cX1_isFree 9 = .ok (.goto 4, 3) := by decide +kernel
theorem dX1_isFree_12 : decode cX1_isFree 12 = .ok (.iconst 0, 1) := by decide +kernel
theorem dX1_isFree_13 : decode cX1_isFree 13 = .ok (.ireturn, 1) := by decide +kernel
theorem dX1_unitBefore_0 : decode cX1_unitBefore 0 = .ok (.aload_n 0, 1) := by decide +kernel
theorem dX1_unitBefore_1 : decode cX1_unitBefore 1 = .ok (.getfield 22, 3) := by decide +kernel
theorem dX1_unitBefore_4 : decode cX1_unitBefore 4 = .ok (.aload_n 0, 1) := by decide +kernel
theorem dX1_unitBefore_5 : decode cX1_unitBefore 5 = .ok (.getfield 29, 3) := by decide +kernel
theorem dX1_unitBefore_8 : decode cX1_unitBefore 8 = .ok (.aload_n 0, 1) := by decide +kernel
theorem dX1_unitBefore_9 : decode cX1_unitBefore 9 = .ok (.iload_n 1, 1) := by decide +kernel
theorem dX1_unitBefore_10 : decode cX1_unitBefore 10 = .ok (.invokevirtual 90, 3) := by decide +kernel
theorem dX1_unitBefore_13 : decode cX1_unitBefore 13 = .ok (.imul, 1) := by decide +kernel
theorem dX1_unitBefore_14 : decode cX1_unitBefore 14 = .ok (.invokestatic 49, 3) := by decide +kernel
theorem dX1_unitBefore_17 : decode cX1_unitBefore 17 = .ok (.lreturn, 1) := by decide +kernel
theorem dX2_init_0 : decode cX2_init 0 = .ok (.aload_n 0, 1) := by decide +kernel
theorem dX2_init_1 : decode cX2_init 1 = .ok (.invokespecial 3, 3) := by decide +kernel
theorem dX2_init_4 : decode cX2_init 4 = .ok (.aload_n 0, 1) := by decide +kernel
theorem dX2_init_5 : decode cX2_init 5 = .ok (.sipush 462, 3) := by decide +kernel
theorem dX2_init_8 : decode cX2_init 8 = .ok (.newarray .int, 2) := by decide +kernel
theorem dX2_init_10 : decode cX2_init 10 = .ok (.putfield 9, 3) := by decide +kernel
theorem dX2_init_13 : decode cX2_init 13 = .ok (.aload_n 0, 1) := by decide +kernel
theorem dX2_init_14 : decode cX2_init 14 = .ok (.sipush 462, 3) := by decide +kernel
theorem dX2_init_17 : decode cX2_init 17 = .ok (.newarray .int, 2) := by decide +kernel
theorem dX2_init_19 : decode cX2_init 19 = .ok (.putfield 15, 3) := by decide +kernel
theorem dX2_init_22 : decode cX2_init 22 = .ok (.aload_n 0, 1) := by decide +kernel
theorem dX2_init_23 : decode cX2_init 23 = .ok (.sipush 462, 3) := by decide +kernel
theorem dX2_init_26 : decode cX2_init 26 = .ok (.newarray .int, 2) := by decide +kernel
theorem dX2_init_28 : decode cX2_init 28 = .ok (.putfield 18, 3) := by decide +kernel
theorem dX2_init_31 : decode cX2_init 31 = .ok (.aload_n 0, 1) := by decide +kernel
theorem dX2_init_32 : decode cX2_init 32 = .ok (.sipush 2772, 3) := by decide +kernel
theorem dX2_init_35 : decode cX2_init 35 = .ok (.newarray .int, 2) := by decide +kernel
theorem dX2_init_37 : decode cX2_init 37 = .ok (.putfield 21, 3) := by decide +kernel
theorem dX2_init_40 : decode cX2_init 40 = .ok (.aload_n 0, 1) := by decide +kernel
theorem dX2_init_41 : decode cX2_init 41 = .ok (.iconst 0, 1) := by decide +kernel
theorem dX2_init_42 : decode cX2_init 42 = .ok (.putfield 24, 3) := by decide +kernel
theorem dX2_init_45 : decode cX2_init 45 = .ok (.aload_n 0, 1) := by decide +kernel
theorem dX2_init_46 : decode cX2_init 46 = .ok (.iconst 0, 1) := by decide +kernel
theorem dX2_init_47 : decode cX2_init 47 = .ok (.putfield 28, 3) := by decide +kernel
theorem dX2_init_50 : decode cX2_init 50 = .ok (.aload_n 0, 1) := by decide +kernel
theorem dX2_init_51 : decode cX2_init 51 = .ok (.iconst 1, 1) := by decide +kernel
theorem dX2_init_52 : decode cX2_init 52 = .ok (.putfield 31, 3) := by decide +kernel
theorem dX2_init_55 : decode cX2_init 55 = .ok (.aload_n 0, 1) := by decide +kernel
theorem dX2_init_56 : decode cX2_init 56 = .ok (.iconst 0, 1) := by decide +kernel
theorem dX2_init_57 : decode cX2_init 57 = .ok (.putfield 34, 3) := by decide +kernel
theorem dX2_init_60 : decode cX2_init 60 = .ok (.return_, 1) := by decide +kernel
theorem dX2_build_0 : decode cX2_build 0 = .ok (.aload_n 0, 1) := by decide +kernel
theorem dX2_build_1 : decode cX2_build 1 = .ok (.getfield 24, 3) := by decide +kernel
theorem dX2_build_4 : decode cX2_build 4 = .ok (.iload_n 1, 1) := by decide +kernel
theorem dX2_build_5 : decode cX2_build 5 = .ok (.if_icmp .ne 12, 3) := by decide +kernel
theorem dX2_build_8 : decode cX2_build 8 = .ok (.aload_n 0, 1) := by decide +kernel
theorem dX2_build_9 : decode cX2_build 9 = .ok (.getfield 28, 3) := by decide +kernel
theorem dX2_build_12 : decode cX2_build 12 = .ok (.iload_n 2, 1) := by decide +kernel
theorem dX2_build_13 : decode cX2_build 13 = .ok (.if_icmp .ne 4, 3) := by decide +kernel
theorem dX2_build_16 : decode cX2_build 16 = .ok (.return_, 1) := by decide +kernel
theorem dX2_build_17 : decode cX2_build 17 = .ok (.aload_n 0, 1) := by decide +kernel
theorem dX2_build_18 : decode cX2_build 18 = .ok (.iload_n 1, 1) := by decide +kernel
theorem dX2_build_19 : decode cX2_build 19 = .ok (.putfield 24, 3) := by decide +kernel
theorem dX2_build_22 : decode cX2_build 22 = .ok (.aload_n 0, 1) := by decide +kernel
theorem dX2_build_23 : decode cX2_build 23 = .ok (.iload_n 2, 1) := by decide +kernel
theorem dX2_build_24 : decode cX2_build 24 = .ok (.putfield 28, 3) := by decide +kernel
theorem dX2_build_27 : decode cX2_build 27 = .ok (.aload_n 0, 1) := by decide +kernel
theorem dX2_build_28 : decode cX2_build 28 = .ok (.iconst 1, 1) := by decide +kernel
theorem dX2_build_29 : decode cX2_build 29 = .ok (.putfield 31, 3) := by decide +kernel
theorem dX2_build_32 : decode cX2_build 32 = .ok (.aload_n 0, 1) := by decide +kernel
theorem dX2_build_33 : decode cX2_build 33 = .ok (.iconst 0, 1) := by decide +kernel
theorem dX2_build_34 : decode cX2_build 34 = .ok (.putfield 34, 3) := by decide +kernel
theorem dX2_build_37 : decode cX2_build 37 = .ok (.iconst 0, 1) := by decide +kernel
theorem dX2_build_38 : decode cX2_build 38 = .ok (.istore_n 3, 1) := by decide +kernel
theorem dX2_build_39 : decode cX2_build 39 = .ok (.iload_n 3, 1) := by decide +kernel
theorem dX2_build_40 : decode cX2_build 40 = .ok (.aload_n 0, 1) := by decide +kernel
theorem dX2_build_41 : decode cX2_build 41 = .ok (.getfield 24, 3) := by decide +kernel
theorem dX2_build_44 : decode cX2_build 44 = .ok (.if_icmp .ge 41, 3) := by decide +kernel
theorem dX2_build_47 : decode cX2_build 47 = .ok (.aload_n 0, 1) := by decide +kernel
theorem dX2_build_48 : decode cX2_build 48 = .ok (.getfield 31, 3) := by decide +kernel
theorem dX2_build_51 : decode cX2_build 51 = .ok (.istore 4, 2) := by decide +kernel
theorem dX2_build_53 : decode cX2_build 53 = .ok (.aload_n 0, 1) := by decide +kernel
theorem dX2_build_54 : decode cX2_build 54 = .ok (.aload_n 0, 1) := by decide +kernel
theorem dX2_build_55 : decode cX2_build 55 = .ok (.getfield 34, 3) := by decide +kernel
theorem dX2_build_58 : decode cX2_build 58 = .ok (.iload 4, 2) := by decide +kernel
theorem dX2_build_60 : decode cX2_build 60 = .ok (.invokevirtual 37, 3) := by decide +kernel
theorem dX2_build_63 : decode cX2_build 63 = .ok (.aload_n 0, 1) := by decide +kernel
theorem dX2_build_64 : decode cX2_build 64 = .ok (.aload_n 0, 1) := by decide +kernel
theorem dX2_build_65 : decode cX2_build 65 = .ok (.getfield 34, 3) := by decide +kernel
theorem dX2_build_68 : decode cX2_build 68 = .ok (.iload 4, 2) := by decide +kernel
theorem dX2_build_70 : decode cX2_build 70 = .ok (.invokevirtual 41, 3) := by decide +kernel
theorem dX2_build_73 : decode cX2_build 73 = .ok (.aload_n 0, 1) := by decide +kernel
theorem dX2_build_74 : decode cX2_build 74 = .ok (.iload 4, 2) := by decide +kernel
theorem dX2_build_76 : decode cX2_build 76 = .ok (.putfield 34, 3) := by decide +kernel
theorem dX2_build_79 : decode cX2_build 79 = .ok (.iinc 3 1, 3) := by decide +kernel

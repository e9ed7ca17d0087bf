theorem dX8_fill_89 : decode cX8_fill 89 = .ok (.iadd, 1) := by decide +kernel
theorem dX8_fill_90 : decode cX8_fill 90 = .ok (.putfield 144, 3) := by decide +kernel
theorem dX8_fill_93 : decode cX8_fill 93 = .ok (.aload_n 0, 1) := by decide +kernel
theorem dX8_fill_94 : decode cX8_fill 94 = .ok (.aload_n 0, 1) := by decide +kernel
theorem dX8_fill_95 : decode cX8_fill 95 = .ok (.getfield 141, 3) := by decide +kernel
theorem dX8_fill_98 : decode cX8_fill 98 = .ok (.iconst 1, 1) := by decide +kernel
theorem dX8_fill_99 : decode cX8_fill 99 = .ok (.iload_n 1, 1) := by decide +kernel
theorem dX8_fill_100 : decode cX8_fill 100 = .ok (.ishl, 1) := by decide +kernel
theorem dX8_fill_101 : decode cX8_fill 101 = .ok (.ior, 1) := by decide +kernel
theorem dX8_fill_102 : decode cX8_fill 102 = .ok (.putfield 141, 3) := by decide +kernel
theorem dX8_fill_105 : decode cX8_fill 105 = .ok (.aload_n 0, 1) := by decide +kernel
theorem dX8_fill_106 : decode cX8_fill 106 = .ok (.iconst 0, 1) := by decide +kernel
theorem dX8_fill_107 : decode cX8_fill 107 = .ok (.putfield 147, 3) := by decide +kernel
theorem dX8_fill_110 : decode cX8_fill 110 = .ok (.aload_n 0, 1) := by decide +kernel
theorem dX8_fill_111 : decode cX8_fill 111 = .ok (.iconst 0, 1) := by decide +kernel
theorem dX8_fill_112 : decode cX8_fill 112 = .ok (.putfield 153, 3) := by decide +kernel
theorem dX8_fill_115 : decode cX8_fill 115 = .ok (.aload_n 0, 1) := by decide +kernel
theorem dX8_fill_116 : decode cX8_fill 116 = .ok (.iconst 0, 1) := by decide +kernel
theorem dX8_fill_117 : decode cX8_fill 117 = .ok (.putfield 156, 3) := by decide +kernel
theorem dX8_fill_120 : decode cX8_fill 120 = .ok (.aload_n 0, 1) := by decide +kernel
theorem dX8_fill_121 : decode cX8_fill 121 = .ok (.dup, 1) := by decide +kernel
theorem dX8_fill_122 : decode cX8_fill 122 = .ok (.getfield 162, 3) := by decide +kernel
theorem dX8_fill_125 : decode cX8_fill 125 = .ok (.lload_n 2, 1) := by decide +kernel
theorem dX8_fill_126 : decode cX8_fill 126 = .ok (.aload_n 0, 1) := by decide +kernel
theorem dX8_fill_127 : decode cX8_fill 127 = .ok (.invokevirtual 178, 3) := by decide +kernel
theorem dX8_fill_130 : decode cX8_fill 130 = .ok (.lsub, 1) := by decide +kernel
theorem dX8_fill_131 : decode cX8_fill 131 = .ok (.ladd, 1) := by decide +kernel
theorem dX8_fill_132 : decode cX8_fill 132 = .ok (.putfield 162, 3) := by decide +kernel
theorem dX8_fill_135 : decode cX8_fill 135 = .ok (.iload 4, 2) := by decide +kernel
theorem dX8_fill_137 : decode cX8_fill 137 = .ok (.ireturn, 1) := by decide +kernel
theorem dX8_unit_0 : decode cX8_unit 0 = .ok (.aload_n 0, 1) := by decide +kernel
theorem dX8_unit_1 : decode cX8_unit 1 = .ok (.getfield 82, 3) := by decide +kernel
theorem dX8_unit_4 : decode cX8_unit 4 = .ok (.ifCond .eq 10, 3) := by decide +kernel
theorem dX8_unit_7 : decode cX8_unit 7 = .ok (.aload_n 0, 1) := by decide +kernel
theorem dX8_unit_8 : decode cX8_unit 8 = .ok (.invokevirtual 172, 3) := by decide +kernel
theorem dX8_unit_11 : decode cX8_unit 11 = .ok (.goto 6, 3) := by decide +kernel
theorem dX8_unit_14 : decode cX8_unit 14 = .ok (.ldc2_w 198, 3) := by decide +kernel
theorem dX8_unit_17 : decode cX8_unit 17 = .ok (.lreturn, 1) := by decide +kernel
theorem dX8_worth_0 : decode cX8_worth 0 = .ok (.aload_n 0, 1) := by decide +kernel
theorem dX8_worth_1 : decode cX8_worth 1 = .ok (.getfield 82, 3) := by decide +kernel
theorem dX8_worth_4 : decode cX8_worth 4 = .ok (.ifCond .eq 10, 3) := by decide +kernel
theorem dX8_worth_7 : decode cX8_worth 7 = .ok (.aload_n 0, 1) := by decide +kernel
theorem dX8_worth_8 : decode cX8_worth 8 = .ok (.invokevirtual 168, 3) := by decide +kernel
theorem dX8_worth_11 : decode cX8_worth 11 = .ok (.goto 6, 3) := by decide +kernel
theorem dX8_worth_14 : decode cX8_worth 14 = .ok (.ldc2_w 198, 3) := by decide +kernel
theorem dX8_worth_17 : decode cX8_worth 17 = .ok (.lreturn, 1) := by decide +kernel
theorem dX8_worthOf_0 : decode cX8_worthOf 0 = .ok (.aload_n 0, 1) := by decide +kernel
theorem dX8_worthOf_1 : decode cX8_worthOf 1 = .ok (.invokevirtual 192, 3) := by decide +kernel
theorem dX8_worthOf_4 : decode cX8_worthOf 4 = .ok (.ifCond .ne 7, 3) := by decide +kernel
theorem dX8_worthOf_7 : decode cX8_worthOf 7 = .ok (.ldc2_w 198, 3) := by decide +kernel
theorem dX8_worthOf_10 : decode cX8_worthOf 10 = .ok (.lreturn, 1) := by decide +kernel
theorem dX8_worthOf_11 : decode cX8_worthOf 11 = .ok (.aload_n 0, 1) := by decide +kernel
theorem dX8_worthOf_12 : decode cX8_worthOf 12 = .ok (.iload_n 1, 1) := by decide +kernel
theorem dX8_worthOf_13 : decode cX8_worthOf 13 = .ok (.invokevirtual 195, 3) := by decide +kernel
theorem dX8_worthOf_16 : decode cX8_worthOf 16 = .ok (.istore_n 2, 1) := by decide +kernel
theorem dX8_worthOf_17 : decode cX8_worthOf 17 = .ok (.iload_n 2, 1) := by decide +kernel
theorem dX8_worthOf_18 : decode cX8_worthOf 18 = .ok (.iconst (-1), 1) := by decide +kernel
theorem dX8_worthOf_19 : decode cX8_worthOf 19 = .ok (.if_icmp .ne 9, 3) := by decide +kernel
theorem dX8_worthOf_22 : decode cX8_worthOf 22 = .ok (.ldc2_w 200, 3) := by decide +kernel
theorem dX8_worthOf_25 : decode cX8_worthOf 25 = .ok (.goto 8, 3) := by decide +kernel
theorem dX8_worthOf_28 : decode cX8_worthOf 28 = .ok (.aload_n 0, 1) := by decide +kernel
theorem dX8_worthOf_29 : decode cX8_worthOf 29 = .ok (.iload_n 2, 1) := by decide +kernel
theorem dX8_worthOf_30 : decode cX8_worthOf 30 = .ok (.invokevirtual 165, 3) := by decide +kernel
theorem dX8_worthOf_33 : decode cX8_worthOf 33 = .ok (.lreturn, 1) := by decide +kernel
theorem dX8_bestHold_0 : decode cX8_bestHold 0 = .ok (.aload_n 0, 1) := by decide +kernel
theorem dX8_bestHold_1 : decode cX8_bestHold 1 = .ok (.invokevirtual 192, 3) := by decide +kernel
theorem dX8_bestHold_4 : decode cX8_bestHold 4 = .ok (.ifCond .ne 6, 3) := by decide +kernel
theorem dX8_bestHold_7 : decode cX8_bestHold 7 = .ok (.bipush (-4), 2) := by decide +kernel
theorem dX8_bestHold_9 : decode cX8_bestHold 9 = .ok (.ireturn, 1) := by decide +kernel
theorem dX8_bestHold_10 : decode cX8_bestHold 10 = .ok (.aload_n 0, 1) := by decide +kernel
theorem dX8_bestHold_11 : decode cX8_bestHold 11 = .ok (.aload_n 0, 1) := by decide +kernel
theorem dX8_bestHold_12 : decode cX8_bestHold 12 = .ok (.getfield 141, 3) := by decide +kernel
theorem dX8_bestHold_15 : decode cX8_bestHold 15 = .ok (.invokevirtual 138, 3) := by decide +kernel
theorem dX8_bestHold_18 : decode cX8_bestHold 18 = .ok (.aload_n 0, 1) := by decide +kernel
theorem dX8_bestHold_19 : decode cX8_bestHold 19 = .ok (.aload_n 0, 1) := by decide +kernel
theorem dX8_bestHold_20 : decode cX8_bestHold 20 = .ok (.getfield 156, 3) := by decide +kernel
theorem dX8_bestHold_23 : decode cX8_bestHold 23 = .ok (.invokevirtual 99, 3) := by decide +kernel
theorem dX8_bestHold_26 : decode cX8_bestHold 26 = .ok (.iconst (-1), 1) := by decide +kernel
theorem dX8_bestHold_27 : decode cX8_bestHold 27 = .ok (.istore_n 1, 1) := by decide +kernel
theorem dX8_bestHold_28 : decode cX8_bestHold 28 = .ok (.iconst 0, 1) := by decide +kernel
theorem dX8_bestHold_29 : decode cX8_bestHold 29 = .ok (.istore_n 2, 1) := by decide +kernel
theorem dX8_bestHold_30 : decode cX8_bestHold 30 = .ok (.iload_n 2, 1) := by decide +kernel
theorem dX8_bestHold_31 : decode cX8_bestHold 31 = .ok (.aload_n 0, 1) := by decide +kernel
theorem dX8_bestHold_32 : decode cX8_bestHold 32 = .ok (.getfield 71, 3) := by decide +kernel
theorem dX8_bestHold_35 : decode cX8_bestHold 35 = .ok (.if_icmp .ge 37, 3) := by decide +kernel
theorem dX8_bestHold_38 : decode cX8_bestHold 38 = .ok (.aload_n 0, 1) := by decide +kernel
theorem dX8_bestHold_39 : decode cX8_bestHold 39 = .ok (.iload_n 2, 1) := by decide +kernel
theorem dX8_bestHold_40 : decode cX8_bestHold 40 = .ok (.aload_n 0, 1) := by decide +kernel
theorem dX8_bestHold_41 : decode cX8_bestHold 41 = .ok (.getfield 153, 3) := by decide +kernel
theorem dX8_bestHold_44 : decode cX8_bestHold 44 = .ok (.invokevirtual 103, 3) := by decide +kernel
theorem dX8_bestHold_47 : decode cX8_bestHold 47 = .ok (.ifCond .eq 19, 3) := by decide +kernel
theorem dX8_bestHold_50 : decode cX8_bestHold 50 = .ok (.iload_n 1, 1) := by decide +kernel
theorem dX8_bestHold_51 : decode cX8_bestHold 51 = .ok (.iconst (-1), 1) := by decide +kernel
theorem dX8_bestHold_52 : decode cX8_bestHold 52 = .ok (.if_icmp .eq 12, 3) := by decide +kernel
theorem dX8_bestHold_55 : decode cX8_bestHold 55 = .ok (.aload_n 0, 1) := by decide +kernel
theorem dX8_bestHold_56 : decode cX8_bestHold 56 = .ok (.iload_n 2, 1) := by decide +kernel
theorem dX8_bestHold_57 : decode cX8_bestHold 57 = .ok (.iload_n 1, 1) := by decide +kernel
theorem dX8_bestHold_58 : decode cX8_bestHold 58 = .ok (.invokevirtual 202, 3) := by decide +kernel
theorem dX8_bestHold_61 : decode cX8_bestHold 61 = .ok (.ifCond .eq 5, 3) := by decide +kernel
theorem dX8_bestHold_64 : decode cX8_bestHold 64 = .ok (.iload_n 2, 1) := by decide +kernel
theorem dX8_bestHold_65 : decode cX8_bestHold 65 = .ok (.istore_n 1, 1) := by decide +kernel
theorem dX8_bestHold_66 : decode cX8_bestHold 66 = .ok (.iinc 2 1, 3) := by decide +kernel
theorem dX8_bestHold_69 : decode cX8_bestHold 69 = .ok (.goto (-39), 3) := by decide +kernel
theorem dX8_bestHold_72 : decode cX8_bestHold 72 = .ok (.aload_n 0, 1) := by decide +kernel
theorem dX8_bestHold_73 : decode cX8_bestHold 73 = .ok (.getfield 35, 3) := by decide +kernel
theorem dX8_bestHold_76 : decode cX8_bestHold 76 = .ok (.iload_n 1, 1) := by decide +kernel
theorem dX8_bestHold_77 : decode cX8_bestHold 77 = .ok (.iaload, 1) := by decide +kernel
theorem dX8_bestHold_78 : decode cX8_bestHold 78 = .ok (.ireturn, 1) := by decide +kernel
theorem dX8_isBetter_0 : decode cX8_isBetter 0 = .ok (.aload_n 0, 1) := by decide +kernel
theorem dX8_isBetter_1 : decode cX8_isBetter 1 = .ok (.getfield 57, 3) := by decide +kernel
theorem dX8_isBetter_4 : decode cX8_isBetter 4 = .ok (.iload_n 1, 1) := by decide +kernel
theorem dX8_isBetter_5 : decode cX8_isBetter 5 = .ok (.laload, 1) := by decide +kernel
theorem dX8_isBetter_6 : decode cX8_isBetter 6 = .ok (.aload_n 0, 1) := by decide +kernel
theorem dX8_isBetter_7 : decode cX8_isBetter 7 = .ok (.getfield 47, 3) := by decide +kernel
theorem dX8_isBetter_10 : decode cX8_isBetter 10 = .ok (.aload_n 0, 1) := by decide +kernel
theorem dX8_isBetter_11 : decode cX8_isBetter 11 = .ok (.getfield 32, 3) := by decide +kernel
theorem dX8_isBetter_14 : decode cX8_isBetter 14 = .ok (.iload_n 1, 1) := by decide +kernel
theorem dX8_isBetter_15 : decode cX8_isBetter 15 = .ok (.iaload, 1) := by decide +kernel
theorem dX8_isBetter_16 : decode cX8_isBetter 16 = .ok (.laload, 1) := by decide +kernel
theorem dX8_isBetter_17 : decode cX8_isBetter 17 = .ok (.lmul, 1) := by decide +kernel
theorem dX8_isBetter_18 : decode cX8_isBetter 18 = .ok (.lstore_n 3, 1) := by decide +kernel
theorem dX8_isBetter_19 : decode cX8_isBetter 19 = .ok (.aload_n 0, 1) := by decide +kernel
theorem dX8_isBetter_20 : decode cX8_isBetter 20 = .ok (.getfield 57, 3) := by decide +kernel
theorem dX8_isBetter_23 : decode cX8_isBetter 23 = .ok (.iload_n 2, 1) := by decide +kernel
theorem dX8_isBetter_24 : decode cX8_isBetter 24 = .ok (.laload, 1) := by decide +kernel
theorem dX8_isBetter_25 : decode cX8_isBetter 25 = .ok (.aload_n 0, 1) := by decide +kernel
theorem dX8_isBetter_26 : decode cX8_isBetter 26 = .ok (.getfield 47, 3) := by decide +kernel
theorem dX8_isBetter_29 : decode cX8_isBetter 29 = .ok (.aload_n 0, 1) := by decide +kernel
theorem dX8_isBetter_30 : decode cX8_isBetter 30 = .ok (.getfield 32, 3) := by decide +kernel
theorem dX8_isBetter_33 : decode cX8_isBetter 33 = .ok (.iload_n 2, 1) := by decide +kernel
theorem dX8_isBetter_34 : decode cX8_isBetter 34 = .ok (.iaload, 1) := by decide +kernel
theorem dX8_isBetter_35 : decode cX8_isBetter 35 = .ok (.laload, 1) := by decide +kernel
theorem dX8_isBetter_36 : decode cX8_isBetter 36 = .ok (.lmul, 1) := by decide +kernel
theorem dX8_isBetter_37 : decode cX8_isBetter 37 = .ok (.lstore 5, 2) := by decide +kernel
theorem dX8_isBetter_39 : decode cX8_isBetter 39 = .ok (.lload_n 3, 1) := by decide +kernel
theorem dX8_isBetter_40 : decode cX8_isBetter 40 = .ok (.lload 5, 2) := by decide +kernel
theorem dX8_isBetter_42 : decode cX8_isBetter 42 = .ok (.lcmp, 1) := by decide +kernel
theorem dX8_isBetter_43 : decode cX8_isBetter 43 = .ok (.ifCond .eq 16, 3) := by decide +kernel
theorem dX8_isBetter_46 : decode cX8_isBetter 46 = .ok (.lload_n 3, 1) := by decide +kernel
theorem dX8_isBetter_47 : decode cX8_isBetter 47 = .ok (.lload 5, 2) := by decide +kernel
theorem dX8_isBetter_49 : decode cX8_isBetter 49 = .ok (.lcmp, 1) := by decide +kernel
theorem dX8_isBetter_50 : decode cX8_isBetter 50 = .ok (.ifCond .le 7, 3) := by decide +kernel
theorem dX8_isBetter_53 : decode cX8_isBetter 53 = .ok (.iconst 1, 1) := by decide +kernel
theorem dX8_isBetter_54 : decode cX8_isBetter 54 = .ok (.goto 4, 3) := by decide +kernel
theorem dX8_isBetter_57 : decode cX8_isBetter 57 = .ok (.iconst 0, 1) := by decide +kernel
theorem dX8_isBetter_58 : decode cX8_isBetter 58 = .ok (.ireturn, 1) := by decide +kernel
theorem dX8_isBetter_59 : decode cX8_isBetter 59 = .ok (.aload_n 0, 1) := by decide +kernel
theorem dX8_isBetter_60 : decode cX8_isBetter 60 = .ok (.getfield 32, 3) := by decide +kernel
theorem dX8_isBetter_63 : decode cX8_isBetter 63 = .ok (.iload_n 1, 1) := by decide +kernel
theorem dX8_isBetter_64 : decode cX8_isBetter 64 = .ok (.iaload, 1) := by decide +kernel
theorem dX8_isBetter_65 : decode cX8_isBetter 65 = .ok (.aload_n 0, 1) := by decide +kernel
theorem dX8_isBetter_66 : decode cX8_isBetter 66 = .ok (.getfield 32, 3) := by decide +kernel
theorem dX8_isBetter_69 : decode cX8_isBetter 69 = .ok (.iload_n 2, 1) := by decide +kernel
theorem dX8_isBetter_70 : decode cX8_isBetter 70 = .ok (.iaload, 1) := by decide +kernel
theorem dX8_isBetter_71 : decode cX8_isBetter 71 = .ok (.if_icmp .eq 26, 3) := by decide +kernel
theorem dX8_isBetter_74 : decode cX8_isBetter 74 = .ok (.aload_n 0, 1) := by decide +kernel
theorem dX8_isBetter_75 : decode cX8_isBetter 75 = .ok (.getfield 32, 3) := by decide +kernel
theorem dX8_isBetter_78 : decode cX8_isBetter 78 = .ok (.iload_n 1, 1) := by decide +kernel
theorem dX8_isBetter_79 : decode cX8_isBetter 79 = .ok (.iaload, 1) := by decide +kernel
theorem dX8_isBetter_80 : decode cX8_isBetter 80 = .ok (.aload_n 0, 1) := by decide +kernel
theorem dX8_isBetter_81 : decode cX8_isBetter 81 = .ok (.getfield 32, 3) := by decide +kernel
theorem dX8_isBetter_84 : decode cX8_isBetter 84 = .ok (.iload_n 2, 1) := by decide +kernel
theorem dX8_isBetter_85 : decode cX8_isBetter 85 = .ok (.iaload, 1) := by decide +kernel
theorem dX8_isBetter_86 : decode cX8_isBetter 86 = .ok (.if_icmp .ge 7, 3) := by decide +kernel
theorem dX8_isBetter_89 : decode cX8_isBetter 89 = .ok (.iconst 1, 1) := by decide +kernel
theorem dX8_isBetter_90 : decode cX8_isBetter 90 = .ok (.goto 27, 3) := by decide +kernel
theorem dX8_isBetter_93 : decode cX8_isBetter 93 = .ok (.iconst 0, 1) := by decide +kernel
theorem dX8_isBetter_94 : decode cX8_isBetter 94 = .ok (.goto 23, 3) := by decide +kernel
theorem dX8_isBetter_97 : decode cX8_isBetter 97 = .ok (.aload_n 0, 1) := by decide +kernel
theorem dX8_isBetter_98 : decode cX8_isBetter 98 = .ok (.getfield 35, 3) := by decide +kernel
theorem dX8_isBetter_101 : decode cX8_isBetter 101 = .ok (.iload_n 1, 1) := by decide +kernel
theorem dX8_isBetter_102 : decode cX8_isBetter 102 = .ok (.iaload, 1) := by decide +kernel
theorem dX8_isBetter_103 : decode cX8_isBetter 103 = .ok (.aload_n 0, 1) := by decide +kernel
theorem dX8_isBetter_104 : decode cX8_isBetter 104 = .ok (.getfield 35, 3) := by decide +kernel
theorem dX8_isBetter_107 : decode cX8_isBetter 107 = .ok (.iload_n 2, 1) := by decide +kernel
theorem dX8_isBetter_108 : decode cX8_isBetter 108 = .ok (.iaload, 1) := by decide +kernel
theorem dX8_isBetter_109 : decode cX8_isBetter 109 = .ok (.if_icmp .ge 7, 3) := by decide +kernel
theorem dX8_isBetter_112 : decode cX8_isBetter 112 = .ok (.iconst 1, 1) := by decide +kernel
theorem dX8_isBetter_113 : decode cX8_isBetter 113 = .ok (.goto 4, 3) := by decide +kernel
theorem dX8_isBetter_116 : decode cX8_isBetter 116 = .ok (.iconst 0, 1) := by decide +kernel
theorem dX8_isBetter_117 : decode cX8_isBetter 117 = .ok (.ireturn, 1) := by decide +kernel
theorem dX8_bestRow_0 : decode cX8_bestRow 0 = .ok (.aload_n 0, 1) := by decide +kernel
theorem dX8_bestRow_1 : decode cX8_bestRow 1 = .ok (.getfield 82, 3) := by decide +kernel
theorem dX8_bestRow_4 : decode cX8_bestRow 4 = .ok (.ifCond .eq 17, 3) := by decide +kernel
theorem dX8_bestRow_7 : decode cX8_bestRow 7 = .ok (.aload_n 0, 1) := by decide +kernel
theorem dX8_bestRow_8 : decode cX8_bestRow 8 = .ok (.getfield 147, 3) := by decide +kernel
theorem dX8_bestRow_11 : decode cX8_bestRow 11 = .ok (.ifCond .eq 10, 3) := by decide +kernel
theorem dX8_bestRow_14 : decode cX8_bestRow 14 = .ok (.aload_n 0, 1) := by decide +kernel
theorem dX8_bestRow_15 : decode cX8_bestRow 15 = .ok (.getfield 150, 3) := by decide +kernel
theorem dX8_bestRow_18 : decode cX8_bestRow 18 = .ok (.ifCond .eq 6, 3) := by decide +kernel
theorem dX8_bestRow_21 : decode cX8_bestRow 21 = .ok (.bipush (-4), 2) := by decide +kernel
theorem dX8_bestRow_23 : decode cX8_bestRow 23 = .ok (.ireturn, 1) := by decide +kernel
theorem dX8_bestRow_24 : decode cX8_bestRow 24 = .ok (.aload_n 0, 1) := by decide +kernel
theorem dX8_bestRow_25 : decode cX8_bestRow 25 = .ok (.aload_n 0, 1) := by decide +kernel
theorem dX8_bestRow_26 : decode cX8_bestRow 26 = .ok (.getfield 153, 3) := by decide +kernel
theorem dX8_bestRow_29 : decode cX8_bestRow 29 = .ok (.aload_n 0, 1) := by decide +kernel
theorem dX8_bestRow_30 : decode cX8_bestRow 30 = .ok (.getfield 141, 3) := by decide +kernel
theorem dX8_bestRow_33 : decode cX8_bestRow 33 = .ok (.invokevirtual 120, 3) := by decide +kernel
theorem dX8_bestRow_36 : decode cX8_bestRow 36 = .ok (.lstore_n 1, 1) := by decide +kernel
theorem dX8_bestRow_37 : decode cX8_bestRow 37 = .ok (.lload_n 1, 1) := by decide +kernel
theorem dX8_bestRow_38 : decode cX8_bestRow 38 = .ok (.lconst 0, 1) := by decide +kernel
theorem dX8_bestRow_39 : decode cX8_bestRow 39 = .ok (.lcmp, 1) := by decide +kernel
theorem dX8_bestRow_40 : decode cX8_bestRow 40 = .ok (.ifCond .ge 8, 3) := by decide +kernel
theorem dX8_bestRow_43 : decode cX8_bestRow 43 = .ok (.bipush (-4), 2) := by decide +kernel
theorem dX8_bestRow_45 : decode cX8_bestRow 45 = .ok (.goto 7, 3) := by decide +kernel
theorem dX8_bestRow_48 : decode cX8_bestRow 48 = .ok (.aload_n 0, 1) := by decide +kernel
theorem dX8_bestRow_49 : decode cX8_bestRow 49 = .ok (.getfield 117, 3) := by decide +kernel
theorem dX8_bestRow_52 : decode cX8_bestRow 52 = .ok (.ireturn, 1) := by decide +kernel
theorem dX8_wants_0 : decode cX8_wants 0 = .ok (.sipush 501, 3) := by decide +kernel
theorem dX8_wants_3 : decode cX8_wants 3 = .ok (.iload_n 1, 1) := by decide +kernel
theorem dX8_wants_4 : decode cX8_wants 4 = .ok (.imul, 1) := by decide +kernel
theorem dX8_wants_5 : decode cX8_wants 5 = .ok (.iload_n 2, 1) := by decide +kernel
theorem dX8_wants_6 : decode cX8_wants 6 = .ok (.ifCond .ge 7, 3) := by decide +kernel
theorem dX8_wants_9 : decode cX8_wants 9 = .ok (.iconst 0, 1) := by decide +kernel
theorem dX8_wants_10 : decode cX8_wants 10 = .ok (.goto 4, 3) := by decide +kernel
theorem dX8_wants_13 : decode cX8_wants 13 = .ok (.iload_n 2, 1) := by decide +kernel
theorem dX8_wants_14 : decode cX8_wants 14 = .ok (.iadd, 1) := by decide +kernel
theorem dX8_wants_15 : decode cX8_wants 15 = .ok (.ireturn, 1) := by decide +kernel
theorem dX8_findChanceTurn_0 : decode cX8_findChanceTurn 0 = .ok (.iconst 0, 1) := by decide +kernel
theorem dX8_findChanceTurn_1 : decode cX8_findChanceTurn 1 = .ok (.istore_n 3, 1) := by decide +kernel
theorem dX8_findChanceTurn_2 : decode cX8_findChanceTurn 2 = .ok (.iload_n 3, 1) := by decide +kernel
theorem dX8_findChanceTurn_3 : decode cX8_findChanceTurn 3 = .ok (.aload_n 0, 1) := by decide +kernel
theorem dX8_findChanceTurn_4 : decode cX8_findChanceTurn 4 = .ok (.getfield 71, 3) := by decide +kernel
theorem dX8_findChanceTurn_7 : decode cX8_findChanceTurn 7 = .ok (.if_icmp .ge 112, 3) := by decide +kernel
theorem dX8_findChanceTurn_10 : decode cX8_findChanceTurn 10 = .ok (.aload_n 0, 1) := by decide +kernel
theorem dX8_findChanceTurn_11 : decode cX8_findChanceTurn 11 = .ok (.getfield 32, 3) := by decide +kernel
theorem dX8_findChanceTurn_14 : decode cX8_findChanceTurn 14 = .ok (.iload_n 3, 1) := by decide +kernel
theorem dX8_findChanceTurn_15 : decode cX8_findChanceTurn 15 = .ok (.iaload, 1) := by decide +kernel
theorem dX8_findChanceTurn_16 : decode cX8_findChanceTurn 16 = .ok (.aload_n 0, 1) := by decide +kernel
theorem dX8_findChanceTurn_17 : decode cX8_findChanceTurn 17 = .ok (.getfield 7, 3) := by decide +kernel
theorem dX8_findChanceTurn_20 : decode cX8_findChanceTurn 20 = .ok (.if_icmp .ne 93, 3) := by decide +kernel
theorem dX8_findChanceTurn_23 : decode cX8_findChanceTurn 23 = .ok (.lconst 0, 1) := by decide +kernel
theorem dX8_findChanceTurn_24 : decode cX8_findChanceTurn 24 = .ok (.lstore 4, 2) := by decide +kernel
theorem dX8_findChanceTurn_26 : decode cX8_findChanceTurn 26 = .ok (.iconst 0, 1) := by decide +kernel
theorem dX8_findChanceTurn_27 : decode cX8_findChanceTurn 27 = .ok (.istore 6, 2) := by decide +kernel
theorem dX8_findChanceTurn_29 : decode cX8_findChanceTurn 29 = .ok (.iload 6, 2) := by decide +kernel
theorem dX8_findChanceTurn_31 : decode cX8_findChanceTurn 31 = .ok (.aload_n 0, 1) := by decide +kernel
theorem dX8_findChanceTurn_32 : decode cX8_findChanceTurn 32 = .ok (.getfield 86, 3) := by decide +kernel
theorem dX8_findChanceTurn_35 : decode cX8_findChanceTurn 35 = .ok (.if_icmp .ge 70, 3) := by decide +kernel
theorem dX8_findChanceTurn_38 : decode cX8_findChanceTurn 38 = .ok (.iload_n 1, 1) := by decide +kernel
theorem dX8_findChanceTurn_39 : decode cX8_findChanceTurn 39 = .ok (.iload 6, 2) := by decide +kernel
theorem dX8_findChanceTurn_41 : decode cX8_findChanceTurn 41 = .ok (.ishr, 1) := by decide +kernel
theorem dX8_findChanceTurn_42 : decode cX8_findChanceTurn 42 = .ok (.iconst 1, 1) := by decide +kernel
theorem dX8_findChanceTurn_43 : decode cX8_findChanceTurn 43 = .ok (.iand, 1) := by decide +kernel
theorem dX8_findChanceTurn_44 : decode cX8_findChanceTurn 44 = .ok (.ifCond .ne 35, 3) := by decide +kernel
theorem dX8_findChanceTurn_47 : decode cX8_findChanceTurn 47 = .ok (.aload_n 0, 1) := by decide +kernel
theorem dX8_findChanceTurn_48 : decode cX8_findChanceTurn 48 = .ok (.getfield 61, 3) := by decide +kernel
theorem dX8_findChanceTurn_51 : decode cX8_findChanceTurn 51 = .ok (.aload_n 0, 1) := by decide +kernel
theorem dX8_findChanceTurn_52 : decode cX8_findChanceTurn 52 = .ok (.iload_n 1, 1) := by decide +kernel
theorem dX8_findChanceTurn_53 : decode cX8_findChanceTurn 53 = .ok (.iconst 1, 1) := by decide +kernel
theorem dX8_findChanceTurn_54 : decode cX8_findChanceTurn 54 = .ok (.iload 6, 2) := by decide +kernel
theorem dX8_findChanceTurn_56 : decode cX8_findChanceTurn 56 = .ok (.ishl, 1) := by decide +kernel
theorem dX8_findChanceTurn_57 : decode cX8_findChanceTurn 57 = .ok (.ior, 1) := by decide +kernel
theorem dX8_findChanceTurn_58 : decode cX8_findChanceTurn 58 = .ok (.iload_n 2, 1) := by decide +kernel
theorem dX8_findChanceTurn_59 : decode cX8_findChanceTurn 59 = .ok (.aload_n 0, 1) := by decide +kernel
theorem dX8_findChanceTurn_60 : decode cX8_findChanceTurn 60 = .ok (.getfield 41, 3) := by decide +kernel
theorem dX8_findChanceTurn_63 : decode cX8_findChanceTurn 63 = .ok (.bipush 8, 2) := by decide +kernel
theorem dX8_findChanceTurn_65 : decode cX8_findChanceTurn 65 = .ok (.iload_n 3, 1) := by decide +kernel
theorem dX8_findChanceTurn_66 : decode cX8_findChanceTurn 66 = .ok (.imul, 1) := by decide +kernel
theorem dX8_findChanceTurn_67 : decode cX8_findChanceTurn 67 = .ok (.iload 6, 2) := by decide +kernel
theorem dX8_findChanceTurn_69 : decode cX8_findChanceTurn 69 = .ok (.iadd, 1) := by decide +kernel
theorem dX8_findChanceTurn_70 : decode cX8_findChanceTurn 70 = .ok (.iaload, 1) := by decide +kernel
theorem dX8_findChanceTurn_71 : decode cX8_findChanceTurn 71 = .ok (.isub, 1) := by decide +kernel
theorem dX8_findChanceTurn_72 : decode cX8_findChanceTurn 72 = .ok (.invokevirtual 205, 3) := by decide +kernel
theorem dX8_findChanceTurn_75 : decode cX8_findChanceTurn 75 = .ok (.laload, 1) := by decide +kernel
theorem dX8_findChanceTurn_76 : decode cX8_findChanceTurn 76 = .ok (.goto 4, 3) := by decide +kernel
theorem dX8_findChanceTurn_79 : decode cX8_findChanceTurn 79 = .ok (.lconst 0, 1) := by decide +kernel
theorem dX8_findChanceTurn_80 : decode cX8_findChanceTurn 80 = .ok (.lstore 7, 2) := by decide +kernel
theorem dX8_findChanceTurn_82 : decode cX8_findChanceTurn 82 = .ok (.lload 7, 2) := by decide +kernel
theorem dX8_findChanceTurn_84 : decode cX8_findChanceTurn 84 = .ok (.lload 4, 2) := by decide +kernel
theorem dX8_findChanceTurn_86 : decode cX8_findChanceTurn 86 = .ok (.lcmp, 1) := by decide +kernel
theorem dX8_findChanceTurn_87 : decode cX8_findChanceTurn 87 = .ok (.ifCond .le 8, 3) := by decide +kernel
theorem dX8_findChanceTurn_90 : decode cX8_findChanceTurn 90 = .ok (.lload 7, 2) := by decide +kernel
theorem dX8_findChanceTurn_92 : decode cX8_findChanceTurn 92 = .ok (.goto 5, 3) := by decide +kernel
theorem dX8_findChanceTurn_95 : decode cX8_findChanceTurn 95 = .ok (.lload 4, 2) := by decide +kernel
theorem dX8_findChanceTurn_97 : decode cX8_findChanceTurn 97 = .ok (.lstore 4, 2) := by decide +kernel
theorem dX8_findChanceTurn_99 : decode cX8_findChanceTurn 99 = .ok (.iinc 6 1, 3) := by decide +kernel
theorem dX8_findChanceTurn_102 : decode cX8_findChanceTurn 102 = .ok (.goto (-73), 3) := by decide +kernel
theorem dX8_findChanceTurn_105 : decode cX8_findChanceTurn 105 = .ok (.aload_n 0, 1) := by decide +kernel
theorem dX8_findChanceTurn_106 : decode cX8_findChanceTurn 106 = .ok (.getfield 54, 3) := by decide +kernel
theorem dX8_findChanceTurn_109 : decode cX8_findChanceTurn 109 = .ok (.iload_n 3, 1) := by decide +kernel
theorem dX8_findChanceTurn_110 : decode cX8_findChanceTurn 110 = .ok (.lload 4, 2) := by decide +kernel
theorem dX8_findChanceTurn_112 : decode cX8_findChanceTurn 112 = .ok (.lastore, 1) := by decide +kernel
theorem dX8_findChanceTurn_113 : decode cX8_findChanceTurn 113 = .ok (.iinc 3 1, 3) := by decide +kernel
theorem dX8_findChanceTurn_116 : decode cX8_findChanceTurn 116 = .ok (.goto (-114), 3) := by decide +kernel
theorem dX8_findChanceTurn_119 : decode cX8_findChanceTurn 119 = .ok (.aload_n 0, 1) := by decide +kernel
theorem dX8_findChanceTurn_120 : decode cX8_findChanceTurn 120 = .ok (.invokevirtual 124, 3) := by decide +kernel
theorem dX8_findChanceTurn_123 : decode cX8_findChanceTurn 123 = .ok (.return_, 1) := by decide +kernel
theorem dX8_ask_0 : decode cX8_ask 0 = .ok (.iconst 0, 1) := by decide +kernel
theorem dX8_ask_1 : decode cX8_ask 1 = .ok (.istore_n 3, 1) := by decide +kernel
theorem dX8_ask_2 : decode cX8_ask 2 = .ok (.iload_n 3, 1) := by decide +kernel
theorem dX8_ask_3 : decode cX8_ask 3 = .ok (.aload_n 0, 1) := by decide +kernel
theorem dX8_ask_4 : decode cX8_ask 4 = .ok (.getfield 71, 3) := by decide +kernel
theorem dX8_ask_7 : decode cX8_ask 7 = .ok (.if_icmp .ge 79, 3) := by decide +kernel
theorem dX8_ask_10 : decode cX8_ask 10 = .ok (.iconst 0, 1) := by decide +kernel
theorem dX8_ask_11 : decode cX8_ask 11 = .ok (.istore 4, 2) := by decide +kernel
theorem dX8_ask_13 : decode cX8_ask 13 = .ok (.iload 4, 2) := by decide +kernel
theorem dX8_ask_15 : decode cX8_ask 15 = .ok (.aload_n 0, 1) := by decide +kernel
theorem dX8_ask_16 : decode cX8_ask 16 = .ok (.getfield 86, 3) := by decide +kernel
theorem dX8_ask_19 : decode cX8_ask 19 = .ok (.if_icmp .ge 61, 3) := by decide +kernel
theorem dX8_ask_22 : decode cX8_ask 22 = .ok (.aload_n 0, 1) := by decide +kernel
theorem dX8_ask_23 : decode cX8_ask 23 = .ok (.getfield 32, 3) := by decide +kernel
theorem dX8_ask_26 : decode cX8_ask 26 = .ok (.iload_n 3, 1) := by decide +kernel
theorem dX8_ask_27 : decode cX8_ask 27 = .ok (.iaload, 1) := by decide +kernel
theorem dX8_ask_28 : decode cX8_ask 28 = .ok (.aload_n 0, 1) := by decide +kernel
theorem dX8_ask_29 : decode cX8_ask 29 = .ok (.getfield 7, 3) := by decide +kernel
theorem dX8_ask_32 : decode cX8_ask 32 = .ok (.if_icmp .ne 48, 3) := by decide +kernel
theorem dX8_ask_35 : decode cX8_ask 35 = .ok (.iload_n 1, 1) := by decide +kernel
theorem dX8_ask_36 : decode cX8_ask 36 = .ok (.iload 4, 2) := by decide +kernel
theorem dX8_ask_38 : decode cX8_ask 38 = .ok (.ishr, 1) := by decide +kernel
theorem dX8_ask_39 : decode cX8_ask 39 = .ok (.iconst 1, 1) := by decide +kernel
theorem dX8_ask_40 : decode cX8_ask 40 = .ok (.iand, 1) := by decide +kernel
theorem dX8_ask_41 : decode cX8_ask 41 = .ok (.ifCond .ne 33, 3) := by decide +kernel
theorem dX8_ask_44 : decode cX8_ask 44 = .ok (.aload_n 0, 1) := by decide +kernel
theorem dX8_ask_45 : decode cX8_ask 45 = .ok (.getfield 64, 3) := by decide +kernel
theorem dX8_ask_48 : decode cX8_ask 48 = .ok (.aload_n 0, 1) := by decide +kernel
theorem dX8_ask_49 : decode cX8_ask 49 = .ok (.iload_n 1, 1) := by decide +kernel
theorem dX8_ask_50 : decode cX8_ask 50 = .ok (.iconst 1, 1) := by decide +kernel
theorem dX8_ask_51 : decode cX8_ask 51 = .ok (.iload 4, 2) := by decide +kernel
theorem dX8_ask_53 : decode cX8_ask 53 = .ok (.ishl, 1) := by decide +kernel
theorem dX8_ask_54 : decode cX8_ask 54 = .ok (.ior, 1) := by decide +kernel
theorem dX8_ask_55 : decode cX8_ask 55 = .ok (.iload_n 2, 1) := by decide +kernel
theorem dX8_ask_56 : decode cX8_ask 56 = .ok (.aload_n 0, 1) := by decide +kernel
theorem dX8_ask_57 : decode cX8_ask 57 = .ok (.getfield 41, 3) := by decide +kernel
theorem dX8_ask_60 : decode cX8_ask 60 = .ok (.bipush 8, 2) := by decide +kernel
theorem dX8_ask_62 : decode cX8_ask 62 = .ok (.iload_n 3, 1) := by decide +kernel
theorem dX8_ask_63 : decode cX8_ask 63 = .ok (.imul, 1) := by decide +kernel
theorem dX8_ask_64 : decode cX8_ask 64 = .ok (.iload 4, 2) := by decide +kernel
theorem dX8_ask_66 : decode cX8_ask 66 = .ok (.iadd, 1) := by decide +kernel
theorem dX8_ask_67 : decode cX8_ask 67 = .ok (.iaload, 1) := by decide +kernel
theorem dX8_ask_68 : decode cX8_ask 68 = .ok (.isub, 1) := by decide +kernel
theorem dX8_ask_69 : decode cX8_ask 69 = .ok (.invokevirtual 205, 3) := by decide +kernel
theorem dX8_ask_72 : decode cX8_ask 72 = .ok (.iconst 1, 1) := by decide +kernel
theorem dX8_ask_73 : decode cX8_ask 73 = .ok (.bastore, 1) := by decide +kernel
theorem dX8_ask_74 : decode cX8_ask 74 = .ok (.iinc 4 1, 3) := by decide +kernel
theorem dX8_ask_77 : decode cX8_ask 77 = .ok (.goto (-64), 3) := by decide +kernel
theorem dX8_ask_80 : decode cX8_ask 80 = .ok (.iinc 3 1, 3) := by decide +kernel
theorem dX8_ask_83 : decode cX8_ask 83 = .ok (.goto (-81), 3) := by decide +kernel
theorem dX8_ask_86 : decode cX8_ask 86 = .ok (.return_, 1) := by decide +kernel
theorem dX8_chance_0 : decode cX8_chance 0 = .ok (.iload_n 1, 1) := by decide +kernel
theorem dX8_chance_1 : decode cX8_chance 1 = .ok (.iconst 0, 1) := by decide +kernel
theorem dX8_chance_2 : decode cX8_chance 2 = .ok (.sipush 500, 3) := by decide +kernel
theorem dX8_chance_5 : decode cX8_chance 5 = .ok (.invokestatic 78, 3) := by decide +kernel
theorem dX8_chance_8 : decode cX8_chance 8 = .ok (.ifCond .ne 7, 3) := by decide +kernel
theorem dX8_chance_11 : decode cX8_chance 11 = .ok (.ldc2_w 200, 3) := by decide +kernel
theorem dX8_chance_14 : decode cX8_chance 14 = .ok (.lreturn, 1) := by decide +kernel
theorem dX8_chance_15 : decode cX8_chance 15 = .ok (.aload_n 0, 1) := by decide +kernel
theorem dX8_chance_16 : decode cX8_chance 16 = .ok (.getfield 82, 3) := by decide +kernel
theorem dX8_chance_19 : decode cX8_chance 19 = .ok (.ifCond .ne 7, 3) := by decide +kernel
theorem dX8_chance_22 : decode cX8_chance 22 = .ok (.ldc2_w 198, 3) := by decide +kernel
theorem dX8_chance_25 : decode cX8_chance 25 = .ok (.lreturn, 1) := by decide +kernel
theorem dX8_chance_26 : decode cX8_chance 26 = .ok (.iconst 1, 1) := by decide +kernel
theorem dX8_chance_27 : decode cX8_chance 27 = .ok (.aload_n 0, 1) := by decide +kernel
theorem dX8_chance_28 : decode cX8_chance 28 = .ok (.getfield 86, 3) := by decide +kernel
theorem dX8_chance_31 : decode cX8_chance 31 = .ok (.ishl, 1) := by decide +kernel
theorem dX8_chance_32 : decode cX8_chance 32 = .ok (.iconst 1, 1) := by decide +kernel
theorem dX8_chance_33 : decode cX8_chance 33 = .ok (.isub, 1) := by decide +kernel
theorem dX8_chance_34 : decode cX8_chance 34 = .ok (.istore_n 2, 1) := by decide +kernel
theorem dX8_chance_35 : decode cX8_chance 35 = .ok (.iload_n 1, 1) := by decide +kernel
theorem dX8_chance_36 : decode cX8_chance 36 = .ok (.aload_n 0, 1) := by decide +kernel
theorem dX8_chance_37 : decode cX8_chance 37 = .ok (.getfield 144, 3) := by decide +kernel
theorem dX8_chance_40 : decode cX8_chance 40 = .ok (.isub, 1) := by decide +kernel
theorem dX8_chance_41 : decode cX8_chance 41 = .ok (.ifCond .ge 7, 3) := by decide +kernel
theorem dX8_chance_44 : decode cX8_chance 44 = .ok (.iconst 0, 1) := by decide +kernel
theorem dX8_chance_45 : decode cX8_chance 45 = .ok (.goto 9, 3) := by decide +kernel
theorem dX8_chance_48 : decode cX8_chance 48 = .ok (.iload_n 1, 1) := by decide +kernel
theorem dX8_chance_49 : decode cX8_chance 49 = .ok (.aload_n 0, 1) := by decide +kernel
theorem dX8_chance_50 : decode cX8_chance 50 = .ok (.getfield 144, 3) := by decide +kernel
theorem dX8_chance_53 : decode cX8_chance 53 = .ok (.isub, 1) := by decide +kernel
theorem dX8_chance_54 : decode cX8_chance 54 = .ok (.istore_n 3, 1) := by decide +kernel
theorem dX8_chance_55 : decode cX8_chance 55 = .ok (.iconst 0, 1) := by decide +kernel
theorem dX8_chance_56 : decode cX8_chance 56 = .ok (.istore 4, 2) := by decide +kernel
theorem dX8_chance_58 : decode cX8_chance 58 = .ok (.iload 4, 2) := by decide +kernel
theorem dX8_chance_60 : decode cX8_chance 60 = .ok (.sipush 501, 3) := by decide +kernel
theorem dX8_chance_63 : decode cX8_chance 63 = .ok (.iload_n 2, 1) := by decide +kernel
theorem dX8_chance_64 : decode cX8_chance 64 = .ok (.iconst 1, 1) := by decide +kernel
theorem dX8_chance_65 : decode cX8_chance 65 = .ok (.iadd, 1) := by decide +kernel
theorem dX8_chance_66 : decode cX8_chance 66 = .ok (.imul, 1) := by decide +kernel
theorem dX8_chance_67 : decode cX8_chance 67 = .ok (.if_icmp .ge 17, 3) := by decide +kernel
theorem dX8_chance_70 : decode cX8_chance 70 = .ok (.aload_n 0, 1) := by decide +kernel
theorem dX8_chance_71 : decode cX8_chance 71 = .ok (.getfield 64, 3) := by decide +kernel
theorem dX8_chance_74 : decode cX8_chance 74 = .ok (.iload 4, 2) := by decide +kernel
theorem dX8_chance_76 : decode cX8_chance 76 = .ok (.iconst 0, 1) := by decide +kernel
theorem dX8_chance_77 : decode cX8_chance 77 = .ok (.bastore, 1) := by decide +kernel
theorem dX8_chance_78 : decode cX8_chance 78 = .ok (.iinc 4 1, 3) := by decide +kernel
theorem dX8_chance_81 : decode cX8_chance 81 = .ok (.goto (-23), 3) := by decide +kernel
theorem dX8_chance_84 : decode cX8_chance 84 = .ok (.aload_n 0, 1) := by decide +kernel
theorem dX8_chance_85 : decode cX8_chance 85 = .ok (.getfield 64, 3) := by decide +kernel
theorem dX8_chance_88 : decode cX8_chance 88 = .ok (.aload_n 0, 1) := by decide +kernel
theorem dX8_chance_89 : decode cX8_chance 89 = .ok (.aload_n 0, 1) := by decide +kernel
theorem dX8_chance_90 : decode cX8_chance 90 = .ok (.getfield 141, 3) := by decide +kernel
theorem dX8_chance_93 : decode cX8_chance 93 = .ok (.iload_n 3, 1) := by decide +kernel
theorem dX8_chance_94 : decode cX8_chance 94 = .ok (.invokevirtual 205, 3) := by decide +kernel
theorem dX8_chance_97 : decode cX8_chance 97 = .ok (.iconst 1, 1) := by decide +kernel
theorem dX8_chance_98 : decode cX8_chance 98 = .ok (.bastore, 1) := by decide +kernel
theorem dX8_chance_99 : decode cX8_chance 99 = .ok (.aload_n 0, 1) := by decide +kernel
theorem dX8_chance_100 : decode cX8_chance 100 = .ok (.getfield 141, 3) := by decide +kernel
theorem dX8_chance_103 : decode cX8_chance 103 = .ok (.istore 4, 2) := by decide +kernel
theorem dX8_chance_105 : decode cX8_chance 105 = .ok (.iload 4, 2) := by decide +kernel
theorem dX8_chance_107 : decode cX8_chance 107 = .ok (.iload_n 2, 1) := by decide +kernel
theorem dX8_chance_108 : decode cX8_chance 108 = .ok (.if_icmp .ge 51, 3) := by decide +kernel
theorem dX8_chance_111 : decode cX8_chance 111 = .ok (.iconst 0, 1) := by decide +kernel
theorem dX8_chance_112 : decode cX8_chance 112 = .ok (.istore 5, 2) := by decide +kernel
theorem dX8_chance_114 : decode cX8_chance 114 = .ok (.iload 5, 2) := by decide +kernel
theorem dX8_chance_116 : decode cX8_chance 116 = .ok (.sipush 500, 3) := by decide +kernel
theorem dX8_chance_119 : decode cX8_chance 119 = .ok (.if_icmp .gt 34, 3) := by decide +kernel
theorem dX8_chance_122 : decode cX8_chance 122 = .ok (.aload_n 0, 1) := by decide +kernel
theorem dX8_chance_123 : decode cX8_chance 123 = .ok (.getfield 64, 3) := by decide +kernel
theorem dX8_chance_126 : decode cX8_chance 126 = .ok (.sipush 501, 3) := by decide +kernel
theorem dX8_chance_129 : decode cX8_chance 129 = .ok (.iload 4, 2) := by decide +kernel
theorem dX8_chance_131 : decode cX8_chance 131 = .ok (.imul, 1) := by decide +kernel
theorem dX8_chance_132 : decode cX8_chance 132 = .ok (.iload 5, 2) := by decide +kernel
theorem dX8_chance_134 : decode cX8_chance 134 = .ok (.iadd, 1) := by decide +kernel
theorem dX8_chance_135 : decode cX8_chance 135 = .ok (.baload, 1) := by decide +kernel
theorem dX8_chance_136 : decode cX8_chance 136 = .ok (.ifCond .eq 11, 3) := by decide +kernel
theorem dX8_chance_139 : decode cX8_chance 139 = .ok (.aload_n 0, 1) := by decide +kernel
theorem dX8_chance_140 : decode cX8_chance 140 = .ok (.iload 4, 2) := by decide +kernel
theorem dX8_chance_142 : decode cX8_chance 142 = .ok (.iload 5, 2) := by decide +kernel
theorem dX8_chance_144 : decode cX8_chance 144 = .ok (.invokevirtual 208, 3) := by decide +kernel
theorem dX8_chance_147 : decode cX8_chance 147 = .ok (.iinc 5 1, 3) := by decide +kernel
theorem dX8_chance_150 : decode cX8_chance 150 = .ok (.goto (-36), 3) := by decide +kernel
theorem dX8_chance_153 : decode cX8_chance 153 = .ok (.iinc 4 1, 3) := by decide +kernel
theorem dX8_chance_156 : decode cX8_chance 156 = .ok (.goto (-51), 3) := by decide +kernel
theorem dX8_chance_159 : decode cX8_chance 159 = .ok (.iload_n 2, 1) := by decide +kernel
theorem dX8_chance_160 : decode cX8_chance 160 = .ok (.istore 4, 2) := by decide +kernel
theorem dX8_chance_162 : decode cX8_chance 162 = .ok (.iload 4, 2) := by decide +kernel
theorem dX8_chance_164 : decode cX8_chance 164 = .ok (.aload_n 0, 1) := by decide +kernel
theorem dX8_chance_165 : decode cX8_chance 165 = .ok (.getfield 141, 3) := by decide +kernel
theorem dX8_chance_168 : decode cX8_chance 168 = .ok (.if_icmp .le 66, 3) := by decide +kernel
theorem dX8_chance_171 : decode cX8_chance 171 = .ok (.iconst 0, 1) := by decide +kernel
theorem dX8_chance_172 : decode cX8_chance 172 = .ok (.istore 5, 2) := by decide +kernel
theorem dX8_chance_174 : decode cX8_chance 174 = .ok (.iload 5, 2) := by decide +kernel
theorem dX8_chance_176 : decode cX8_chance 176 = .ok (.sipush 500, 3) := by decide +kernel
theorem dX8_chance_179 : decode cX8_chance 179 = .ok (.if_icmp .gt 49, 3) := by decide +kernel
theorem dX8_chance_182 : decode cX8_chance 182 = .ok (.aload_n 0, 1) := by decide +kernel
theorem dX8_chance_183 : decode cX8_chance 183 = .ok (.getfield 64, 3) := by decide +kernel
theorem dX8_chance_186 : decode cX8_chance 186 = .ok (.sipush 501, 3) := by decide +kernel
theorem dX8_chance_189 : decode cX8_chance 189 = .ok (.iload 4, 2) := by decide +kernel
theorem dX8_chance_191 : decode cX8_chance 191 = .ok (.imul, 1) := by decide +kernel
theorem dX8_chance_192 : decode cX8_chance 192 = .ok (.iload 5, 2) := by decide +kernel
theorem dX8_chance_194 : decode cX8_chance 194 = .ok (.iadd, 1) := by decide +kernel
theorem dX8_chance_195 : decode cX8_chance 195 = .ok (.baload, 1) := by decide +kernel
theorem dX8_chance_196 : decode cX8_chance 196 = .ok (.ifCond .eq 26, 3) := by decide +kernel
theorem dX8_chance_199 : decode cX8_chance 199 = .ok (.aload_n 0, 1) := by decide +kernel
theorem dX8_chance_200 : decode cX8_chance 200 = .ok (.getfield 61, 3) := by decide +kernel
theorem dX8_chance_203 : decode cX8_chance 203 = .ok (.sipush 501, 3) := by decide +kernel
theorem dX8_chance_206 : decode cX8_chance 206 = .ok (.iload 4, 2) := by decide +kernel
theorem dX8_chance_208 : decode cX8_chance 208 = .ok (.imul, 1) := by decide +kernel
theorem dX8_chance_209 : decode cX8_chance 209 = .ok (.iload 5, 2) := by decide +kernel
theorem dX8_chance_211 : decode cX8_chance 211 = .ok (.iadd, 1) := by decide +kernel
theorem dX8_chance_212 : decode cX8_chance 212 = .ok (.aload_n 0, 1) := by decide +kernel
theorem dX8_chance_213 : decode cX8_chance 213 = .ok (.iload 4, 2) := by decide +kernel
theorem dX8_chance_215 : decode cX8_chance 215 = .ok (.iload 5, 2) := by decide +kernel
theorem dX8_chance_217 : decode cX8_chance 217 = .ok (.iload_n 2, 1) := by decide +kernel
theorem dX8_chance_218 : decode cX8_chance 218 = .ok (.invokevirtual 212, 3) := by decide +kernel
theorem dX8_chance_221 : decode cX8_chance 221 = .ok (.lastore, 1) := by decide +kernel
theorem dX8_chance_222 : decode cX8_chance 222 = .ok (.iinc 5 1, 3) := by decide +kernel
theorem dX8_chance_225 : decode cX8_chance 225 = .ok (.goto (-51), 3) := by decide +kernel
theorem dX8_chance_228 : decode cX8_chance 228 = .ok (.iinc 4 (-1), 3) := by decide +kernel
theorem dX8_chance_231 : decode cX8_chance 231 = .ok (.goto (-69), 3) := by decide +kernel
theorem dX8_chance_234 : decode cX8_chance 234 = .ok (.aload_n 0, 1) := by decide +kernel
theorem dX8_chance_235 : decode cX8_chance 235 = .ok (.getfield 147, 3) := by decide +kernel
theorem dX8_chance_238 : decode cX8_chance 238 = .ok (.ifCond .ne 14, 3) := by decide +kernel
theorem dX8_chance_241 : decode cX8_chance 241 = .ok (.aload_n 0, 1) := by decide +kernel
theorem dX8_chance_242 : decode cX8_chance 242 = .ok (.aload_n 0, 1) := by decide +kernel
theorem dX8_chance_243 : decode cX8_chance 243 = .ok (.getfield 141, 3) := by decide +kernel
theorem dX8_chance_246 : decode cX8_chance 246 = .ok (.iload_n 3, 1) := by decide +kernel
theorem dX8_chance_247 : decode cX8_chance 247 = .ok (.iload_n 2, 1) := by decide +kernel
theorem dX8_chance_248 : decode cX8_chance 248 = .ok (.invokevirtual 212, 3) := by decide +kernel
theorem dX8_chance_251 : decode cX8_chance 251 = .ok (.lreturn, 1) := by decide +kernel
theorem dX8_chance_252 : decode cX8_chance 252 = .ok (.aload_n 0, 1) := by decide +kernel
theorem dX8_chance_253 : decode cX8_chance 253 = .ok (.aload_n 0, 1) := by decide +kernel
theorem dX8_chance_254 : decode cX8_chance 254 = .ok (.getfield 141, 3) := by decide +kernel
theorem dX8_chance_257 : decode cX8_chance 257 = .ok (.iload_n 3, 1) := by decide +kernel
theorem dX8_chance_258 : decode cX8_chance 258 = .ok (.invokevirtual 216, 3) := by decide +kernel
theorem dX8_chance_261 : decode cX8_chance 261 = .ok (.aload_n 0, 1) := by decide +kernel
theorem dX8_chance_262 : decode cX8_chance 262 = .ok (.getfield 150, 3) := by decide +kernel
theorem dX8_chance_265 : decode cX8_chance 265 = .ok (.ifCond .ne 22, 3) := by decide +kernel
theorem dX8_chance_268 : decode cX8_chance 268 = .ok (.aload_n 0, 1) := by decide +kernel
theorem dX8_chance_269 : decode cX8_chance 269 = .ok (.getfield 54, 3) := by decide +kernel
theorem dX8_chance_272 : decode cX8_chance 272 = .ok (.sipush 462, 3) := by decide +kernel
theorem dX8_chance_275 : decode cX8_chance 275 = .ok (.aload_n 0, 1) := by decide +kernel
theorem dX8_chance_276 : decode cX8_chance 276 = .ok (.getfield 156, 3) := by decide +kernel
theorem dX8_chance_279 : decode cX8_chance 279 = .ok (.imul, 1) := by decide +kernel
theorem dX8_chance_280 : decode cX8_chance 280 = .ok (.aload_n 0, 1) := by decide +kernel
theorem dX8_chance_281 : decode cX8_chance 281 = .ok (.getfield 153, 3) := by decide +kernel
theorem dX8_chance_284 : decode cX8_chance 284 = .ok (.iadd, 1) := by decide +kernel
theorem dX8_chance_285 : decode cX8_chance 285 = .ok (.laload, 1) := by decide +kernel
theorem dX8_chance_286 : decode cX8_chance 286 = .ok (.lreturn, 1) := by decide +kernel
theorem dX8_chance_287 : decode cX8_chance 287 = .ok (.aload_n 0, 1) := by decide +kernel
theorem dX8_chance_288 : decode cX8_chance 288 = .ok (.aload_n 0, 1) := by decide +kernel
theorem dX8_chance_289 : decode cX8_chance 289 = .ok (.getfield 156, 3) := by decide +kernel
theorem dX8_chance_292 : decode cX8_chance 292 = .ok (.invokevirtual 99, 3) := by decide +kernel
theorem dX8_chance_295 : decode cX8_chance 295 = .ok (.aload_n 0, 1) := by decide +kernel
theorem dX8_chance_296 : decode cX8_chance 296 = .ok (.getfield 57, 3) := by decide +kernel
theorem dX8_chance_299 : decode cX8_chance 299 = .ok (.aload_n 0, 1) := by decide +kernel
theorem dX8_chance_300 : decode cX8_chance 300 = .ok (.getfield 153, 3) := by decide +kernel
theorem dX8_chance_303 : decode cX8_chance 303 = .ok (.laload, 1) := by decide +kernel
theorem dX8_chance_304 : decode cX8_chance 304 = .ok (.aload_n 0, 1) := by decide +kernel
theorem dX8_chance_305 : decode cX8_chance 305 = .ok (.getfield 47, 3) := by decide +kernel
theorem dX8_chance_308 : decode cX8_chance 308 = .ok (.aload_n 0, 1) := by decide +kernel
theorem dX8_chance_309 : decode cX8_chance 309 = .ok (.getfield 32, 3) := by decide +kernel
theorem dX8_chance_312 : decode cX8_chance 312 = .ok (.aload_n 0, 1) := by decide +kernel
theorem dX8_chance_313 : decode cX8_chance 313 = .ok (.getfield 153, 3) := by decide +kernel
theorem dX8_chance_316 : decode cX8_chance 316 = .ok (.iaload, 1) := by decide +kernel
theorem dX8_chance_317 : decode cX8_chance 317 = .ok (.laload, 1) := by decide +kernel
theorem dX8_chance_318 : decode cX8_chance 318 = .ok (.lmul, 1) := by decide +kernel
theorem dX8_chance_319 : decode cX8_chance 319 = .ok (.lreturn, 1) := by decide +kernel
theorem dX8_chanceOf_0 : decode cX8_chanceOf 0 = .ok (.iload_n 1, 1) := by decide +kernel
theorem dX8_chanceOf_1 : decode cX8_chanceOf 1 = .ok (.iload_n 3, 1) := by decide +kernel
theorem dX8_chanceOf_2 : decode cX8_chanceOf 2 = .ok (.if_icmp .ne 13, 3) := by decide +kernel
theorem dX8_chanceOf_5 : decode cX8_chanceOf 5 = .ok (.iload_n 2, 1) := by decide +kernel
theorem dX8_chanceOf_6 : decode cX8_chanceOf 6 = .ok (.ifCond .ne 7, 3) := by decide +kernel
theorem dX8_chanceOf_9 : decode cX8_chanceOf 9 = .ok (.lconst 1, 1) := by decide +kernel
theorem dX8_chanceOf_10 : decode cX8_chanceOf 10 = .ok (.goto 4, 3) := by decide +kernel
theorem dX8_chanceOf_13 : decode cX8_chanceOf 13 = .ok (.lconst 0, 1) := by decide +kernel
theorem dX8_chanceOf_14 : decode cX8_chanceOf 14 = .ok (.lreturn, 1) := by decide +kernel
theorem dX8_chanceOf_15 : decode cX8_chanceOf 15 = .ok (.aload_n 0, 1) := by decide +kernel
theorem dX8_chanceOf_16 : decode cX8_chanceOf 16 = .ok (.iload_n 1, 1) := by decide +kernel
theorem dX8_chanceOf_17 : decode cX8_chanceOf 17 = .ok (.iload_n 2, 1) := by decide +kernel
theorem dX8_chanceOf_18 : decode cX8_chanceOf 18 = .ok (.invokevirtual 216, 3) := by decide +kernel
theorem dX8_chanceOf_21 : decode cX8_chanceOf 21 = .ok (.aload_n 0, 1) := by decide +kernel
theorem dX8_chanceOf_22 : decode cX8_chanceOf 22 = .ok (.aload_n 0, 1) := by decide +kernel
theorem dX8_chanceOf_23 : decode cX8_chanceOf 23 = .ok (.getfield 16, 3) := by decide +kernel
theorem dX8_chanceOf_26 : decode cX8_chanceOf 26 = .ok (.invokevirtual 99, 3) := by decide +kernel
theorem dX8_chanceOf_29 : decode cX8_chanceOf 29 = .ok (.aload_n 0, 1) := by decide +kernel
theorem dX8_chanceOf_30 : decode cX8_chanceOf 30 = .ok (.getfield 57, 3) := by decide +kernel
theorem dX8_chanceOf_33 : decode cX8_chanceOf 33 = .ok (.iconst 0, 1) := by decide +kernel
theorem dX8_chanceOf_34 : decode cX8_chanceOf 34 = .ok (.laload, 1) := by decide +kernel
theorem dX8_chanceOf_35 : decode cX8_chanceOf 35 = .ok (.lreturn, 1) := by decide +kernel
theorem dX8_luck_0 : decode cX8_luck 0 = .ok (.aload_n 0, 1) := by decide +kernel
theorem dX8_luck_1 : decode cX8_luck 1 = .ok (.getfield 159, 3) := by decide +kernel
theorem dX8_luck_4 : decode cX8_luck 4 = .ok (.lreturn, 1) := by decide +kernel
theorem dX8_slip_0 : decode cX8_slip 0 = .ok (.aload_n 0, 1) := by decide +kernel
theorem dX8_slip_1 : decode cX8_slip 1 = .ok (.getfield 162, 3) := by decide +kernel
theorem dX8_slip_4 : decode cX8_slip 4 = .ok (.lreturn, 1) := by decide +kernel
theorem dX8_points_0 : decode cX8_points 0 = .ok (.iload_n 1, 1) := by decide +kernel
theorem dX8_points_1 : decode cX8_points 1 = .ok (.iconst 0, 1) := by decide +kernel
theorem dX8_points_2 : decode cX8_points 2 = .ok (.aload_n 0, 1) := by decide +kernel
theorem dX8_points_3 : decode cX8_points 3 = .ok (.getfield 86, 3) := by decide +kernel
theorem dX8_points_6 : decode cX8_points 6 = .ok (.iconst 1, 1) := by decide +kernel
theorem dX8_points_7 : decode cX8_points 7 = .ok (.isub, 1) := by decide +kernel
theorem dX8_points_8 : decode cX8_points 8 = .ok (.invokestatic 78, 3) := by decide +kernel
theorem dX8_points_11 : decode cX8_points 11 = .ok (.ifCond .ne 6, 3) := by decide +kernel
theorem dX8_points_14 : decode cX8_points 14 = .ok (.bipush (-2), 2) := by decide +kernel
theorem dX8_points_16 : decode cX8_points 16 = .ok (.ireturn, 1) := by decide +kernel
theorem dX8_points_17 : decode cX8_points 17 = .ok (.aload_n 0, 1) := by decide +kernel
theorem dX8_points_18 : decode cX8_points 18 = .ok (.invokevirtual 131, 3) := by decide +kernel
theorem dX8_points_21 : decode cX8_points 21 = .ok (.aload_n 0, 1) := by decide +kernel
theorem dX8_points_22 : decode cX8_points 22 = .ok (.iload_n 2, 1) := by decide +kernel
theorem dX8_points_23 : decode cX8_points 23 = .ok (.invokevirtual 189, 3) := by decide +kernel
theorem dX8_points_26 : decode cX8_points 26 = .ok (.istore_n 3, 1) := by decide +kernel
theorem dX8_points_27 : decode cX8_points 27 = .ok (.iload_n 3, 1) := by decide +kernel
theorem dX8_points_28 : decode cX8_points 28 = .ok (.iconst (-1), 1) := by decide +kernel
theorem dX8_points_29 : decode cX8_points 29 = .ok (.if_icmp .eq 16, 3) := by decide +kernel
theorem dX8_points_32 : decode cX8_points 32 = .ok (.aload_n 0, 1) := by decide +kernel
theorem dX8_points_33 : decode cX8_points 33 = .ok (.getfield 32, 3) := by decide +kernel
theorem dX8_points_36 : decode cX8_points 36 = .ok (.iload_n 3, 1) := by decide +kernel
theorem dX8_points_37 : decode cX8_points 37 = .ok (.iaload, 1) := by decide +kernel
theorem dX8_points_38 : decode cX8_points 38 = .ok (.aload_n 0, 1) := by decide +kernel
theorem dX8_points_39 : decode cX8_points 39 = .ok (.getfield 7, 3) := by decide +kernel
theorem dX8_points_42 : decode cX8_points 42 = .ok (.if_icmp .eq 8, 3) := by decide +kernel
theorem dX8_points_45 : decode cX8_points 45 = .ok (.bipush (-3), 2) := by decide +kernel
theorem dX8_points_47 : decode cX8_points 47 = .ok (.goto 9, 3) := by decide +kernel
theorem dX8_points_50 : decode cX8_points 50 = .ok (.aload_n 0, 1) := by decide +kernel
theorem dX8_points_51 : decode cX8_points 51 = .ok (.iload_n 3, 1) := by decide +kernel
theorem dX8_points_52 : decode cX8_points 52 = .ok (.iload_n 1, 1) := by decide +kernel
theorem dX8_points_53 : decode cX8_points 53 = .ok (.invokevirtual 134, 3) := by decide +kernel
theorem dX8_points_56 : decode cX8_points 56 = .ok (.ireturn, 1) := by decide +kernel
theorem dX8_ways_0 : decode cX8_ways 0 = .ok (.aload_n 0, 1) := by decide +kernel
theorem dX8_ways_1 : decode cX8_ways 1 = .ok (.invokevirtual 131, 3) := by decide +kernel
theorem dX8_ways_4 : decode cX8_ways 4 = .ok (.aload_n 0, 1) := by decide +kernel
theorem dX8_ways_5 : decode cX8_ways 5 = .ok (.iload_n 1, 1) := by decide +kernel
theorem dX8_ways_6 : decode cX8_ways 6 = .ok (.invokevirtual 189, 3) := by decide +kernel
theorem dX8_ways_9 : decode cX8_ways 9 = .ok (.istore_n 2, 1) := by decide +kernel
theorem dX8_ways_10 : decode cX8_ways 10 = .ok (.iload_n 2, 1) := by decide +kernel
theorem dX8_ways_11 : decode cX8_ways 11 = .ok (.iconst (-1), 1) := by decide +kernel
theorem dX8_ways_12 : decode cX8_ways 12 = .ok (.if_icmp .eq 16, 3) := by decide +kernel
theorem dX8_ways_15 : decode cX8_ways 15 = .ok (.aload_n 0, 1) := by decide +kernel
theorem dX8_ways_16 : decode cX8_ways 16 = .ok (.getfield 32, 3) := by decide +kernel
theorem dX8_ways_19 : decode cX8_ways 19 = .ok (.iload_n 2, 1) := by decide +kernel
theorem dX8_ways_20 : decode cX8_ways 20 = .ok (.iaload, 1) := by decide +kernel
theorem dX8_ways_21 : decode cX8_ways 21 = .ok (.aload_n 0, 1) := by decide +kernel
theorem dX8_ways_22 : decode cX8_ways 22 = .ok (.getfield 7, 3) := by decide +kernel
theorem dX8_ways_25 : decode cX8_ways 25 = .ok (.if_icmp .eq 6, 3) := by decide +kernel
theorem dX8_ways_28 : decode cX8_ways 28 = .ok (.bipush (-3), 2) := by decide +kernel
theorem dX8_ways_30 : decode cX8_ways 30 = .ok (.ireturn, 1) := by decide +kernel
theorem dX8_ways_31 : decode cX8_ways 31 = .ok (.iconst 1, 1) := by decide +kernel
theorem dX8_ways_32 : decode cX8_ways 32 = .ok (.istore_n 3, 1) := by decide +kernel
theorem dX8_ways_33 : decode cX8_ways 33 = .ok (.iconst 0, 1) := by decide +kernel
theorem dX8_ways_34 : decode cX8_ways 34 = .ok (.istore 4, 2) := by decide +kernel
theorem dX8_ways_36 : decode cX8_ways 36 = .ok (.iconst 0, 1) := by decide +kernel
theorem dX8_ways_37 : decode cX8_ways 37 = .ok (.istore 5, 2) := by decide +kernel
theorem dX8_ways_39 : decode cX8_ways 39 = .ok (.iload 5, 2) := by decide +kernel
theorem dX8_ways_41 : decode cX8_ways 41 = .ok (.bipush 6, 2) := by decide +kernel
theorem dX8_ways_43 : decode cX8_ways 43 = .ok (.if_icmp .ge 46, 3) := by decide +kernel
theorem dX8_ways_46 : decode cX8_ways 46 = .ok (.iconst 1, 1) := by decide +kernel
theorem dX8_ways_47 : decode cX8_ways 47 = .ok (.istore 6, 2) := by decide +kernel
theorem dX8_ways_49 : decode cX8_ways 49 = .ok (.iload 6, 2) := by decide +kernel
theorem dX8_ways_51 : decode cX8_ways 51 = .ok (.aload_n 0, 1) := by decide +kernel
theorem dX8_ways_52 : decode cX8_ways 52 = .ok (.getfield 29, 3) := by decide +kernel
theorem dX8_ways_55 : decode cX8_ways 55 = .ok (.bipush 6, 2) := by decide +kernel
theorem dX8_ways_57 : decode cX8_ways 57 = .ok (.iload_n 2, 1) := by decide +kernel
theorem dX8_ways_58 : decode cX8_ways 58 = .ok (.imul, 1) := by decide +kernel
theorem dX8_ways_59 : decode cX8_ways 59 = .ok (.iload 5, 2) := by decide +kernel
theorem dX8_ways_61 : decode cX8_ways 61 = .ok (.iadd, 1) := by decide +kernel
theorem dX8_ways_62 : decode cX8_ways 62 = .ok (.iaload, 1) := by decide +kernel
theorem dX8_ways_63 : decode cX8_ways 63 = .ok (.if_icmp .gt 20, 3) := by decide +kernel
theorem dX8_ways_66 : decode cX8_ways 66 = .ok (.iinc 4 1, 3) := by decide +kernel
theorem dX8_ways_69 : decode cX8_ways 69 = .ok (.iload_n 3, 1) := by decide +kernel
theorem dX8_ways_70 : decode cX8_ways 70 = .ok (.iload 4, 2) := by decide +kernel
theorem dX8_ways_72 : decode cX8_ways 72 = .ok (.imul, 1) := by decide +kernel
theorem dX8_ways_73 : decode cX8_ways 73 = .ok (.iload 6, 2) := by decide +kernel
theorem dX8_ways_75 : decode cX8_ways 75 = .ok (.idiv, 1) := by decide +kernel
theorem dX8_ways_76 : decode cX8_ways 76 = .ok (.istore_n 3, 1) := by decide +kernel
theorem dX8_ways_77 : decode cX8_ways 77 = .ok (.iinc 6 1, 3) := by decide +kernel
theorem dX8_ways_80 : decode cX8_ways 80 = .ok (.goto (-31), 3) := by decide +kernel
theorem dX8_ways_83 : decode cX8_ways 83 = .ok (.iinc 5 1, 3) := by decide +kernel
theorem dX8_ways_86 : decode cX8_ways 86 = .ok (.goto (-47), 3) := by decide +kernel
theorem dX8_ways_89 : decode cX8_ways 89 = .ok (.iload_n 3, 1) := by decide +kernel
theorem dX8_ways_90 : decode cX8_ways 90 = .ok (.ireturn, 1) := by decide +kernel
theorem dX8_filled_0 : decode cX8_filled 0 = .ok (.iload_n 1, 1) := by decide +kernel
theorem dX8_filled_1 : decode cX8_filled 1 = .ok (.iconst 0, 1) := by decide +kernel
theorem dX8_filled_2 : decode cX8_filled 2 = .ok (.aload_n 0, 1) := by decide +kernel
theorem dX8_filled_3 : decode cX8_filled 3 = .ok (.getfield 86, 3) := by decide +kernel
theorem dX8_filled_6 : decode cX8_filled 6 = .ok (.iconst 1, 1) := by decide +kernel
theorem dX8_filled_7 : decode cX8_filled 7 = .ok (.isub, 1) := by decide +kernel
theorem dX8_filled_8 : decode cX8_filled 8 = .ok (.invokestatic 78, 3) := by decide +kernel
theorem dX8_filled_11 : decode cX8_filled 11 = .ok (.ifCond .eq 12, 3) := by decide +kernel
theorem dX8_filled_14 : decode cX8_filled 14 = .ok (.aload_n 0, 1) := by decide +kernel
theorem dX8_filled_15 : decode cX8_filled 15 = .ok (.getfield 44, 3) := by decide +kernel
theorem dX8_filled_18 : decode cX8_filled 18 = .ok (.iload_n 1, 1) := by decide +kernel
theorem dX8_filled_19 : decode cX8_filled 19 = .ok (.iaload, 1) := by decide +kernel
theorem dX8_filled_20 : decode cX8_filled 20 = .ok (.goto 5, 3) := by decide +kernel
theorem dX8_filled_23 : decode cX8_filled 23 = .ok (.bipush (-2), 2) := by decide +kernel
theorem dX8_filled_25 : decode cX8_filled 25 = .ok (.ireturn, 1) := by decide +kernel
theorem dX8_count_0 : decode cX8_count 0 = .ok (.aload_n 0, 1) := by decide +kernel
theorem dX8_count_1 : decode cX8_count 1 = .ok (.getfield 82, 3) := by decide +kernel
theorem dX8_count_4 : decode cX8_count 4 = .ok (.ifCond .eq 14, 3) := by decide +kernel
theorem dX8_count_7 : decode cX8_count 7 = .ok (.aload_n 0, 1) := by decide +kernel
theorem dX8_count_8 : decode cX8_count 8 = .ok (.invokevirtual 175, 3) := by decide +kernel
theorem dX8_count_11 : decode cX8_count 11 = .ok (.ifCond .ne 7, 3) := by decide +kernel
theorem dX8_count_14 : decode cX8_count 14 = .ok (.iconst 1, 1) := by decide +kernel
theorem dX8_count_15 : decode cX8_count 15 = .ok (.goto 4, 3) := by decide +kernel
theorem dX8_count_18 : decode cX8_count 18 = .ok (.iconst 0, 1) := by decide +kernel
theorem dX8_count_19 : decode cX8_count 19 = .ok (.istore_n 2, 1) := by decide +kernel
theorem dX8_count_20 : decode cX8_count 20 = .ok (.iload_n 1, 1) := by decide +kernel
theorem dX8_count_21 : decode cX8_count 21 = .ok (.tableswitch 210 0 9 #[55, 60, 65, 70, 75, 89, 94, 122, 149, 197], 55) := by decide +kernel
theorem dX8_count_76 : decode cX8_count 76 = .ok (.aload_n 0, 1) := by decide +kernel
theorem dX8_count_77 : decode cX8_count 77 = .ok (.getfield 7, 3) := by decide +kernel
theorem dX8_count_80 : decode cX8_count 80 = .ok (.ireturn, 1) := by decide +kernel
theorem dX8_count_81 : decode cX8_count 81 = .ok (.aload_n 0, 1) := by decide +kernel
theorem dX8_count_82 : decode cX8_count 82 = .ok (.getfield 13, 3) := by decide +kernel
theorem dX8_count_85 : decode cX8_count 85 = .ok (.ireturn, 1) := by decide +kernel
theorem dX8_count_86 : decode cX8_count 86 = .ok (.aload_n 0, 1) := by decide +kernel
theorem dX8_count_87 : decode cX8_count 87 = .ok (.getfield 16, 3) := by decide +kernel
theorem dX8_count_90 : decode cX8_count 90 = .ok (.ireturn, 1) := by decide +kernel
theorem dX8_count_91 : decode cX8_count 91 = .ok (.aload_n 0, 1) := by decide +kernel
theorem dX8_count_92 : decode cX8_count 92 = .ok (.getfield 86, 3) := by decide +kernel
theorem dX8_count_95 : decode cX8_count 95 = .ok (.ireturn, 1) := by decide +kernel
theorem dX8_count_96 : decode cX8_count 96 = .ok (.aload_n 0, 1) := by decide +kernel
theorem dX8_count_97 : decode cX8_count 97 = .ok (.getfield 86, 3) := by decide +kernel
theorem dX8_count_100 : decode cX8_count 100 = .ok (.aload_n 0, 1) := by decide +kernel
theorem dX8_count_101 : decode cX8_count 101 = .ok (.aload_n 0, 1) := by decide +kernel
theorem dX8_count_102 : decode cX8_count 102 = .ok (.getfield 141, 3) := by decide +kernel
theorem dX8_count_105 : decode cX8_count 105 = .ok (.invokevirtual 107, 3) := by decide +kernel
theorem dX8_count_108 : decode cX8_count 108 = .ok (.isub, 1) := by decide +kernel
theorem dX8_count_109 : decode cX8_count 109 = .ok (.ireturn, 1) := by decide +kernel
theorem dX8_count_110 : decode cX8_count 110 = .ok (.aload_n 0, 1) := by decide +kernel
theorem dX8_count_111 : decode cX8_count 111 = .ok (.getfield 144, 3) := by decide +kernel
theorem dX8_count_114 : decode cX8_count 114 = .ok (.ireturn, 1) := by decide +kernel
theorem dX8_count_115 : decode cX8_count 115 = .ok (.aload_n 0, 1) := by decide +kernel
theorem dX8_count_116 : decode cX8_count 116 = .ok (.getfield 82, 3) := by decide +kernel
theorem dX8_count_119 : decode cX8_count 119 = .ok (.ifCond .eq 22, 3) := by decide +kernel
theorem dX8_count_122 : decode cX8_count 122 = .ok (.aload_n 0, 1) := by decide +kernel
theorem dX8_count_123 : decode cX8_count 123 = .ok (.getfield 147, 3) := by decide +kernel
theorem dX8_count_126 : decode cX8_count 126 = .ok (.ifCond .eq 15, 3) := by decide +kernel
theorem dX8_count_129 : decode cX8_count 129 = .ok (.aload_n 0, 1) := by decide +kernel
theorem dX8_count_130 : decode cX8_count 130 = .ok (.getfield 35, 3) := by decide +kernel
theorem dX8_count_133 : decode cX8_count 133 = .ok (.aload_n 0, 1) := by decide +kernel
theorem dX8_count_134 : decode cX8_count 134 = .ok (.getfield 153, 3) := by decide +kernel
theorem dX8_count_137 : decode cX8_count 137 = .ok (.iaload, 1) := by decide +kernel
theorem dX8_count_138 : decode cX8_count 138 = .ok (.goto 4, 3) := by decide +kernel
theorem dX8_count_141 : decode cX8_count 141 = .ok (.iconst 0, 1) := by decide +kernel
theorem dX8_count_142 : decode cX8_count 142 = .ok (.ireturn, 1) := by decide +kernel
theorem dX8_count_143 : decode cX8_count 143 = .ok (.iload_n 2, 1) := by decide +kernel
theorem dX8_count_144 : decode cX8_count 144 = .ok (.ifCond .ne 7, 3) := by decide +kernel
theorem dX8_count_147 : decode cX8_count 147 = .ok (.iconst 0, 1) := by decide +kernel
theorem dX8_count_148 : decode cX8_count 148 = .ok (.goto 21, 3) := by decide +kernel
theorem dX8_count_151 : decode cX8_count 151 = .ok (.aload_n 0, 1) := by decide +kernel
theorem dX8_count_152 : decode cX8_count 152 = .ok (.getfield 147, 3) := by decide +kernel
theorem dX8_count_155 : decode cX8_count 155 = .ok (.ifCond .eq 10, 3) := by decide +kernel
theorem dX8_count_158 : decode cX8_count 158 = .ok (.aload_n 0, 1) := by decide +kernel
theorem dX8_count_159 : decode cX8_count 159 = .ok (.getfield 156, 3) := by decide +kernel
theorem dX8_count_162 : decode cX8_count 162 = .ok (.goto 7, 3) := by decide +kernel
theorem dX8_count_165 : decode cX8_count 165 = .ok (.aload_n 0, 1) := by decide +kernel
theorem dX8_count_166 : decode cX8_count 166 = .ok (.getfield 16, 3) := by decide +kernel
theorem dX8_count_169 : decode cX8_count 169 = .ok (.ireturn, 1) := by decide +kernel
theorem dX8_count_170 : decode cX8_count 170 = .ok (.iload_n 2, 1) := by decide +kernel
theorem dX8_count_171 : decode cX8_count 171 = .ok (.ifCond .ne 7, 3) := by decide +kernel

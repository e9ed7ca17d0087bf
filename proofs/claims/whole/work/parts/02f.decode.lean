theorem dX8_isPart_48 : decode cX8_isPart 48 = .ok (.istore_n 3, 1) := by decide +kernel
theorem dX8_isPart_49 : decode cX8_isPart 49 = .ok (.iinc 4 1, 3) := by decide +kernel
theorem dX8_isPart_52 : decode cX8_isPart 52 = .ok (.goto (-47), 3) := by decide +kernel
theorem dX8_isPart_55 : decode cX8_isPart 55 = .ok (.iload_n 3, 1) := by decide +kernel
theorem dX8_isPart_56 : decode cX8_isPart 56 = .ok (.ireturn, 1) := by decide +kernel
theorem dX8_bestRowOf_0 : decode cX8_bestRowOf 0 = .ok (.aload_n 0, 1) := by decide +kernel
theorem dX8_bestRowOf_1 : decode cX8_bestRowOf 1 = .ok (.aload_n 0, 1) := by decide +kernel
theorem dX8_bestRowOf_2 : decode cX8_bestRowOf 2 = .ok (.iload_n 2, 1) := by decide +kernel
theorem dX8_bestRowOf_3 : decode cX8_bestRowOf 3 = .ok (.invokevirtual 107, 3) := by decide +kernel
theorem dX8_bestRowOf_6 : decode cX8_bestRowOf 6 = .ok (.iconst 1, 1) := by decide +kernel
theorem dX8_bestRowOf_7 : decode cX8_bestRowOf 7 = .ok (.isub, 1) := by decide +kernel
theorem dX8_bestRowOf_8 : decode cX8_bestRowOf 8 = .ok (.invokevirtual 111, 3) := by decide +kernel
theorem dX8_bestRowOf_11 : decode cX8_bestRowOf 11 = .ok (.lstore_n 3, 1) := by decide +kernel
theorem dX8_bestRowOf_12 : decode cX8_bestRowOf 12 = .ok (.ldc2_w 115, 3) := by decide +kernel
theorem dX8_bestRowOf_15 : decode cX8_bestRowOf 15 = .ok (.lstore 5, 2) := by decide +kernel
theorem dX8_bestRowOf_17 : decode cX8_bestRowOf 17 = .ok (.iconst 0, 1) := by decide +kernel
theorem dX8_bestRowOf_18 : decode cX8_bestRowOf 18 = .ok (.istore 7, 2) := by decide +kernel
theorem dX8_bestRowOf_20 : decode cX8_bestRowOf 20 = .ok (.iload 7, 2) := by decide +kernel
theorem dX8_bestRowOf_22 : decode cX8_bestRowOf 22 = .ok (.aload_n 0, 1) := by decide +kernel
theorem dX8_bestRowOf_23 : decode cX8_bestRowOf 23 = .ok (.getfield 86, 3) := by decide +kernel
theorem dX8_bestRowOf_26 : decode cX8_bestRowOf 26 = .ok (.if_icmp .ge 85, 3) := by decide +kernel
theorem dX8_bestRowOf_29 : decode cX8_bestRowOf 29 = .ok (.iload_n 2, 1) := by decide +kernel
theorem dX8_bestRowOf_30 : decode cX8_bestRowOf 30 = .ok (.iload 7, 2) := by decide +kernel
theorem dX8_bestRowOf_32 : decode cX8_bestRowOf 32 = .ok (.ishr, 1) := by decide +kernel
theorem dX8_bestRowOf_33 : decode cX8_bestRowOf 33 = .ok (.iconst 1, 1) := by decide +kernel
theorem dX8_bestRowOf_34 : decode cX8_bestRowOf 34 = .ok (.iand, 1) := by decide +kernel
theorem dX8_bestRowOf_35 : decode cX8_bestRowOf 35 = .ok (.ifCond .ne 70, 3) := by decide +kernel
theorem dX8_bestRowOf_38 : decode cX8_bestRowOf 38 = .ok (.aload_n 0, 1) := by decide +kernel
theorem dX8_bestRowOf_39 : decode cX8_bestRowOf 39 = .ok (.getfield 41, 3) := by decide +kernel
theorem dX8_bestRowOf_42 : decode cX8_bestRowOf 42 = .ok (.bipush 8, 2) := by decide +kernel
theorem dX8_bestRowOf_44 : decode cX8_bestRowOf 44 = .ok (.iload_n 1, 1) := by decide +kernel
theorem dX8_bestRowOf_45 : decode cX8_bestRowOf 45 = .ok (.imul, 1) := by decide +kernel
theorem dX8_bestRowOf_46 : decode cX8_bestRowOf 46 = .ok (.iload 7, 2) := by decide +kernel
theorem dX8_bestRowOf_48 : decode cX8_bestRowOf 48 = .ok (.iadd, 1) := by decide +kernel
theorem dX8_bestRowOf_49 : decode cX8_bestRowOf 49 = .ok (.iaload, 1) := by decide +kernel
theorem dX8_bestRowOf_50 : decode cX8_bestRowOf 50 = .ok (.i2l, 1) := by decide +kernel
theorem dX8_bestRowOf_51 : decode cX8_bestRowOf 51 = .ok (.lload_n 3, 1) := by decide +kernel
theorem dX8_bestRowOf_52 : decode cX8_bestRowOf 52 = .ok (.lmul, 1) := by decide +kernel
theorem dX8_bestRowOf_53 : decode cX8_bestRowOf 53 = .ok (.aload_n 0, 1) := by decide +kernel
theorem dX8_bestRowOf_54 : decode cX8_bestRowOf 54 = .ok (.getfield 51, 3) := by decide +kernel
theorem dX8_bestRowOf_57 : decode cX8_bestRowOf 57 = .ok (.iload_n 2, 1) := by decide +kernel
theorem dX8_bestRowOf_58 : decode cX8_bestRowOf 58 = .ok (.iconst 1, 1) := by decide +kernel
theorem dX8_bestRowOf_59 : decode cX8_bestRowOf 59 = .ok (.iload 7, 2) := by decide +kernel
theorem dX8_bestRowOf_61 : decode cX8_bestRowOf 61 = .ok (.ishl, 1) := by decide +kernel
theorem dX8_bestRowOf_62 : decode cX8_bestRowOf 62 = .ok (.ior, 1) := by decide +kernel
theorem dX8_bestRowOf_63 : decode cX8_bestRowOf 63 = .ok (.laload, 1) := by decide +kernel
theorem dX8_bestRowOf_64 : decode cX8_bestRowOf 64 = .ok (.ladd, 1) := by decide +kernel
theorem dX8_bestRowOf_65 : decode cX8_bestRowOf 65 = .ok (.lstore 8, 2) := by decide +kernel
theorem dX8_bestRowOf_67 : decode cX8_bestRowOf 67 = .ok (.aload_n 0, 1) := by decide +kernel
theorem dX8_bestRowOf_68 : decode cX8_bestRowOf 68 = .ok (.lload 8, 2) := by decide +kernel
theorem dX8_bestRowOf_70 : decode cX8_bestRowOf 70 = .ok (.lload 5, 2) := by decide +kernel
theorem dX8_bestRowOf_72 : decode cX8_bestRowOf 72 = .ok (.lcmp, 1) := by decide +kernel
theorem dX8_bestRowOf_73 : decode cX8_bestRowOf 73 = .ok (.ifCond .le 8, 3) := by decide +kernel
theorem dX8_bestRowOf_76 : decode cX8_bestRowOf 76 = .ok (.iload 7, 2) := by decide +kernel
theorem dX8_bestRowOf_78 : decode cX8_bestRowOf 78 = .ok (.goto 7, 3) := by decide +kernel
theorem dX8_bestRowOf_81 : decode cX8_bestRowOf 81 = .ok (.aload_n 0, 1) := by decide +kernel
theorem dX8_bestRowOf_82 : decode cX8_bestRowOf 82 = .ok (.getfield 117, 3) := by decide +kernel
theorem dX8_bestRowOf_85 : decode cX8_bestRowOf 85 = .ok (.putfield 117, 3) := by decide +kernel
theorem dX8_bestRowOf_88 : decode cX8_bestRowOf 88 = .ok (.lload 8, 2) := by decide +kernel
theorem dX8_bestRowOf_90 : decode cX8_bestRowOf 90 = .ok (.lload 5, 2) := by decide +kernel
theorem dX8_bestRowOf_92 : decode cX8_bestRowOf 92 = .ok (.lcmp, 1) := by decide +kernel
theorem dX8_bestRowOf_93 : decode cX8_bestRowOf 93 = .ok (.ifCond .le 8, 3) := by decide +kernel
theorem dX8_bestRowOf_96 : decode cX8_bestRowOf 96 = .ok (.lload 8, 2) := by decide +kernel
theorem dX8_bestRowOf_98 : decode cX8_bestRowOf 98 = .ok (.goto 5, 3) := by decide +kernel
theorem dX8_bestRowOf_101 : decode cX8_bestRowOf 101 = .ok (.lload 5, 2) := by decide +kernel
theorem dX8_bestRowOf_103 : decode cX8_bestRowOf 103 = .ok (.lstore 5, 2) := by decide +kernel
theorem dX8_bestRowOf_105 : decode cX8_bestRowOf 105 = .ok (.iinc 7 1, 3) := by decide +kernel
theorem dX8_bestRowOf_108 : decode cX8_bestRowOf 108 = .ok (.goto (-88), 3) := by decide +kernel
theorem dX8_bestRowOf_111 : decode cX8_bestRowOf 111 = .ok (.lload 5, 2) := by decide +kernel
theorem dX8_bestRowOf_113 : decode cX8_bestRowOf 113 = .ok (.lreturn, 1) := by decide +kernel
theorem dX8_findWorths_0 : decode cX8_findWorths 0 = .ok (.iconst 0, 1) := by decide +kernel
theorem dX8_findWorths_1 : decode cX8_findWorths 1 = .ok (.istore_n 2, 1) := by decide +kernel
theorem dX8_findWorths_2 : decode cX8_findWorths 2 = .ok (.iload_n 2, 1) := by decide +kernel
theorem dX8_findWorths_3 : decode cX8_findWorths 3 = .ok (.aload_n 0, 1) := by decide +kernel
theorem dX8_findWorths_4 : decode cX8_findWorths 4 = .ok (.getfield 71, 3) := by decide +kernel
theorem dX8_findWorths_7 : decode cX8_findWorths 7 = .ok (.if_icmp .ge 34, 3) := by decide +kernel
theorem dX8_findWorths_10 : decode cX8_findWorths 10 = .ok (.aload_n 0, 1) := by decide +kernel
theorem dX8_findWorths_11 : decode cX8_findWorths 11 = .ok (.getfield 32, 3) := by decide +kernel
theorem dX8_findWorths_14 : decode cX8_findWorths 14 = .ok (.iload_n 2, 1) := by decide +kernel
theorem dX8_findWorths_15 : decode cX8_findWorths 15 = .ok (.iaload, 1) := by decide +kernel
theorem dX8_findWorths_16 : decode cX8_findWorths 16 = .ok (.aload_n 0, 1) := by decide +kernel
theorem dX8_findWorths_17 : decode cX8_findWorths 17 = .ok (.getfield 7, 3) := by decide +kernel
theorem dX8_findWorths_20 : decode cX8_findWorths 20 = .ok (.if_icmp .ne 15, 3) := by decide +kernel
theorem dX8_findWorths_23 : decode cX8_findWorths 23 = .ok (.aload_n 0, 1) := by decide +kernel
theorem dX8_findWorths_24 : decode cX8_findWorths 24 = .ok (.getfield 54, 3) := by decide +kernel
theorem dX8_findWorths_27 : decode cX8_findWorths 27 = .ok (.iload_n 2, 1) := by decide +kernel
theorem dX8_findWorths_28 : decode cX8_findWorths 28 = .ok (.aload_n 0, 1) := by decide +kernel
theorem dX8_findWorths_29 : decode cX8_findWorths 29 = .ok (.iload_n 2, 1) := by decide +kernel
theorem dX8_findWorths_30 : decode cX8_findWorths 30 = .ok (.iload_n 1, 1) := by decide +kernel
theorem dX8_findWorths_31 : decode cX8_findWorths 31 = .ok (.invokevirtual 120, 3) := by decide +kernel
theorem dX8_findWorths_34 : decode cX8_findWorths 34 = .ok (.lastore, 1) := by decide +kernel
theorem dX8_findWorths_35 : decode cX8_findWorths 35 = .ok (.iinc 2 1, 3) := by decide +kernel
theorem dX8_findWorths_38 : decode cX8_findWorths 38 = .ok (.goto (-36), 3) := by decide +kernel
theorem dX8_findWorths_41 : decode cX8_findWorths 41 = .ok (.aload_n 0, 1) := by decide +kernel
theorem dX8_findWorths_42 : decode cX8_findWorths 42 = .ok (.invokevirtual 124, 3) := by decide +kernel
theorem dX8_findWorths_45 : decode cX8_findWorths 45 = .ok (.return_, 1) := by decide +kernel
theorem dX8_begin_0 : decode cX8_begin 0 = .ok (.aload_n 0, 1) := by decide +kernel
theorem dX8_begin_1 : decode cX8_begin 1 = .ok (.getfield 82, 3) := by decide +kernel
theorem dX8_begin_4 : decode cX8_begin 4 = .ok (.ifCond .ne 10, 3) := by decide +kernel
theorem dX8_begin_7 : decode cX8_begin 7 = .ok (.aload_n 0, 1) := by decide +kernel
theorem dX8_begin_8 : decode cX8_begin 8 = .ok (.getfield 86, 3) := by decide +kernel
theorem dX8_begin_11 : decode cX8_begin 11 = .ok (.ifCond .ne 6, 3) := by decide +kernel
theorem dX8_begin_14 : decode cX8_begin 14 = .ok (.bipush (-4), 2) := by decide +kernel
theorem dX8_begin_16 : decode cX8_begin 16 = .ok (.ireturn, 1) := by decide +kernel
theorem dX8_begin_17 : decode cX8_begin 17 = .ok (.aload_n 0, 1) := by decide +kernel
theorem dX8_begin_18 : decode cX8_begin 18 = .ok (.aload_n 0, 1) := by decide +kernel
theorem dX8_begin_19 : decode cX8_begin 19 = .ok (.aload_n 0, 1) := by decide +kernel
theorem dX8_begin_20 : decode cX8_begin 20 = .ok (.getfield 13, 3) := by decide +kernel
theorem dX8_begin_23 : decode cX8_begin 23 = .ok (.i2l, 1) := by decide +kernel
theorem dX8_begin_24 : decode cX8_begin 24 = .ok (.aload_n 0, 1) := by decide +kernel
theorem dX8_begin_25 : decode cX8_begin 25 = .ok (.getfield 7, 3) := by decide +kernel
theorem dX8_begin_28 : decode cX8_begin 28 = .ok (.invokevirtual 93, 3) := by decide +kernel
theorem dX8_begin_31 : decode cX8_begin 31 = .ok (.putfield 89, 3) := by decide +kernel
theorem dX8_begin_34 : decode cX8_begin 34 = .ok (.aload_n 0, 1) := by decide +kernel
theorem dX8_begin_35 : decode cX8_begin 35 = .ok (.invokevirtual 127, 3) := by decide +kernel
theorem dX8_begin_38 : decode cX8_begin 38 = .ok (.ifCond .eq 6, 3) := by decide +kernel
theorem dX8_begin_41 : decode cX8_begin 41 = .ok (.bipush (-5), 2) := by decide +kernel
theorem dX8_begin_43 : decode cX8_begin 43 = .ok (.ireturn, 1) := by decide +kernel
theorem dX8_begin_44 : decode cX8_begin 44 = .ok (.iconst 0, 1) := by decide +kernel
theorem dX8_begin_45 : decode cX8_begin 45 = .ok (.istore_n 1, 1) := by decide +kernel
theorem dX8_begin_46 : decode cX8_begin 46 = .ok (.iload_n 1, 1) := by decide +kernel
theorem dX8_begin_47 : decode cX8_begin 47 = .ok (.bipush 6, 2) := by decide +kernel
theorem dX8_begin_49 : decode cX8_begin 49 = .ok (.if_icmp .ge 25, 3) := by decide +kernel
theorem dX8_begin_52 : decode cX8_begin 52 = .ok (.aload_n 0, 1) := by decide +kernel
theorem dX8_begin_53 : decode cX8_begin 53 = .ok (.getfield 47, 3) := by decide +kernel
theorem dX8_begin_56 : decode cX8_begin 56 = .ok (.iload_n 1, 1) := by decide +kernel
theorem dX8_begin_57 : decode cX8_begin 57 = .ok (.aload_n 0, 1) := by decide +kernel
theorem dX8_begin_58 : decode cX8_begin 58 = .ok (.aload_n 0, 1) := by decide +kernel
theorem dX8_begin_59 : decode cX8_begin 59 = .ok (.getfield 13, 3) := by decide +kernel
theorem dX8_begin_62 : decode cX8_begin 62 = .ok (.i2l, 1) := by decide +kernel
theorem dX8_begin_63 : decode cX8_begin 63 = .ok (.iload_n 1, 1) := by decide +kernel
theorem dX8_begin_64 : decode cX8_begin 64 = .ok (.invokevirtual 93, 3) := by decide +kernel
theorem dX8_begin_67 : decode cX8_begin 67 = .ok (.lastore, 1) := by decide +kernel
theorem dX8_begin_68 : decode cX8_begin 68 = .ok (.iinc 1 1, 3) := by decide +kernel
theorem dX8_begin_71 : decode cX8_begin 71 = .ok (.goto (-25), 3) := by decide +kernel
theorem dX8_begin_74 : decode cX8_begin 74 = .ok (.aload_n 0, 1) := by decide +kernel
theorem dX8_begin_75 : decode cX8_begin 75 = .ok (.invokevirtual 131, 3) := by decide +kernel
theorem dX8_begin_78 : decode cX8_begin 78 = .ok (.iconst 0, 1) := by decide +kernel
theorem dX8_begin_79 : decode cX8_begin 79 = .ok (.istore_n 1, 1) := by decide +kernel
theorem dX8_begin_80 : decode cX8_begin 80 = .ok (.iload_n 1, 1) := by decide +kernel
theorem dX8_begin_81 : decode cX8_begin 81 = .ok (.aload_n 0, 1) := by decide +kernel
theorem dX8_begin_82 : decode cX8_begin 82 = .ok (.getfield 71, 3) := by decide +kernel
theorem dX8_begin_85 : decode cX8_begin 85 = .ok (.if_icmp .ge 59, 3) := by decide +kernel
theorem dX8_begin_88 : decode cX8_begin 88 = .ok (.iconst 0, 1) := by decide +kernel
theorem dX8_begin_89 : decode cX8_begin 89 = .ok (.istore_n 2, 1) := by decide +kernel
theorem dX8_begin_90 : decode cX8_begin 90 = .ok (.iload_n 2, 1) := by decide +kernel
theorem dX8_begin_91 : decode cX8_begin 91 = .ok (.aload_n 0, 1) := by decide +kernel
theorem dX8_begin_92 : decode cX8_begin 92 = .ok (.getfield 86, 3) := by decide +kernel
theorem dX8_begin_95 : decode cX8_begin 95 = .ok (.if_icmp .ge 43, 3) := by decide +kernel
theorem dX8_begin_98 : decode cX8_begin 98 = .ok (.aload_n 0, 1) := by decide +kernel
theorem dX8_begin_99 : decode cX8_begin 99 = .ok (.getfield 41, 3) := by decide +kernel
theorem dX8_begin_102 : decode cX8_begin 102 = .ok (.bipush 8, 2) := by decide +kernel
theorem dX8_begin_104 : decode cX8_begin 104 = .ok (.iload_n 1, 1) := by decide +kernel
theorem dX8_begin_105 : decode cX8_begin 105 = .ok (.imul, 1) := by decide +kernel
theorem dX8_begin_106 : decode cX8_begin 106 = .ok (.iload_n 2, 1) := by decide +kernel
theorem dX8_begin_107 : decode cX8_begin 107 = .ok (.iadd, 1) := by decide +kernel
theorem dX8_begin_108 : decode cX8_begin 108 = .ok (.aload_n 0, 1) := by decide +kernel
theorem dX8_begin_109 : decode cX8_begin 109 = .ok (.getfield 32, 3) := by decide +kernel
theorem dX8_begin_112 : decode cX8_begin 112 = .ok (.iload_n 1, 1) := by decide +kernel
theorem dX8_begin_113 : decode cX8_begin 113 = .ok (.iaload, 1) := by decide +kernel
theorem dX8_begin_114 : decode cX8_begin 114 = .ok (.aload_n 0, 1) := by decide +kernel
theorem dX8_begin_115 : decode cX8_begin 115 = .ok (.getfield 7, 3) := by decide +kernel
theorem dX8_begin_118 : decode cX8_begin 118 = .ok (.if_icmp .ne 12, 3) := by decide +kernel
theorem dX8_begin_121 : decode cX8_begin 121 = .ok (.aload_n 0, 1) := by decide +kernel
theorem dX8_begin_122 : decode cX8_begin 122 = .ok (.iload_n 1, 1) := by decide +kernel
theorem dX8_begin_123 : decode cX8_begin 123 = .ok (.iload_n 2, 1) := by decide +kernel
theorem dX8_begin_124 : decode cX8_begin 124 = .ok (.invokevirtual 134, 3) := by decide +kernel
theorem dX8_begin_127 : decode cX8_begin 127 = .ok (.goto 4, 3) := by decide +kernel
theorem dX8_begin_130 : decode cX8_begin 130 = .ok (.iconst 0, 1) := by decide +kernel
theorem dX8_begin_131 : decode cX8_begin 131 = .ok (.iastore, 1) := by decide +kernel
theorem dX8_begin_132 : decode cX8_begin 132 = .ok (.iinc 2 1, 3) := by decide +kernel
theorem dX8_begin_135 : decode cX8_begin 135 = .ok (.goto (-45), 3) := by decide +kernel
theorem dX8_begin_138 : decode cX8_begin 138 = .ok (.iinc 1 1, 3) := by decide +kernel
theorem dX8_begin_141 : decode cX8_begin 141 = .ok (.goto (-61), 3) := by decide +kernel
theorem dX8_begin_144 : decode cX8_begin 144 = .ok (.iconst 1, 1) := by decide +kernel
theorem dX8_begin_145 : decode cX8_begin 145 = .ok (.aload_n 0, 1) := by decide +kernel
theorem dX8_begin_146 : decode cX8_begin 146 = .ok (.getfield 86, 3) := by decide +kernel
theorem dX8_begin_149 : decode cX8_begin 149 = .ok (.ishl, 1) := by decide +kernel
theorem dX8_begin_150 : decode cX8_begin 150 = .ok (.iconst 1, 1) := by decide +kernel
theorem dX8_begin_151 : decode cX8_begin 151 = .ok (.isub, 1) := by decide +kernel
theorem dX8_begin_152 : decode cX8_begin 152 = .ok (.istore_n 1, 1) := by decide +kernel
theorem dX8_begin_153 : decode cX8_begin 153 = .ok (.aload_n 0, 1) := by decide +kernel
theorem dX8_begin_154 : decode cX8_begin 154 = .ok (.getfield 51, 3) := by decide +kernel
theorem dX8_begin_157 : decode cX8_begin 157 = .ok (.iload_n 1, 1) := by decide +kernel
theorem dX8_begin_158 : decode cX8_begin 158 = .ok (.lconst 0, 1) := by decide +kernel
theorem dX8_begin_159 : decode cX8_begin 159 = .ok (.lastore, 1) := by decide +kernel
theorem dX8_begin_160 : decode cX8_begin 160 = .ok (.iload_n 1, 1) := by decide +kernel
theorem dX8_begin_161 : decode cX8_begin 161 = .ok (.iconst 1, 1) := by decide +kernel
theorem dX8_begin_162 : decode cX8_begin 162 = .ok (.isub, 1) := by decide +kernel
theorem dX8_begin_163 : decode cX8_begin 163 = .ok (.istore_n 2, 1) := by decide +kernel
theorem dX8_begin_164 : decode cX8_begin 164 = .ok (.iload_n 2, 1) := by decide +kernel
theorem dX8_begin_165 : decode cX8_begin 165 = .ok (.ifCond .lt 34, 3) := by decide +kernel
theorem dX8_begin_168 : decode cX8_begin 168 = .ok (.aload_n 0, 1) := by decide +kernel
theorem dX8_begin_169 : decode cX8_begin 169 = .ok (.iload_n 2, 1) := by decide +kernel
theorem dX8_begin_170 : decode cX8_begin 170 = .ok (.invokevirtual 138, 3) := by decide +kernel
theorem dX8_begin_173 : decode cX8_begin 173 = .ok (.aload_n 0, 1) := by decide +kernel
theorem dX8_begin_174 : decode cX8_begin 174 = .ok (.aload_n 0, 1) := by decide +kernel
theorem dX8_begin_175 : decode cX8_begin 175 = .ok (.getfield 16, 3) := by decide +kernel
theorem dX8_begin_178 : decode cX8_begin 178 = .ok (.invokevirtual 99, 3) := by decide +kernel
theorem dX8_begin_181 : decode cX8_begin 181 = .ok (.aload_n 0, 1) := by decide +kernel
theorem dX8_begin_182 : decode cX8_begin 182 = .ok (.getfield 51, 3) := by decide +kernel
theorem dX8_begin_185 : decode cX8_begin 185 = .ok (.iload_n 2, 1) := by decide +kernel
theorem dX8_begin_186 : decode cX8_begin 186 = .ok (.aload_n 0, 1) := by decide +kernel
theorem dX8_begin_187 : decode cX8_begin 187 = .ok (.getfield 57, 3) := by decide +kernel
theorem dX8_begin_190 : decode cX8_begin 190 = .ok (.iconst 0, 1) := by decide +kernel
theorem dX8_begin_191 : decode cX8_begin 191 = .ok (.laload, 1) := by decide +kernel
theorem dX8_begin_192 : decode cX8_begin 192 = .ok (.lastore, 1) := by decide +kernel
theorem dX8_begin_193 : decode cX8_begin 193 = .ok (.iinc 2 (-1), 3) := by decide +kernel
theorem dX8_begin_196 : decode cX8_begin 196 = .ok (.goto (-32), 3) := by decide +kernel
theorem dX8_begin_199 : decode cX8_begin 199 = .ok (.aload_n 0, 1) := by decide +kernel
theorem dX8_begin_200 : decode cX8_begin 200 = .ok (.iconst 1, 1) := by decide +kernel
theorem dX8_begin_201 : decode cX8_begin 201 = .ok (.putfield 82, 3) := by decide +kernel
theorem dX8_begin_204 : decode cX8_begin 204 = .ok (.aload_n 0, 1) := by decide +kernel
theorem dX8_begin_205 : decode cX8_begin 205 = .ok (.iconst 0, 1) := by decide +kernel
theorem dX8_begin_206 : decode cX8_begin 206 = .ok (.putfield 141, 3) := by decide +kernel
theorem dX8_begin_209 : decode cX8_begin 209 = .ok (.aload_n 0, 1) := by decide +kernel
theorem dX8_begin_210 : decode cX8_begin 210 = .ok (.iconst 0, 1) := by decide +kernel
theorem dX8_begin_211 : decode cX8_begin 211 = .ok (.putfield 144, 3) := by decide +kernel
theorem dX8_begin_214 : decode cX8_begin 214 = .ok (.aload_n 0, 1) := by decide +kernel
theorem dX8_begin_215 : decode cX8_begin 215 = .ok (.iconst 0, 1) := by decide +kernel
theorem dX8_begin_216 : decode cX8_begin 216 = .ok (.putfield 147, 3) := by decide +kernel
theorem dX8_begin_219 : decode cX8_begin 219 = .ok (.aload_n 0, 1) := by decide +kernel
theorem dX8_begin_220 : decode cX8_begin 220 = .ok (.iconst 0, 1) := by decide +kernel
theorem dX8_begin_221 : decode cX8_begin 221 = .ok (.putfield 150, 3) := by decide +kernel
theorem dX8_begin_224 : decode cX8_begin 224 = .ok (.aload_n 0, 1) := by decide +kernel
theorem dX8_begin_225 : decode cX8_begin 225 = .ok (.iconst 0, 1) := by decide +kernel
theorem dX8_begin_226 : decode cX8_begin 226 = .ok (.putfield 153, 3) := by decide +kernel
theorem dX8_begin_229 : decode cX8_begin 229 = .ok (.aload_n 0, 1) := by decide +kernel
theorem dX8_begin_230 : decode cX8_begin 230 = .ok (.iconst 0, 1) := by decide +kernel
theorem dX8_begin_231 : decode cX8_begin 231 = .ok (.putfield 156, 3) := by decide +kernel
theorem dX8_begin_234 : decode cX8_begin 234 = .ok (.aload_n 0, 1) := by decide +kernel
theorem dX8_begin_235 : decode cX8_begin 235 = .ok (.lconst 0, 1) := by decide +kernel
theorem dX8_begin_236 : decode cX8_begin 236 = .ok (.putfield 159, 3) := by decide +kernel
theorem dX8_begin_239 : decode cX8_begin 239 = .ok (.aload_n 0, 1) := by decide +kernel
theorem dX8_begin_240 : decode cX8_begin 240 = .ok (.lconst 0, 1) := by decide +kernel
theorem dX8_begin_241 : decode cX8_begin 241 = .ok (.putfield 162, 3) := by decide +kernel
theorem dX8_begin_244 : decode cX8_begin 244 = .ok (.iconst 1, 1) := by decide +kernel
theorem dX8_begin_245 : decode cX8_begin 245 = .ok (.ireturn, 1) := by decide +kernel
theorem dX8_end_0 : decode cX8_end 0 = .ok (.aload_n 0, 1) := by decide +kernel
theorem dX8_end_1 : decode cX8_end 1 = .ok (.iconst 0, 1) := by decide +kernel
theorem dX8_end_2 : decode cX8_end 2 = .ok (.putfield 82, 3) := by decide +kernel
theorem dX8_end_5 : decode cX8_end 5 = .ok (.aload_n 0, 1) := by decide +kernel
theorem dX8_end_6 : decode cX8_end 6 = .ok (.iconst 0, 1) := by decide +kernel
theorem dX8_end_7 : decode cX8_end 7 = .ok (.putfield 86, 3) := by decide +kernel
theorem dX8_end_10 : decode cX8_end 10 = .ok (.aload_n 0, 1) := by decide +kernel
theorem dX8_end_11 : decode cX8_end 11 = .ok (.iconst 0, 1) := by decide +kernel
theorem dX8_end_12 : decode cX8_end 12 = .ok (.putfield 141, 3) := by decide +kernel
theorem dX8_end_15 : decode cX8_end 15 = .ok (.aload_n 0, 1) := by decide +kernel
theorem dX8_end_16 : decode cX8_end 16 = .ok (.iconst 0, 1) := by decide +kernel
theorem dX8_end_17 : decode cX8_end 17 = .ok (.putfield 144, 3) := by decide +kernel
theorem dX8_end_20 : decode cX8_end 20 = .ok (.aload_n 0, 1) := by decide +kernel
theorem dX8_end_21 : decode cX8_end 21 = .ok (.iconst 0, 1) := by decide +kernel
theorem dX8_end_22 : decode cX8_end 22 = .ok (.putfield 147, 3) := by decide +kernel
theorem dX8_end_25 : decode cX8_end 25 = .ok (.aload_n 0, 1) := by decide +kernel
theorem dX8_end_26 : decode cX8_end 26 = .ok (.iconst 0, 1) := by decide +kernel
theorem dX8_end_27 : decode cX8_end 27 = .ok (.putfield 150, 3) := by decide +kernel
theorem dX8_end_30 : decode cX8_end 30 = .ok (.aload_n 0, 1) := by decide +kernel
theorem dX8_end_31 : decode cX8_end 31 = .ok (.iconst 0, 1) := by decide +kernel
theorem dX8_end_32 : decode cX8_end 32 = .ok (.putfield 153, 3) := by decide +kernel
theorem dX8_end_35 : decode cX8_end 35 = .ok (.aload_n 0, 1) := by decide +kernel
theorem dX8_end_36 : decode cX8_end 36 = .ok (.iconst 0, 1) := by decide +kernel
theorem dX8_end_37 : decode cX8_end 37 = .ok (.putfield 156, 3) := by decide +kernel
theorem dX8_end_40 : decode cX8_end 40 = .ok (.aload_n 0, 1) := by decide +kernel
theorem dX8_end_41 : decode cX8_end 41 = .ok (.lconst 0, 1) := by decide +kernel
theorem dX8_end_42 : decode cX8_end 42 = .ok (.putfield 159, 3) := by decide +kernel
theorem dX8_end_45 : decode cX8_end 45 = .ok (.aload_n 0, 1) := by decide +kernel
theorem dX8_end_46 : decode cX8_end 46 = .ok (.lconst 0, 1) := by decide +kernel
theorem dX8_end_47 : decode cX8_end 47 = .ok (.putfield 162, 3) := by decide +kernel
theorem dX8_end_50 : decode cX8_end 50 = .ok (.iconst 0, 1) := by decide +kernel
theorem dX8_end_51 : decode cX8_end 51 = .ok (.istore_n 1, 1) := by decide +kernel
theorem dX8_end_52 : decode cX8_end 52 = .ok (.iload_n 1, 1) := by decide +kernel
theorem dX8_end_53 : decode cX8_end 53 = .ok (.bipush 8, 2) := by decide +kernel
theorem dX8_end_55 : decode cX8_end 55 = .ok (.if_icmp .ge 16, 3) := by decide +kernel
theorem dX8_end_58 : decode cX8_end 58 = .ok (.aload_n 0, 1) := by decide +kernel
theorem dX8_end_59 : decode cX8_end 59 = .ok (.getfield 44, 3) := by decide +kernel
theorem dX8_end_62 : decode cX8_end 62 = .ok (.iload_n 1, 1) := by decide +kernel
theorem dX8_end_63 : decode cX8_end 63 = .ok (.iconst (-1), 1) := by decide +kernel
theorem dX8_end_64 : decode cX8_end 64 = .ok (.iastore, 1) := by decide +kernel
theorem dX8_end_65 : decode cX8_end 65 = .ok (.iinc 1 1, 3) := by decide +kernel
theorem dX8_end_68 : decode cX8_end 68 = .ok (.goto (-16), 3) := by decide +kernel
theorem dX8_end_71 : decode cX8_end 71 = .ok (.iconst 1, 1) := by decide +kernel
theorem dX8_end_72 : decode cX8_end 72 = .ok (.ireturn, 1) := by decide +kernel
theorem dX8_isOver_0 : decode cX8_isOver 0 = .ok (.aload_n 0, 1) := by decide +kernel
theorem dX8_isOver_1 : decode cX8_isOver 1 = .ok (.aload_n 0, 1) := by decide +kernel
theorem dX8_isOver_2 : decode cX8_isOver 2 = .ok (.getfield 141, 3) := by decide +kernel
theorem dX8_isOver_5 : decode cX8_isOver 5 = .ok (.invokevirtual 107, 3) := by decide +kernel
theorem dX8_isOver_8 : decode cX8_isOver 8 = .ok (.ifCond .ne 7, 3) := by decide +kernel
theorem dX8_isOver_11 : decode cX8_isOver 11 = .ok (.iconst 1, 1) := by decide +kernel
theorem dX8_isOver_12 : decode cX8_isOver 12 = .ok (.goto 4, 3) := by decide +kernel
theorem dX8_isOver_15 : decode cX8_isOver 15 = .ok (.iconst 0, 1) := by decide +kernel
theorem dX8_isOver_16 : decode cX8_isOver 16 = .ok (.ireturn, 1) := by decide +kernel
theorem dX8_unitHere_0 : decode cX8_unitHere 0 = .ok (.aload_n 0, 1) := by decide +kernel
theorem dX8_unitHere_1 : decode cX8_unitHere 1 = .ok (.getfield 147, 3) := by decide +kernel
theorem dX8_unitHere_4 : decode cX8_unitHere 4 = .ok (.ifCond .eq 33, 3) := by decide +kernel
theorem dX8_unitHere_7 : decode cX8_unitHere 7 = .ok (.aload_n 0, 1) := by decide +kernel
theorem dX8_unitHere_8 : decode cX8_unitHere 8 = .ok (.aload_n 0, 1) := by decide +kernel
theorem dX8_unitHere_9 : decode cX8_unitHere 9 = .ok (.getfield 89, 3) := by decide +kernel
theorem dX8_unitHere_12 : decode cX8_unitHere 12 = .ok (.aload_n 0, 1) := by decide +kernel
theorem dX8_unitHere_13 : decode cX8_unitHere 13 = .ok (.getfield 156, 3) := by decide +kernel
theorem dX8_unitHere_16 : decode cX8_unitHere 16 = .ok (.invokevirtual 93, 3) := by decide +kernel
theorem dX8_unitHere_19 : decode cX8_unitHere 19 = .ok (.aload_n 0, 1) := by decide +kernel
theorem dX8_unitHere_20 : decode cX8_unitHere 20 = .ok (.aload_n 0, 1) := by decide +kernel
theorem dX8_unitHere_21 : decode cX8_unitHere 21 = .ok (.aload_n 0, 1) := by decide +kernel
theorem dX8_unitHere_22 : decode cX8_unitHere 22 = .ok (.getfield 141, 3) := by decide +kernel
theorem dX8_unitHere_25 : decode cX8_unitHere 25 = .ok (.invokevirtual 107, 3) := by decide +kernel
theorem dX8_unitHere_28 : decode cX8_unitHere 28 = .ok (.iconst 1, 1) := by decide +kernel
theorem dX8_unitHere_29 : decode cX8_unitHere 29 = .ok (.isub, 1) := by decide +kernel
theorem dX8_unitHere_30 : decode cX8_unitHere 30 = .ok (.invokevirtual 111, 3) := by decide +kernel
theorem dX8_unitHere_33 : decode cX8_unitHere 33 = .ok (.lmul, 1) := by decide +kernel
theorem dX8_unitHere_34 : decode cX8_unitHere 34 = .ok (.goto 15, 3) := by decide +kernel
theorem dX8_unitHere_37 : decode cX8_unitHere 37 = .ok (.aload_n 0, 1) := by decide +kernel
theorem dX8_unitHere_38 : decode cX8_unitHere 38 = .ok (.aload_n 0, 1) := by decide +kernel
theorem dX8_unitHere_39 : decode cX8_unitHere 39 = .ok (.aload_n 0, 1) := by decide +kernel
theorem dX8_unitHere_40 : decode cX8_unitHere 40 = .ok (.getfield 141, 3) := by decide +kernel
theorem dX8_unitHere_43 : decode cX8_unitHere 43 = .ok (.invokevirtual 107, 3) := by decide +kernel
theorem dX8_unitHere_46 : decode cX8_unitHere 46 = .ok (.invokevirtual 111, 3) := by decide +kernel
theorem dX8_unitHere_49 : decode cX8_unitHere 49 = .ok (.lreturn, 1) := by decide +kernel
theorem dX8_holdWorth_0 : decode cX8_holdWorth 0 = .ok (.aload_n 0, 1) := by decide +kernel
theorem dX8_holdWorth_1 : decode cX8_holdWorth 1 = .ok (.aload_n 0, 1) := by decide +kernel
theorem dX8_holdWorth_2 : decode cX8_holdWorth 2 = .ok (.getfield 141, 3) := by decide +kernel
theorem dX8_holdWorth_5 : decode cX8_holdWorth 5 = .ok (.invokevirtual 138, 3) := by decide +kernel
theorem dX8_holdWorth_8 : decode cX8_holdWorth 8 = .ok (.aload_n 0, 1) := by decide +kernel
theorem dX8_holdWorth_9 : decode cX8_holdWorth 9 = .ok (.aload_n 0, 1) := by decide +kernel
theorem dX8_holdWorth_10 : decode cX8_holdWorth 10 = .ok (.getfield 156, 3) := by decide +kernel
theorem dX8_holdWorth_13 : decode cX8_holdWorth 13 = .ok (.invokevirtual 99, 3) := by decide +kernel
theorem dX8_holdWorth_16 : decode cX8_holdWorth 16 = .ok (.aload_n 0, 1) := by decide +kernel
theorem dX8_holdWorth_17 : decode cX8_holdWorth 17 = .ok (.getfield 57, 3) := by decide +kernel
theorem dX8_holdWorth_20 : decode cX8_holdWorth 20 = .ok (.iload_n 1, 1) := by decide +kernel
theorem dX8_holdWorth_21 : decode cX8_holdWorth 21 = .ok (.laload, 1) := by decide +kernel
theorem dX8_holdWorth_22 : decode cX8_holdWorth 22 = .ok (.aload_n 0, 1) := by decide +kernel
theorem dX8_holdWorth_23 : decode cX8_holdWorth 23 = .ok (.getfield 47, 3) := by decide +kernel
theorem dX8_holdWorth_26 : decode cX8_holdWorth 26 = .ok (.aload_n 0, 1) := by decide +kernel
theorem dX8_holdWorth_27 : decode cX8_holdWorth 27 = .ok (.getfield 32, 3) := by decide +kernel
theorem dX8_holdWorth_30 : decode cX8_holdWorth 30 = .ok (.iload_n 1, 1) := by decide +kernel
theorem dX8_holdWorth_31 : decode cX8_holdWorth 31 = .ok (.iaload, 1) := by decide +kernel
theorem dX8_holdWorth_32 : decode cX8_holdWorth 32 = .ok (.laload, 1) := by decide +kernel
theorem dX8_holdWorth_33 : decode cX8_holdWorth 33 = .ok (.lmul, 1) := by decide +kernel
theorem dX8_holdWorth_34 : decode cX8_holdWorth 34 = .ok (.lreturn, 1) := by decide +kernel
theorem dX8_worthHere_0 : decode cX8_worthHere 0 = .ok (.aload_n 0, 1) := by decide +kernel
theorem dX8_worthHere_1 : decode cX8_worthHere 1 = .ok (.getfield 147, 3) := by decide +kernel
theorem dX8_worthHere_4 : decode cX8_worthHere 4 = .ok (.ifCond .ne 13, 3) := by decide +kernel
theorem dX8_worthHere_7 : decode cX8_worthHere 7 = .ok (.aload_n 0, 1) := by decide +kernel
theorem dX8_worthHere_8 : decode cX8_worthHere 8 = .ok (.getfield 51, 3) := by decide +kernel
theorem dX8_worthHere_11 : decode cX8_worthHere 11 = .ok (.aload_n 0, 1) := by decide +kernel
theorem dX8_worthHere_12 : decode cX8_worthHere 12 = .ok (.getfield 141, 3) := by decide +kernel
theorem dX8_worthHere_15 : decode cX8_worthHere 15 = .ok (.laload, 1) := by decide +kernel
theorem dX8_worthHere_16 : decode cX8_worthHere 16 = .ok (.lreturn, 1) := by decide +kernel
theorem dX8_worthHere_17 : decode cX8_worthHere 17 = .ok (.aload_n 0, 1) := by decide +kernel
theorem dX8_worthHere_18 : decode cX8_worthHere 18 = .ok (.getfield 150, 3) := by decide +kernel
theorem dX8_worthHere_21 : decode cX8_worthHere 21 = .ok (.ifCond .eq 12, 3) := by decide +kernel
theorem dX8_worthHere_24 : decode cX8_worthHere 24 = .ok (.aload_n 0, 1) := by decide +kernel
theorem dX8_worthHere_25 : decode cX8_worthHere 25 = .ok (.aload_n 0, 1) := by decide +kernel
theorem dX8_worthHere_26 : decode cX8_worthHere 26 = .ok (.getfield 153, 3) := by decide +kernel
theorem dX8_worthHere_29 : decode cX8_worthHere 29 = .ok (.invokevirtual 165, 3) := by decide +kernel
theorem dX8_worthHere_32 : decode cX8_worthHere 32 = .ok (.lreturn, 1) := by decide +kernel
theorem dX8_worthHere_33 : decode cX8_worthHere 33 = .ok (.aload_n 0, 1) := by decide +kernel
theorem dX8_worthHere_34 : decode cX8_worthHere 34 = .ok (.aload_n 0, 1) := by decide +kernel
theorem dX8_worthHere_35 : decode cX8_worthHere 35 = .ok (.getfield 141, 3) := by decide +kernel
theorem dX8_worthHere_38 : decode cX8_worthHere 38 = .ok (.invokevirtual 138, 3) := by decide +kernel
theorem dX8_worthHere_41 : decode cX8_worthHere 41 = .ok (.aload_n 0, 1) := by decide +kernel
theorem dX8_worthHere_42 : decode cX8_worthHere 42 = .ok (.getfield 54, 3) := by decide +kernel
theorem dX8_worthHere_45 : decode cX8_worthHere 45 = .ok (.sipush 462, 3) := by decide +kernel
theorem dX8_worthHere_48 : decode cX8_worthHere 48 = .ok (.aload_n 0, 1) := by decide +kernel
theorem dX8_worthHere_49 : decode cX8_worthHere 49 = .ok (.getfield 156, 3) := by decide +kernel
theorem dX8_worthHere_52 : decode cX8_worthHere 52 = .ok (.imul, 1) := by decide +kernel
theorem dX8_worthHere_53 : decode cX8_worthHere 53 = .ok (.aload_n 0, 1) := by decide +kernel
theorem dX8_worthHere_54 : decode cX8_worthHere 54 = .ok (.getfield 153, 3) := by decide +kernel
theorem dX8_worthHere_57 : decode cX8_worthHere 57 = .ok (.iadd, 1) := by decide +kernel
theorem dX8_worthHere_58 : decode cX8_worthHere 58 = .ok (.laload, 1) := by decide +kernel
theorem dX8_worthHere_59 : decode cX8_worthHere 59 = .ok (.lreturn, 1) := by decide +kernel
theorem dX8_stand_0 : decode cX8_stand 0 = .ok (.aload_n 0, 1) := by decide +kernel
theorem dX8_stand_1 : decode cX8_stand 1 = .ok (.aload_n 0, 1) := by decide +kernel
theorem dX8_stand_2 : decode cX8_stand 2 = .ok (.getfield 86, 3) := by decide +kernel
theorem dX8_stand_5 : decode cX8_stand 5 = .ok (.invokevirtual 111, 3) := by decide +kernel
theorem dX8_stand_8 : decode cX8_stand 8 = .ok (.lstore_n 1, 1) := by decide +kernel
theorem dX8_stand_9 : decode cX8_stand 9 = .ok (.aload_n 0, 1) := by decide +kernel
theorem dX8_stand_10 : decode cX8_stand 10 = .ok (.getfield 144, 3) := by decide +kernel
theorem dX8_stand_13 : decode cX8_stand 13 = .ok (.i2l, 1) := by decide +kernel
theorem dX8_stand_14 : decode cX8_stand 14 = .ok (.lload_n 1, 1) := by decide +kernel
theorem dX8_stand_15 : decode cX8_stand 15 = .ok (.lmul, 1) := by decide +kernel
theorem dX8_stand_16 : decode cX8_stand 16 = .ok (.aload_n 0, 1) := by decide +kernel
theorem dX8_stand_17 : decode cX8_stand 17 = .ok (.invokevirtual 168, 3) := by decide +kernel
theorem dX8_stand_20 : decode cX8_stand 20 = .ok (.lload_n 1, 1) := by decide +kernel
theorem dX8_stand_21 : decode cX8_stand 21 = .ok (.aload_n 0, 1) := by decide +kernel
theorem dX8_stand_22 : decode cX8_stand 22 = .ok (.invokevirtual 172, 3) := by decide +kernel
theorem dX8_stand_25 : decode cX8_stand 25 = .ok (.ldiv, 1) := by decide +kernel
theorem dX8_stand_26 : decode cX8_stand 26 = .ok (.lmul, 1) := by decide +kernel
theorem dX8_stand_27 : decode cX8_stand 27 = .ok (.ladd, 1) := by decide +kernel
theorem dX8_stand_28 : decode cX8_stand 28 = .ok (.lreturn, 1) := by decide +kernel
theorem dX8_mayFall_0 : decode cX8_mayFall 0 = .ok (.aload_n 0, 1) := by decide +kernel
theorem dX8_mayFall_1 : decode cX8_mayFall 1 = .ok (.getfield 82, 3) := by decide +kernel
theorem dX8_mayFall_4 : decode cX8_mayFall 4 = .ok (.ifCond .eq 28, 3) := by decide +kernel
theorem dX8_mayFall_7 : decode cX8_mayFall 7 = .ok (.aload_n 0, 1) := by decide +kernel
theorem dX8_mayFall_8 : decode cX8_mayFall 8 = .ok (.invokevirtual 175, 3) := by decide +kernel
theorem dX8_mayFall_11 : decode cX8_mayFall 11 = .ok (.ifCond .ne 21, 3) := by decide +kernel
theorem dX8_mayFall_14 : decode cX8_mayFall 14 = .ok (.aload_n 0, 1) := by decide +kernel
theorem dX8_mayFall_15 : decode cX8_mayFall 15 = .ok (.getfield 147, 3) := by decide +kernel
theorem dX8_mayFall_18 : decode cX8_mayFall 18 = .ok (.ifCond .eq 10, 3) := by decide +kernel
theorem dX8_mayFall_21 : decode cX8_mayFall 21 = .ok (.aload_n 0, 1) := by decide +kernel
theorem dX8_mayFall_22 : decode cX8_mayFall 22 = .ok (.getfield 150, 3) := by decide +kernel
theorem dX8_mayFall_25 : decode cX8_mayFall 25 = .ok (.ifCond .eq 7, 3) := by decide +kernel
theorem dX8_mayFall_28 : decode cX8_mayFall 28 = .ok (.iconst 1, 1) := by decide +kernel
theorem dX8_mayFall_29 : decode cX8_mayFall 29 = .ok (.goto 4, 3) := by decide +kernel
theorem dX8_mayFall_32 : decode cX8_mayFall 32 = .ok (.iconst 0, 1) := by decide +kernel
theorem dX8_mayFall_33 : decode cX8_mayFall 33 = .ok (.ireturn, 1) := by decide +kernel
theorem dX8_came_0 : decode cX8_came 0 = .ok (.aload_n 0, 1) := by decide +kernel
theorem dX8_came_1 : decode cX8_came 1 = .ok (.invokevirtual 178, 3) := by decide +kernel
theorem dX8_came_4 : decode cX8_came 4 = .ok (.lstore_n 2, 1) := by decide +kernel
theorem dX8_came_5 : decode cX8_came 5 = .ok (.aload_n 0, 1) := by decide +kernel
theorem dX8_came_6 : decode cX8_came 6 = .ok (.aload_n 0, 1) := by decide +kernel
theorem dX8_came_7 : decode cX8_came 7 = .ok (.getfield 147, 3) := by decide +kernel
theorem dX8_came_10 : decode cX8_came 10 = .ok (.ifCond .eq 12, 3) := by decide +kernel
theorem dX8_came_13 : decode cX8_came 13 = .ok (.aload_n 0, 1) := by decide +kernel
theorem dX8_came_14 : decode cX8_came 14 = .ok (.getfield 156, 3) := by decide +kernel
theorem dX8_came_17 : decode cX8_came 17 = .ok (.iconst 1, 1) := by decide +kernel
theorem dX8_came_18 : decode cX8_came 18 = .ok (.isub, 1) := by decide +kernel
theorem dX8_came_19 : decode cX8_came 19 = .ok (.goto 9, 3) := by decide +kernel
theorem dX8_came_22 : decode cX8_came 22 = .ok (.aload_n 0, 1) := by decide +kernel
theorem dX8_came_23 : decode cX8_came 23 = .ok (.getfield 16, 3) := by decide +kernel
theorem dX8_came_26 : decode cX8_came 26 = .ok (.iconst 1, 1) := by decide +kernel
theorem dX8_came_27 : decode cX8_came 27 = .ok (.isub, 1) := by decide +kernel
theorem dX8_came_28 : decode cX8_came 28 = .ok (.putfield 156, 3) := by decide +kernel
theorem dX8_came_31 : decode cX8_came 31 = .ok (.aload_n 0, 1) := by decide +kernel
theorem dX8_came_32 : decode cX8_came 32 = .ok (.iconst 1, 1) := by decide +kernel
theorem dX8_came_33 : decode cX8_came 33 = .ok (.putfield 147, 3) := by decide +kernel
theorem dX8_came_36 : decode cX8_came 36 = .ok (.aload_n 0, 1) := by decide +kernel
theorem dX8_came_37 : decode cX8_came 37 = .ok (.iconst 0, 1) := by decide +kernel
theorem dX8_came_38 : decode cX8_came 38 = .ok (.putfield 150, 3) := by decide +kernel
theorem dX8_came_41 : decode cX8_came 41 = .ok (.aload_n 0, 1) := by decide +kernel
theorem dX8_came_42 : decode cX8_came 42 = .ok (.iload_n 1, 1) := by decide +kernel
theorem dX8_came_43 : decode cX8_came 43 = .ok (.putfield 153, 3) := by decide +kernel
theorem dX8_came_46 : decode cX8_came 46 = .ok (.aload_n 0, 1) := by decide +kernel
theorem dX8_came_47 : decode cX8_came 47 = .ok (.dup, 1) := by decide +kernel
theorem dX8_came_48 : decode cX8_came 48 = .ok (.getfield 159, 3) := by decide +kernel
theorem dX8_came_51 : decode cX8_came 51 = .ok (.aload_n 0, 1) := by decide +kernel
theorem dX8_came_52 : decode cX8_came 52 = .ok (.invokevirtual 178, 3) := by decide +kernel
theorem dX8_came_55 : decode cX8_came 55 = .ok (.lload_n 2, 1) := by decide +kernel
theorem dX8_came_56 : decode cX8_came 56 = .ok (.lsub, 1) := by decide +kernel
theorem dX8_came_57 : decode cX8_came 57 = .ok (.ladd, 1) := by decide +kernel
theorem dX8_came_58 : decode cX8_came 58 = .ok (.putfield 159, 3) := by decide +kernel
theorem dX8_came_61 : decode cX8_came 61 = .ok (.aload_n 0, 1) := by decide +kernel
theorem dX8_came_62 : decode cX8_came 62 = .ok (.getfield 35, 3) := by decide +kernel
theorem dX8_came_65 : decode cX8_came 65 = .ok (.aload_n 0, 1) := by decide +kernel
theorem dX8_came_66 : decode cX8_came 66 = .ok (.getfield 153, 3) := by decide +kernel
theorem dX8_came_69 : decode cX8_came 69 = .ok (.iaload, 1) := by decide +kernel
theorem dX8_came_70 : decode cX8_came 70 = .ok (.ireturn, 1) := by decide +kernel
theorem dX8_fall_0 : decode cX8_fall 0 = .ok (.aload_n 0, 1) := by decide +kernel
theorem dX8_fall_1 : decode cX8_fall 1 = .ok (.invokevirtual 181, 3) := by decide +kernel
theorem dX8_fall_4 : decode cX8_fall 4 = .ok (.ifCond .ne 6, 3) := by decide +kernel
theorem dX8_fall_7 : decode cX8_fall 7 = .ok (.bipush (-4), 2) := by decide +kernel
theorem dX8_fall_9 : decode cX8_fall 9 = .ok (.ireturn, 1) := by decide +kernel
theorem dX8_fall_10 : decode cX8_fall 10 = .ok (.aload_n 0, 1) := by decide +kernel
theorem dX8_fall_11 : decode cX8_fall 11 = .ok (.getfield 147, 3) := by decide +kernel
theorem dX8_fall_14 : decode cX8_fall 14 = .ok (.ifCond .eq 10, 3) := by decide +kernel
theorem dX8_fall_17 : decode cX8_fall 17 = .ok (.aload_n 0, 1) := by decide +kernel
theorem dX8_fall_18 : decode cX8_fall 18 = .ok (.getfield 153, 3) := by decide +kernel
theorem dX8_fall_21 : decode cX8_fall 21 = .ok (.goto 4, 3) := by decide +kernel
theorem dX8_fall_24 : decode cX8_fall 24 = .ok (.iconst 0, 1) := by decide +kernel
theorem dX8_fall_25 : decode cX8_fall 25 = .ok (.istore_n 2, 1) := by decide +kernel
theorem dX8_fall_26 : decode cX8_fall 26 = .ok (.iload_n 2, 1) := by decide +kernel
theorem dX8_fall_27 : decode cX8_fall 27 = .ok (.istore_n 3, 1) := by decide +kernel
theorem dX8_fall_28 : decode cX8_fall 28 = .ok (.iload_n 1, 1) := by decide +kernel
theorem dX8_fall_29 : decode cX8_fall 29 = .ok (.istore 4, 2) := by decide +kernel
theorem dX8_fall_31 : decode cX8_fall 31 = .ok (.iload 4, 2) := by decide +kernel
theorem dX8_fall_33 : decode cX8_fall 33 = .ok (.ifCond .le 60, 3) := by decide +kernel
theorem dX8_fall_36 : decode cX8_fall 36 = .ok (.aload_n 0, 1) := by decide +kernel
theorem dX8_fall_37 : decode cX8_fall 37 = .ok (.getfield 32, 3) := by decide +kernel
theorem dX8_fall_40 : decode cX8_fall 40 = .ok (.iload_n 3, 1) := by decide +kernel
theorem dX8_fall_41 : decode cX8_fall 41 = .ok (.iaload, 1) := by decide +kernel
theorem dX8_fall_42 : decode cX8_fall 42 = .ok (.aload_n 0, 1) := by decide +kernel
theorem dX8_fall_43 : decode cX8_fall 43 = .ok (.getfield 7, 3) := by decide +kernel
theorem dX8_fall_46 : decode cX8_fall 46 = .ok (.if_icmp .ge 47, 3) := by decide +kernel
theorem dX8_fall_49 : decode cX8_fall 49 = .ok (.iload 4, 2) := by decide +kernel
theorem dX8_fall_51 : decode cX8_fall 51 = .ok (.bipush 10, 2) := by decide +kernel
theorem dX8_fall_53 : decode cX8_fall 53 = .ok (.irem, 1) := by decide +kernel
theorem dX8_fall_54 : decode cX8_fall 54 = .ok (.iconst 1, 1) := by decide +kernel
theorem dX8_fall_55 : decode cX8_fall 55 = .ok (.aload_n 0, 1) := by decide +kernel
theorem dX8_fall_56 : decode cX8_fall 56 = .ok (.getfield 13, 3) := by decide +kernel
theorem dX8_fall_59 : decode cX8_fall 59 = .ok (.invokestatic 78, 3) := by decide +kernel
theorem dX8_fall_62 : decode cX8_fall 62 = .ok (.ifCond .eq 31, 3) := by decide +kernel
theorem dX8_fall_65 : decode cX8_fall 65 = .ok (.aload_n 0, 1) := by decide +kernel
theorem dX8_fall_66 : decode cX8_fall 66 = .ok (.getfield 38, 3) := by decide +kernel
theorem dX8_fall_69 : decode cX8_fall 69 = .ok (.bipush 6, 2) := by decide +kernel
theorem dX8_fall_71 : decode cX8_fall 71 = .ok (.iload_n 3, 1) := by decide +kernel
theorem dX8_fall_72 : decode cX8_fall 72 = .ok (.imul, 1) := by decide +kernel
theorem dX8_fall_73 : decode cX8_fall 73 = .ok (.iload 4, 2) := by decide +kernel
theorem dX8_fall_75 : decode cX8_fall 75 = .ok (.bipush 10, 2) := by decide +kernel
theorem dX8_fall_77 : decode cX8_fall 77 = .ok (.irem, 1) := by decide +kernel
theorem dX8_fall_78 : decode cX8_fall 78 = .ok (.iadd, 1) := by decide +kernel
theorem dX8_fall_79 : decode cX8_fall 79 = .ok (.iconst 1, 1) := by decide +kernel
theorem dX8_fall_80 : decode cX8_fall 80 = .ok (.isub, 1) := by decide +kernel
theorem dX8_fall_81 : decode cX8_fall 81 = .ok (.iaload, 1) := by decide +kernel
theorem dX8_fall_82 : decode cX8_fall 82 = .ok (.istore_n 3, 1) := by decide +kernel
theorem dX8_fall_83 : decode cX8_fall 83 = .ok (.iload 4, 2) := by decide +kernel
theorem dX8_fall_85 : decode cX8_fall 85 = .ok (.bipush 10, 2) := by decide +kernel
theorem dX8_fall_87 : decode cX8_fall 87 = .ok (.idiv, 1) := by decide +kernel
theorem dX8_fall_88 : decode cX8_fall 88 = .ok (.istore 4, 2) := by decide +kernel
theorem dX8_fall_90 : decode cX8_fall 90 = .ok (.goto (-59), 3) := by decide +kernel
theorem dX8_fall_93 : decode cX8_fall 93 = .ok (.iload 4, 2) := by decide +kernel
theorem dX8_fall_95 : decode cX8_fall 95 = .ok (.ifCond .ne 16, 3) := by decide +kernel
theorem dX8_fall_98 : decode cX8_fall 98 = .ok (.aload_n 0, 1) := by decide +kernel
theorem dX8_fall_99 : decode cX8_fall 99 = .ok (.getfield 32, 3) := by decide +kernel
theorem dX8_fall_102 : decode cX8_fall 102 = .ok (.iload_n 3, 1) := by decide +kernel
theorem dX8_fall_103 : decode cX8_fall 103 = .ok (.iaload, 1) := by decide +kernel
theorem dX8_fall_104 : decode cX8_fall 104 = .ok (.aload_n 0, 1) := by decide +kernel
theorem dX8_fall_105 : decode cX8_fall 105 = .ok (.getfield 7, 3) := by decide +kernel
theorem dX8_fall_108 : decode cX8_fall 108 = .ok (.if_icmp .eq 8, 3) := by decide +kernel
theorem dX8_fall_111 : decode cX8_fall 111 = .ok (.bipush (-3), 2) := by decide +kernel
theorem dX8_fall_113 : decode cX8_fall 113 = .ok (.goto 8, 3) := by decide +kernel
theorem dX8_fall_116 : decode cX8_fall 116 = .ok (.aload_n 0, 1) := by decide +kernel
theorem dX8_fall_117 : decode cX8_fall 117 = .ok (.iload_n 3, 1) := by decide +kernel
theorem dX8_fall_118 : decode cX8_fall 118 = .ok (.invokevirtual 184, 3) := by decide +kernel
theorem dX8_fall_121 : decode cX8_fall 121 = .ok (.ireturn, 1) := by decide +kernel
theorem dX8_draw_0 : decode cX8_draw 0 = .ok (.aload_n 0, 1) := by decide +kernel
theorem dX8_draw_1 : decode cX8_draw 1 = .ok (.invokevirtual 181, 3) := by decide +kernel
theorem dX8_draw_4 : decode cX8_draw 4 = .ok (.ifCond .ne 6, 3) := by decide +kernel
theorem dX8_draw_7 : decode cX8_draw 7 = .ok (.bipush (-4), 2) := by decide +kernel
theorem dX8_draw_9 : decode cX8_draw 9 = .ok (.ireturn, 1) := by decide +kernel
theorem dX8_draw_10 : decode cX8_draw 10 = .ok (.aload_n 0, 1) := by decide +kernel
theorem dX8_draw_11 : decode cX8_draw 11 = .ok (.getfield 147, 3) := by decide +kernel
theorem dX8_draw_14 : decode cX8_draw 14 = .ok (.ifCond .eq 10, 3) := by decide +kernel
theorem dX8_draw_17 : decode cX8_draw 17 = .ok (.aload_n 0, 1) := by decide +kernel
theorem dX8_draw_18 : decode cX8_draw 18 = .ok (.getfield 153, 3) := by decide +kernel
theorem dX8_draw_21 : decode cX8_draw 21 = .ok (.goto 4, 3) := by decide +kernel
theorem dX8_draw_24 : decode cX8_draw 24 = .ok (.iconst 0, 1) := by decide +kernel
theorem dX8_draw_25 : decode cX8_draw 25 = .ok (.istore_n 2, 1) := by decide +kernel
theorem dX8_draw_26 : decode cX8_draw 26 = .ok (.iload_n 1, 1) := by decide +kernel
theorem dX8_draw_27 : decode cX8_draw 27 = .ok (.istore_n 3, 1) := by decide +kernel
theorem dX8_draw_28 : decode cX8_draw 28 = .ok (.aload_n 0, 1) := by decide +kernel
theorem dX8_draw_29 : decode cX8_draw 29 = .ok (.getfield 32, 3) := by decide +kernel
theorem dX8_draw_32 : decode cX8_draw 32 = .ok (.iload_n 2, 1) := by decide +kernel
theorem dX8_draw_33 : decode cX8_draw 33 = .ok (.iaload, 1) := by decide +kernel
theorem dX8_draw_34 : decode cX8_draw 34 = .ok (.aload_n 0, 1) := by decide +kernel
theorem dX8_draw_35 : decode cX8_draw 35 = .ok (.getfield 7, 3) := by decide +kernel
theorem dX8_draw_38 : decode cX8_draw 38 = .ok (.if_icmp .ge 38, 3) := by decide +kernel
theorem dX8_draw_41 : decode cX8_draw 41 = .ok (.iload_n 3, 1) := by decide +kernel
theorem dX8_draw_42 : decode cX8_draw 42 = .ok (.ldc 187, 2) := by decide +kernel
theorem dX8_draw_44 : decode cX8_draw 44 = .ok (.imul, 1) := by decide +kernel
theorem dX8_draw_45 : decode cX8_draw 45 = .ok (.sipush 12345, 3) := by decide +kernel
theorem dX8_draw_48 : decode cX8_draw 48 = .ok (.iadd, 1) := by decide +kernel
theorem dX8_draw_49 : decode cX8_draw 49 = .ok (.ldc 188, 2) := by decide +kernel
theorem dX8_draw_51 : decode cX8_draw 51 = .ok (.iand, 1) := by decide +kernel
theorem dX8_draw_52 : decode cX8_draw 52 = .ok (.istore_n 3, 1) := by decide +kernel
theorem dX8_draw_53 : decode cX8_draw 53 = .ok (.aload_n 0, 1) := by decide +kernel
theorem dX8_draw_54 : decode cX8_draw 54 = .ok (.getfield 38, 3) := by decide +kernel
theorem dX8_draw_57 : decode cX8_draw 57 = .ok (.bipush 6, 2) := by decide +kernel
theorem dX8_draw_59 : decode cX8_draw 59 = .ok (.iload_n 2, 1) := by decide +kernel
theorem dX8_draw_60 : decode cX8_draw 60 = .ok (.imul, 1) := by decide +kernel
theorem dX8_draw_61 : decode cX8_draw 61 = .ok (.iload_n 3, 1) := by decide +kernel
theorem dX8_draw_62 : decode cX8_draw 62 = .ok (.bipush 12, 2) := by decide +kernel
theorem dX8_draw_64 : decode cX8_draw 64 = .ok (.ishr, 1) := by decide +kernel
theorem dX8_draw_65 : decode cX8_draw 65 = .ok (.aload_n 0, 1) := by decide +kernel
theorem dX8_draw_66 : decode cX8_draw 66 = .ok (.getfield 13, 3) := by decide +kernel
theorem dX8_draw_69 : decode cX8_draw 69 = .ok (.irem, 1) := by decide +kernel
theorem dX8_draw_70 : decode cX8_draw 70 = .ok (.iadd, 1) := by decide +kernel
theorem dX8_draw_71 : decode cX8_draw 71 = .ok (.iaload, 1) := by decide +kernel
theorem dX8_draw_72 : decode cX8_draw 72 = .ok (.istore_n 2, 1) := by decide +kernel
theorem dX8_draw_73 : decode cX8_draw 73 = .ok (.goto (-45), 3) := by decide +kernel
theorem dX8_draw_76 : decode cX8_draw 76 = .ok (.aload_n 0, 1) := by decide +kernel
theorem dX8_draw_77 : decode cX8_draw 77 = .ok (.iload_n 2, 1) := by decide +kernel
theorem dX8_draw_78 : decode cX8_draw 78 = .ok (.invokevirtual 184, 3) := by decide +kernel
theorem dX8_draw_81 : decode cX8_draw 81 = .ok (.ireturn, 1) := by decide +kernel
theorem dX8_mayHold_0 : decode cX8_mayHold 0 = .ok (.aload_n 0, 1) := by decide +kernel
theorem dX8_mayHold_1 : decode cX8_mayHold 1 = .ok (.getfield 82, 3) := by decide +kernel
theorem dX8_mayHold_4 : decode cX8_mayHold 4 = .ok (.ifCond .eq 28, 3) := by decide +kernel
theorem dX8_mayHold_7 : decode cX8_mayHold 7 = .ok (.aload_n 0, 1) := by decide +kernel
theorem dX8_mayHold_8 : decode cX8_mayHold 8 = .ok (.getfield 147, 3) := by decide +kernel
theorem dX8_mayHold_11 : decode cX8_mayHold 11 = .ok (.ifCond .eq 21, 3) := by decide +kernel
theorem dX8_mayHold_14 : decode cX8_mayHold 14 = .ok (.aload_n 0, 1) := by decide +kernel
theorem dX8_mayHold_15 : decode cX8_mayHold 15 = .ok (.getfield 150, 3) := by decide +kernel
theorem dX8_mayHold_18 : decode cX8_mayHold 18 = .ok (.ifCond .ne 14, 3) := by decide +kernel
theorem dX8_mayHold_21 : decode cX8_mayHold 21 = .ok (.aload_n 0, 1) := by decide +kernel
theorem dX8_mayHold_22 : decode cX8_mayHold 22 = .ok (.getfield 156, 3) := by decide +kernel
theorem dX8_mayHold_25 : decode cX8_mayHold 25 = .ok (.ifCond .le 7, 3) := by decide +kernel
theorem dX8_mayHold_28 : decode cX8_mayHold 28 = .ok (.iconst 1, 1) := by decide +kernel
theorem dX8_mayHold_29 : decode cX8_mayHold 29 = .ok (.goto 4, 3) := by decide +kernel
theorem dX8_mayHold_32 : decode cX8_mayHold 32 = .ok (.iconst 0, 1) := by decide +kernel
theorem dX8_mayHold_33 : decode cX8_mayHold 33 = .ok (.ireturn, 1) := by decide +kernel
theorem dX8_heldOf_0 : decode cX8_heldOf 0 = .ok (.aload_n 0, 1) := by decide +kernel
theorem dX8_heldOf_1 : decode cX8_heldOf 1 = .ok (.iload_n 1, 1) := by decide +kernel
theorem dX8_heldOf_2 : decode cX8_heldOf 2 = .ok (.invokevirtual 189, 3) := by decide +kernel
theorem dX8_heldOf_5 : decode cX8_heldOf 5 = .ok (.istore_n 2, 1) := by decide +kernel
theorem dX8_heldOf_6 : decode cX8_heldOf 6 = .ok (.iload_n 2, 1) := by decide +kernel
theorem dX8_heldOf_7 : decode cX8_heldOf 7 = .ok (.iconst (-1), 1) := by decide +kernel
theorem dX8_heldOf_8 : decode cX8_heldOf 8 = .ok (.if_icmp .eq 19, 3) := by decide +kernel
theorem dX8_heldOf_11 : decode cX8_heldOf 11 = .ok (.aload_n 0, 1) := by decide +kernel
theorem dX8_heldOf_12 : decode cX8_heldOf 12 = .ok (.iload_n 2, 1) := by decide +kernel
theorem dX8_heldOf_13 : decode cX8_heldOf 13 = .ok (.aload_n 0, 1) := by decide +kernel
theorem dX8_heldOf_14 : decode cX8_heldOf 14 = .ok (.getfield 153, 3) := by decide +kernel
theorem dX8_heldOf_17 : decode cX8_heldOf 17 = .ok (.invokevirtual 103, 3) := by decide +kernel
theorem dX8_heldOf_20 : decode cX8_heldOf 20 = .ok (.ifCond .eq 7, 3) := by decide +kernel
theorem dX8_heldOf_23 : decode cX8_heldOf 23 = .ok (.iload_n 2, 1) := by decide +kernel
theorem dX8_heldOf_24 : decode cX8_heldOf 24 = .ok (.goto 4, 3) := by decide +kernel
theorem dX8_heldOf_27 : decode cX8_heldOf 27 = .ok (.iconst (-1), 1) := by decide +kernel
theorem dX8_heldOf_28 : decode cX8_heldOf 28 = .ok (.ireturn, 1) := by decide +kernel
theorem dX8_hold_0 : decode cX8_hold 0 = .ok (.aload_n 0, 1) := by decide +kernel
theorem dX8_hold_1 : decode cX8_hold 1 = .ok (.invokevirtual 192, 3) := by decide +kernel
theorem dX8_hold_4 : decode cX8_hold 4 = .ok (.ifCond .ne 6, 3) := by decide +kernel
theorem dX8_hold_7 : decode cX8_hold 7 = .ok (.bipush (-4), 2) := by decide +kernel
theorem dX8_hold_9 : decode cX8_hold 9 = .ok (.ireturn, 1) := by decide +kernel
theorem dX8_hold_10 : decode cX8_hold 10 = .ok (.aload_n 0, 1) := by decide +kernel
theorem dX8_hold_11 : decode cX8_hold 11 = .ok (.iload_n 1, 1) := by decide +kernel
theorem dX8_hold_12 : decode cX8_hold 12 = .ok (.invokevirtual 195, 3) := by decide +kernel
theorem dX8_hold_15 : decode cX8_hold 15 = .ok (.istore_n 2, 1) := by decide +kernel
theorem dX8_hold_16 : decode cX8_hold 16 = .ok (.iload_n 2, 1) := by decide +kernel
theorem dX8_hold_17 : decode cX8_hold 17 = .ok (.iconst (-1), 1) := by decide +kernel
theorem dX8_hold_18 : decode cX8_hold 18 = .ok (.if_icmp .ne 6, 3) := by decide +kernel
theorem dX8_hold_21 : decode cX8_hold 21 = .ok (.bipush (-3), 2) := by decide +kernel
theorem dX8_hold_23 : decode cX8_hold 23 = .ok (.ireturn, 1) := by decide +kernel
theorem dX8_hold_24 : decode cX8_hold 24 = .ok (.aload_n 0, 1) := by decide +kernel
theorem dX8_hold_25 : decode cX8_hold 25 = .ok (.invokevirtual 178, 3) := by decide +kernel
theorem dX8_hold_28 : decode cX8_hold 28 = .ok (.lstore_n 3, 1) := by decide +kernel
theorem dX8_hold_29 : decode cX8_hold 29 = .ok (.aload_n 0, 1) := by decide +kernel
theorem dX8_hold_30 : decode cX8_hold 30 = .ok (.getfield 32, 3) := by decide +kernel
theorem dX8_hold_33 : decode cX8_hold 33 = .ok (.iload_n 2, 1) := by decide +kernel
theorem dX8_hold_34 : decode cX8_hold 34 = .ok (.iaload, 1) := by decide +kernel
theorem dX8_hold_35 : decode cX8_hold 35 = .ok (.aload_n 0, 1) := by decide +kernel
theorem dX8_hold_36 : decode cX8_hold 36 = .ok (.getfield 7, 3) := by decide +kernel
theorem dX8_hold_39 : decode cX8_hold 39 = .ok (.if_icmp .ne 16, 3) := by decide +kernel
theorem dX8_hold_42 : decode cX8_hold 42 = .ok (.aload_n 0, 1) := by decide +kernel
theorem dX8_hold_43 : decode cX8_hold 43 = .ok (.dup, 1) := by decide +kernel
theorem dX8_hold_44 : decode cX8_hold 44 = .ok (.getfield 156, 3) := by decide +kernel
theorem dX8_hold_47 : decode cX8_hold 47 = .ok (.iconst 1, 1) := by decide +kernel
theorem dX8_hold_48 : decode cX8_hold 48 = .ok (.isub, 1) := by decide +kernel
theorem dX8_hold_49 : decode cX8_hold 49 = .ok (.putfield 156, 3) := by decide +kernel
theorem dX8_hold_52 : decode cX8_hold 52 = .ok (.goto 13, 3) := by decide +kernel
theorem dX8_hold_55 : decode cX8_hold 55 = .ok (.aload_n 0, 1) := by decide +kernel
theorem dX8_hold_56 : decode cX8_hold 56 = .ok (.iconst 1, 1) := by decide +kernel
theorem dX8_hold_57 : decode cX8_hold 57 = .ok (.putfield 150, 3) := by decide +kernel
theorem dX8_hold_60 : decode cX8_hold 60 = .ok (.aload_n 0, 1) := by decide +kernel
theorem dX8_hold_61 : decode cX8_hold 61 = .ok (.iload_n 2, 1) := by decide +kernel
theorem dX8_hold_62 : decode cX8_hold 62 = .ok (.putfield 153, 3) := by decide +kernel
theorem dX8_hold_65 : decode cX8_hold 65 = .ok (.aload_n 0, 1) := by decide +kernel
theorem dX8_hold_66 : decode cX8_hold 66 = .ok (.dup, 1) := by decide +kernel
theorem dX8_hold_67 : decode cX8_hold 67 = .ok (.getfield 162, 3) := by decide +kernel
theorem dX8_hold_70 : decode cX8_hold 70 = .ok (.lload_n 3, 1) := by decide +kernel
theorem dX8_hold_71 : decode cX8_hold 71 = .ok (.aload_n 0, 1) := by decide +kernel
theorem dX8_hold_72 : decode cX8_hold 72 = .ok (.invokevirtual 178, 3) := by decide +kernel
theorem dX8_hold_75 : decode cX8_hold 75 = .ok (.lsub, 1) := by decide +kernel
theorem dX8_hold_76 : decode cX8_hold 76 = .ok (.ladd, 1) := by decide +kernel
theorem dX8_hold_77 : decode cX8_hold 77 = .ok (.putfield 162, 3) := by decide +kernel
theorem dX8_hold_80 : decode cX8_hold 80 = .ok (.aload_n 0, 1) := by decide +kernel
theorem dX8_hold_81 : decode cX8_hold 81 = .ok (.getfield 7, 3) := by decide +kernel
theorem dX8_hold_84 : decode cX8_hold 84 = .ok (.aload_n 0, 1) := by decide +kernel
theorem dX8_hold_85 : decode cX8_hold 85 = .ok (.getfield 32, 3) := by decide +kernel
theorem dX8_hold_88 : decode cX8_hold 88 = .ok (.iload_n 2, 1) := by decide +kernel
theorem dX8_hold_89 : decode cX8_hold 89 = .ok (.iaload, 1) := by decide +kernel
theorem dX8_hold_90 : decode cX8_hold 90 = .ok (.isub, 1) := by decide +kernel
theorem dX8_hold_91 : decode cX8_hold 91 = .ok (.ireturn, 1) := by decide +kernel
theorem dX8_fill_0 : decode cX8_fill 0 = .ok (.iload_n 1, 1) := by decide +kernel
theorem dX8_fill_1 : decode cX8_fill 1 = .ok (.iconst 0, 1) := by decide +kernel
theorem dX8_fill_2 : decode cX8_fill 2 = .ok (.aload_n 0, 1) := by decide +kernel
theorem dX8_fill_3 : decode cX8_fill 3 = .ok (.getfield 86, 3) := by decide +kernel
theorem dX8_fill_6 : decode cX8_fill 6 = .ok (.iconst 1, 1) := by decide +kernel
theorem dX8_fill_7 : decode cX8_fill 7 = .ok (.isub, 1) := by decide +kernel
theorem dX8_fill_8 : decode cX8_fill 8 = .ok (.invokestatic 78, 3) := by decide +kernel
theorem dX8_fill_11 : decode cX8_fill 11 = .ok (.ifCond .ne 6, 3) := by decide +kernel
theorem dX8_fill_14 : decode cX8_fill 14 = .ok (.bipush (-2), 2) := by decide +kernel
theorem dX8_fill_16 : decode cX8_fill 16 = .ok (.ireturn, 1) := by decide +kernel
theorem dX8_fill_17 : decode cX8_fill 17 = .ok (.aload_n 0, 1) := by decide +kernel
theorem dX8_fill_18 : decode cX8_fill 18 = .ok (.getfield 82, 3) := by decide +kernel
theorem dX8_fill_21 : decode cX8_fill 21 = .ok (.ifCond .eq 29, 3) := by decide +kernel
theorem dX8_fill_24 : decode cX8_fill 24 = .ok (.aload_n 0, 1) := by decide +kernel
theorem dX8_fill_25 : decode cX8_fill 25 = .ok (.getfield 147, 3) := by decide +kernel
theorem dX8_fill_28 : decode cX8_fill 28 = .ok (.ifCond .eq 22, 3) := by decide +kernel
theorem dX8_fill_31 : decode cX8_fill 31 = .ok (.aload_n 0, 1) := by decide +kernel
theorem dX8_fill_32 : decode cX8_fill 32 = .ok (.getfield 150, 3) := by decide +kernel
theorem dX8_fill_35 : decode cX8_fill 35 = .ok (.ifCond .ne 15, 3) := by decide +kernel
theorem dX8_fill_38 : decode cX8_fill 38 = .ok (.aload_n 0, 1) := by decide +kernel
theorem dX8_fill_39 : decode cX8_fill 39 = .ok (.getfield 141, 3) := by decide +kernel
theorem dX8_fill_42 : decode cX8_fill 42 = .ok (.iload_n 1, 1) := by decide +kernel
theorem dX8_fill_43 : decode cX8_fill 43 = .ok (.ishr, 1) := by decide +kernel
theorem dX8_fill_44 : decode cX8_fill 44 = .ok (.iconst 1, 1) := by decide +kernel
theorem dX8_fill_45 : decode cX8_fill 45 = .ok (.iand, 1) := by decide +kernel
theorem dX8_fill_46 : decode cX8_fill 46 = .ok (.iconst 1, 1) := by decide +kernel
theorem dX8_fill_47 : decode cX8_fill 47 = .ok (.if_icmp .ne 6, 3) := by decide +kernel
theorem dX8_fill_50 : decode cX8_fill 50 = .ok (.bipush (-4), 2) := by decide +kernel
theorem dX8_fill_52 : decode cX8_fill 52 = .ok (.ireturn, 1) := by decide +kernel
theorem dX8_fill_53 : decode cX8_fill 53 = .ok (.aload_n 0, 1) := by decide +kernel
theorem dX8_fill_54 : decode cX8_fill 54 = .ok (.invokevirtual 178, 3) := by decide +kernel
theorem dX8_fill_57 : decode cX8_fill 57 = .ok (.lstore_n 2, 1) := by decide +kernel
theorem dX8_fill_58 : decode cX8_fill 58 = .ok (.aload_n 0, 1) := by decide +kernel
theorem dX8_fill_59 : decode cX8_fill 59 = .ok (.getfield 41, 3) := by decide +kernel
theorem dX8_fill_62 : decode cX8_fill 62 = .ok (.bipush 8, 2) := by decide +kernel
theorem dX8_fill_64 : decode cX8_fill 64 = .ok (.aload_n 0, 1) := by decide +kernel
theorem dX8_fill_65 : decode cX8_fill 65 = .ok (.getfield 153, 3) := by decide +kernel
theorem dX8_fill_68 : decode cX8_fill 68 = .ok (.imul, 1) := by decide +kernel
theorem dX8_fill_69 : decode cX8_fill 69 = .ok (.iload_n 1, 1) := by decide +kernel
theorem dX8_fill_70 : decode cX8_fill 70 = .ok (.iadd, 1) := by decide +kernel
theorem dX8_fill_71 : decode cX8_fill 71 = .ok (.iaload, 1) := by decide +kernel
theorem dX8_fill_72 : decode cX8_fill 72 = .ok (.istore 4, 2) := by decide +kernel
theorem dX8_fill_74 : decode cX8_fill 74 = .ok (.aload_n 0, 1) := by decide +kernel
theorem dX8_fill_75 : decode cX8_fill 75 = .ok (.getfield 44, 3) := by decide +kernel
theorem dX8_fill_78 : decode cX8_fill 78 = .ok (.iload_n 1, 1) := by decide +kernel
theorem dX8_fill_79 : decode cX8_fill 79 = .ok (.iload 4, 2) := by decide +kernel
theorem dX8_fill_81 : decode cX8_fill 81 = .ok (.iastore, 1) := by decide +kernel
theorem dX8_fill_82 : decode cX8_fill 82 = .ok (.aload_n 0, 1) := by decide +kernel
theorem dX8_fill_83 : decode cX8_fill 83 = .ok (.dup, 1) := by decide +kernel
theorem dX8_fill_84 : decode cX8_fill 84 = .ok (.getfield 144, 3) := by decide +kernel
theorem dX8_fill_87 : decode cX8_fill 87 = .ok (.iload 4, 2) := by decide +kernel

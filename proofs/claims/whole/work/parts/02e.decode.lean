theorem dX8_placeOf_48 : decode cX8_placeOf 48 = .ok (.iload_n 3, 1) := by decide +kernel
theorem dX8_placeOf_49 : decode cX8_placeOf 49 = .ok (.imul, 1) := by decide +kernel
theorem dX8_placeOf_50 : decode cX8_placeOf 50 = .ok (.iload 5, 2) := by decide +kernel
theorem dX8_placeOf_52 : decode cX8_placeOf 52 = .ok (.iadd, 1) := by decide +kernel
theorem dX8_placeOf_53 : decode cX8_placeOf 53 = .ok (.iaload, 1) := by decide +kernel
theorem dX8_placeOf_54 : decode cX8_placeOf 54 = .ok (.aload_n 1, 1) := by decide +kernel
theorem dX8_placeOf_55 : decode cX8_placeOf 55 = .ok (.iload 5, 2) := by decide +kernel
theorem dX8_placeOf_57 : decode cX8_placeOf 57 = .ok (.iaload, 1) := by decide +kernel
theorem dX8_placeOf_58 : decode cX8_placeOf 58 = .ok (.if_icmp .ne 7, 3) := by decide +kernel
theorem dX8_placeOf_61 : decode cX8_placeOf 61 = .ok (.iconst 1, 1) := by decide +kernel
theorem dX8_placeOf_62 : decode cX8_placeOf 62 = .ok (.goto 4, 3) := by decide +kernel
theorem dX8_placeOf_65 : decode cX8_placeOf 65 = .ok (.iconst 0, 1) := by decide +kernel
theorem dX8_placeOf_66 : decode cX8_placeOf 66 = .ok (.istore 4, 2) := by decide +kernel
theorem dX8_placeOf_68 : decode cX8_placeOf 68 = .ok (.iinc 5 1, 3) := by decide +kernel
theorem dX8_placeOf_71 : decode cX8_placeOf 71 = .ok (.goto (-41), 3) := by decide +kernel
theorem dX8_placeOf_74 : decode cX8_placeOf 74 = .ok (.iload 4, 2) := by decide +kernel
theorem dX8_placeOf_76 : decode cX8_placeOf 76 = .ok (.ifCond .eq 5, 3) := by decide +kernel
theorem dX8_placeOf_79 : decode cX8_placeOf 79 = .ok (.iload_n 3, 1) := by decide +kernel
theorem dX8_placeOf_80 : decode cX8_placeOf 80 = .ok (.ireturn, 1) := by decide +kernel
theorem dX8_placeOf_81 : decode cX8_placeOf 81 = .ok (.iinc 3 1, 3) := by decide +kernel
theorem dX8_placeOf_84 : decode cX8_placeOf 84 = .ok (.goto (-82), 3) := by decide +kernel
theorem dX8_placeOf_87 : decode cX8_placeOf 87 = .ok (.iconst (-1), 1) := by decide +kernel
theorem dX8_placeOf_88 : decode cX8_placeOf 88 = .ok (.ireturn, 1) := by decide +kernel
theorem dX8_findHeaps_0 : decode cX8_findHeaps 0 = .ok (.aload_n 0, 1) := by decide +kernel
theorem dX8_findHeaps_1 : decode cX8_findHeaps 1 = .ok (.iconst 1, 1) := by decide +kernel
theorem dX8_findHeaps_2 : decode cX8_findHeaps 2 = .ok (.putfield 71, 3) := by decide +kernel
theorem dX8_findHeaps_5 : decode cX8_findHeaps 5 = .ok (.aload_n 0, 1) := by decide +kernel
theorem dX8_findHeaps_6 : decode cX8_findHeaps 6 = .ok (.getfield 32, 3) := by decide +kernel
theorem dX8_findHeaps_9 : decode cX8_findHeaps 9 = .ok (.iconst 0, 1) := by decide +kernel
theorem dX8_findHeaps_10 : decode cX8_findHeaps 10 = .ok (.iconst 0, 1) := by decide +kernel
theorem dX8_findHeaps_11 : decode cX8_findHeaps 11 = .ok (.iastore, 1) := by decide +kernel
theorem dX8_findHeaps_12 : decode cX8_findHeaps 12 = .ok (.aload_n 0, 1) := by decide +kernel
theorem dX8_findHeaps_13 : decode cX8_findHeaps 13 = .ok (.getfield 35, 3) := by decide +kernel
theorem dX8_findHeaps_16 : decode cX8_findHeaps 16 = .ok (.iconst 0, 1) := by decide +kernel
theorem dX8_findHeaps_17 : decode cX8_findHeaps 17 = .ok (.iconst 0, 1) := by decide +kernel
theorem dX8_findHeaps_18 : decode cX8_findHeaps 18 = .ok (.iastore, 1) := by decide +kernel
theorem dX8_findHeaps_19 : decode cX8_findHeaps 19 = .ok (.iconst 0, 1) := by decide +kernel
theorem dX8_findHeaps_20 : decode cX8_findHeaps 20 = .ok (.istore_n 1, 1) := by decide +kernel
theorem dX8_findHeaps_21 : decode cX8_findHeaps 21 = .ok (.iload_n 1, 1) := by decide +kernel
theorem dX8_findHeaps_22 : decode cX8_findHeaps 22 = .ok (.bipush 6, 2) := by decide +kernel
theorem dX8_findHeaps_24 : decode cX8_findHeaps 24 = .ok (.if_icmp .ge 16, 3) := by decide +kernel
theorem dX8_findHeaps_27 : decode cX8_findHeaps 27 = .ok (.aload_n 0, 1) := by decide +kernel
theorem dX8_findHeaps_28 : decode cX8_findHeaps 28 = .ok (.getfield 29, 3) := by decide +kernel
theorem dX8_findHeaps_31 : decode cX8_findHeaps 31 = .ok (.iload_n 1, 1) := by decide +kernel
theorem dX8_findHeaps_32 : decode cX8_findHeaps 32 = .ok (.iconst 0, 1) := by decide +kernel
theorem dX8_findHeaps_33 : decode cX8_findHeaps 33 = .ok (.iastore, 1) := by decide +kernel
theorem dX8_findHeaps_34 : decode cX8_findHeaps 34 = .ok (.iinc 1 1, 3) := by decide +kernel
theorem dX8_findHeaps_37 : decode cX8_findHeaps 37 = .ok (.goto (-16), 3) := by decide +kernel
theorem dX8_findHeaps_40 : decode cX8_findHeaps 40 = .ok (.iconst 0, 1) := by decide +kernel
theorem dX8_findHeaps_41 : decode cX8_findHeaps 41 = .ok (.istore_n 1, 1) := by decide +kernel
theorem dX8_findHeaps_42 : decode cX8_findHeaps 42 = .ok (.iload_n 1, 1) := by decide +kernel
theorem dX8_findHeaps_43 : decode cX8_findHeaps 43 = .ok (.aload_n 0, 1) := by decide +kernel
theorem dX8_findHeaps_44 : decode cX8_findHeaps 44 = .ok (.getfield 71, 3) := by decide +kernel
theorem dX8_findHeaps_47 : decode cX8_findHeaps 47 = .ok (.if_icmp .ge 222, 3) := by decide +kernel
theorem dX8_findHeaps_50 : decode cX8_findHeaps 50 = .ok (.iconst 0, 1) := by decide +kernel
theorem dX8_findHeaps_51 : decode cX8_findHeaps 51 = .ok (.istore_n 2, 1) := by decide +kernel
theorem dX8_findHeaps_52 : decode cX8_findHeaps 52 = .ok (.iload_n 2, 1) := by decide +kernel
theorem dX8_findHeaps_53 : decode cX8_findHeaps 53 = .ok (.aload_n 0, 1) := by decide +kernel
theorem dX8_findHeaps_54 : decode cX8_findHeaps 54 = .ok (.getfield 13, 3) := by decide +kernel
theorem dX8_findHeaps_57 : decode cX8_findHeaps 57 = .ok (.if_icmp .ge 206, 3) := by decide +kernel
theorem dX8_findHeaps_60 : decode cX8_findHeaps 60 = .ok (.aload_n 0, 1) := by decide +kernel
theorem dX8_findHeaps_61 : decode cX8_findHeaps 61 = .ok (.getfield 32, 3) := by decide +kernel
theorem dX8_findHeaps_64 : decode cX8_findHeaps 64 = .ok (.iload_n 1, 1) := by decide +kernel
theorem dX8_findHeaps_65 : decode cX8_findHeaps 65 = .ok (.iaload, 1) := by decide +kernel
theorem dX8_findHeaps_66 : decode cX8_findHeaps 66 = .ok (.aload_n 0, 1) := by decide +kernel
theorem dX8_findHeaps_67 : decode cX8_findHeaps 67 = .ok (.getfield 7, 3) := by decide +kernel
theorem dX8_findHeaps_70 : decode cX8_findHeaps 70 = .ok (.if_icmp .ge 193, 3) := by decide +kernel
theorem dX8_findHeaps_73 : decode cX8_findHeaps 73 = .ok (.iconst 0, 1) := by decide +kernel
theorem dX8_findHeaps_74 : decode cX8_findHeaps 74 = .ok (.istore_n 3, 1) := by decide +kernel
theorem dX8_findHeaps_75 : decode cX8_findHeaps 75 = .ok (.iload_n 3, 1) := by decide +kernel
theorem dX8_findHeaps_76 : decode cX8_findHeaps 76 = .ok (.bipush 6, 2) := by decide +kernel
theorem dX8_findHeaps_78 : decode cX8_findHeaps 78 = .ok (.if_icmp .ge 37, 3) := by decide +kernel
theorem dX8_findHeaps_81 : decode cX8_findHeaps 81 = .ok (.aload_n 0, 1) := by decide +kernel
theorem dX8_findHeaps_82 : decode cX8_findHeaps 82 = .ok (.getfield 68, 3) := by decide +kernel
theorem dX8_findHeaps_85 : decode cX8_findHeaps 85 = .ok (.iload_n 3, 1) := by decide +kernel
theorem dX8_findHeaps_86 : decode cX8_findHeaps 86 = .ok (.aload_n 0, 1) := by decide +kernel
theorem dX8_findHeaps_87 : decode cX8_findHeaps 87 = .ok (.getfield 29, 3) := by decide +kernel
theorem dX8_findHeaps_90 : decode cX8_findHeaps 90 = .ok (.bipush 6, 2) := by decide +kernel
theorem dX8_findHeaps_92 : decode cX8_findHeaps 92 = .ok (.iload_n 1, 1) := by decide +kernel
theorem dX8_findHeaps_93 : decode cX8_findHeaps 93 = .ok (.imul, 1) := by decide +kernel
theorem dX8_findHeaps_94 : decode cX8_findHeaps 94 = .ok (.iload_n 3, 1) := by decide +kernel
theorem dX8_findHeaps_95 : decode cX8_findHeaps 95 = .ok (.iadd, 1) := by decide +kernel
theorem dX8_findHeaps_96 : decode cX8_findHeaps 96 = .ok (.iaload, 1) := by decide +kernel
theorem dX8_findHeaps_97 : decode cX8_findHeaps 97 = .ok (.iload_n 3, 1) := by decide +kernel
theorem dX8_findHeaps_98 : decode cX8_findHeaps 98 = .ok (.iload_n 2, 1) := by decide +kernel
theorem dX8_findHeaps_99 : decode cX8_findHeaps 99 = .ok (.if_icmp .ne 7, 3) := by decide +kernel
theorem dX8_findHeaps_102 : decode cX8_findHeaps 102 = .ok (.iconst 1, 1) := by decide +kernel
theorem dX8_findHeaps_103 : decode cX8_findHeaps 103 = .ok (.goto 4, 3) := by decide +kernel
theorem dX8_findHeaps_106 : decode cX8_findHeaps 106 = .ok (.iconst 0, 1) := by decide +kernel
theorem dX8_findHeaps_107 : decode cX8_findHeaps 107 = .ok (.iadd, 1) := by decide +kernel
theorem dX8_findHeaps_108 : decode cX8_findHeaps 108 = .ok (.iastore, 1) := by decide +kernel
theorem dX8_findHeaps_109 : decode cX8_findHeaps 109 = .ok (.iinc 3 1, 3) := by decide +kernel
theorem dX8_findHeaps_112 : decode cX8_findHeaps 112 = .ok (.goto (-37), 3) := by decide +kernel
theorem dX8_findHeaps_115 : decode cX8_findHeaps 115 = .ok (.aload_n 0, 1) := by decide +kernel
theorem dX8_findHeaps_116 : decode cX8_findHeaps 116 = .ok (.aload_n 0, 1) := by decide +kernel
theorem dX8_findHeaps_117 : decode cX8_findHeaps 117 = .ok (.getfield 68, 3) := by decide +kernel
theorem dX8_findHeaps_120 : decode cX8_findHeaps 120 = .ok (.aload_n 0, 1) := by decide +kernel
theorem dX8_findHeaps_121 : decode cX8_findHeaps 121 = .ok (.getfield 32, 3) := by decide +kernel
theorem dX8_findHeaps_124 : decode cX8_findHeaps 124 = .ok (.iload_n 1, 1) := by decide +kernel
theorem dX8_findHeaps_125 : decode cX8_findHeaps 125 = .ok (.iaload, 1) := by decide +kernel
theorem dX8_findHeaps_126 : decode cX8_findHeaps 126 = .ok (.iconst 1, 1) := by decide +kernel
theorem dX8_findHeaps_127 : decode cX8_findHeaps 127 = .ok (.iadd, 1) := by decide +kernel
theorem dX8_findHeaps_128 : decode cX8_findHeaps 128 = .ok (.invokevirtual 74, 3) := by decide +kernel
theorem dX8_findHeaps_131 : decode cX8_findHeaps 131 = .ok (.istore_n 3, 1) := by decide +kernel
theorem dX8_findHeaps_132 : decode cX8_findHeaps 132 = .ok (.iload_n 3, 1) := by decide +kernel
theorem dX8_findHeaps_133 : decode cX8_findHeaps 133 = .ok (.iconst (-1), 1) := by decide +kernel
theorem dX8_findHeaps_134 : decode cX8_findHeaps 134 = .ok (.if_icmp .ne 111, 3) := by decide +kernel
theorem dX8_findHeaps_137 : decode cX8_findHeaps 137 = .ok (.aload_n 0, 1) := by decide +kernel
theorem dX8_findHeaps_138 : decode cX8_findHeaps 138 = .ok (.getfield 71, 3) := by decide +kernel
theorem dX8_findHeaps_141 : decode cX8_findHeaps 141 = .ok (.istore_n 3, 1) := by decide +kernel
theorem dX8_findHeaps_142 : decode cX8_findHeaps 142 = .ok (.aload_n 0, 1) := by decide +kernel
theorem dX8_findHeaps_143 : decode cX8_findHeaps 143 = .ok (.getfield 32, 3) := by decide +kernel
theorem dX8_findHeaps_146 : decode cX8_findHeaps 146 = .ok (.iload_n 3, 1) := by decide +kernel
theorem dX8_findHeaps_147 : decode cX8_findHeaps 147 = .ok (.aload_n 0, 1) := by decide +kernel
theorem dX8_findHeaps_148 : decode cX8_findHeaps 148 = .ok (.getfield 32, 3) := by decide +kernel
theorem dX8_findHeaps_151 : decode cX8_findHeaps 151 = .ok (.iload_n 1, 1) := by decide +kernel
theorem dX8_findHeaps_152 : decode cX8_findHeaps 152 = .ok (.iaload, 1) := by decide +kernel
theorem dX8_findHeaps_153 : decode cX8_findHeaps 153 = .ok (.iconst 1, 1) := by decide +kernel
theorem dX8_findHeaps_154 : decode cX8_findHeaps 154 = .ok (.iadd, 1) := by decide +kernel
theorem dX8_findHeaps_155 : decode cX8_findHeaps 155 = .ok (.iastore, 1) := by decide +kernel
theorem dX8_findHeaps_156 : decode cX8_findHeaps 156 = .ok (.iconst 0, 1) := by decide +kernel
theorem dX8_findHeaps_157 : decode cX8_findHeaps 157 = .ok (.istore 4, 2) := by decide +kernel
theorem dX8_findHeaps_159 : decode cX8_findHeaps 159 = .ok (.iconst 0, 1) := by decide +kernel
theorem dX8_findHeaps_160 : decode cX8_findHeaps 160 = .ok (.istore 5, 2) := by decide +kernel
theorem dX8_findHeaps_162 : decode cX8_findHeaps 162 = .ok (.iload 5, 2) := by decide +kernel
theorem dX8_findHeaps_164 : decode cX8_findHeaps 164 = .ok (.bipush 6, 2) := by decide +kernel
theorem dX8_findHeaps_166 : decode cX8_findHeaps 166 = .ok (.if_icmp .ge 61, 3) := by decide +kernel
theorem dX8_findHeaps_169 : decode cX8_findHeaps 169 = .ok (.aload_n 0, 1) := by decide +kernel
theorem dX8_findHeaps_170 : decode cX8_findHeaps 170 = .ok (.getfield 29, 3) := by decide +kernel
theorem dX8_findHeaps_173 : decode cX8_findHeaps 173 = .ok (.bipush 6, 2) := by decide +kernel
theorem dX8_findHeaps_175 : decode cX8_findHeaps 175 = .ok (.iload_n 3, 1) := by decide +kernel
theorem dX8_findHeaps_176 : decode cX8_findHeaps 176 = .ok (.imul, 1) := by decide +kernel
theorem dX8_findHeaps_177 : decode cX8_findHeaps 177 = .ok (.iload 5, 2) := by decide +kernel
theorem dX8_findHeaps_179 : decode cX8_findHeaps 179 = .ok (.iadd, 1) := by decide +kernel
theorem dX8_findHeaps_180 : decode cX8_findHeaps 180 = .ok (.aload_n 0, 1) := by decide +kernel
theorem dX8_findHeaps_181 : decode cX8_findHeaps 181 = .ok (.getfield 68, 3) := by decide +kernel
theorem dX8_findHeaps_184 : decode cX8_findHeaps 184 = .ok (.iload 5, 2) := by decide +kernel
theorem dX8_findHeaps_186 : decode cX8_findHeaps 186 = .ok (.iaload, 1) := by decide +kernel
theorem dX8_findHeaps_187 : decode cX8_findHeaps 187 = .ok (.iastore, 1) := by decide +kernel
theorem dX8_findHeaps_188 : decode cX8_findHeaps 188 = .ok (.iconst 0, 1) := by decide +kernel
theorem dX8_findHeaps_189 : decode cX8_findHeaps 189 = .ok (.istore 6, 2) := by decide +kernel
theorem dX8_findHeaps_191 : decode cX8_findHeaps 191 = .ok (.iload 6, 2) := by decide +kernel
theorem dX8_findHeaps_193 : decode cX8_findHeaps 193 = .ok (.aload_n 0, 1) := by decide +kernel
theorem dX8_findHeaps_194 : decode cX8_findHeaps 194 = .ok (.getfield 68, 3) := by decide +kernel
theorem dX8_findHeaps_197 : decode cX8_findHeaps 197 = .ok (.iload 5, 2) := by decide +kernel
theorem dX8_findHeaps_199 : decode cX8_findHeaps 199 = .ok (.iaload, 1) := by decide +kernel
theorem dX8_findHeaps_200 : decode cX8_findHeaps 200 = .ok (.if_icmp .ge 21, 3) := by decide +kernel
theorem dX8_findHeaps_203 : decode cX8_findHeaps 203 = .ok (.bipush 10, 2) := by decide +kernel
theorem dX8_findHeaps_205 : decode cX8_findHeaps 205 = .ok (.iload 4, 2) := by decide +kernel
theorem dX8_findHeaps_207 : decode cX8_findHeaps 207 = .ok (.imul, 1) := by decide +kernel
theorem dX8_findHeaps_208 : decode cX8_findHeaps 208 = .ok (.iload 5, 2) := by decide +kernel
theorem dX8_findHeaps_210 : decode cX8_findHeaps 210 = .ok (.iadd, 1) := by decide +kernel
theorem dX8_findHeaps_211 : decode cX8_findHeaps 211 = .ok (.iconst 1, 1) := by decide +kernel
theorem dX8_findHeaps_212 : decode cX8_findHeaps 212 = .ok (.iadd, 1) := by decide +kernel
theorem dX8_findHeaps_213 : decode cX8_findHeaps 213 = .ok (.istore 4, 2) := by decide +kernel
theorem dX8_findHeaps_215 : decode cX8_findHeaps 215 = .ok (.iinc 6 1, 3) := by decide +kernel
theorem dX8_findHeaps_218 : decode cX8_findHeaps 218 = .ok (.goto (-27), 3) := by decide +kernel
theorem dX8_findHeaps_221 : decode cX8_findHeaps 221 = .ok (.iinc 5 1, 3) := by decide +kernel
theorem dX8_findHeaps_224 : decode cX8_findHeaps 224 = .ok (.goto (-62), 3) := by decide +kernel
theorem dX8_findHeaps_227 : decode cX8_findHeaps 227 = .ok (.aload_n 0, 1) := by decide +kernel
theorem dX8_findHeaps_228 : decode cX8_findHeaps 228 = .ok (.getfield 35, 3) := by decide +kernel
theorem dX8_findHeaps_231 : decode cX8_findHeaps 231 = .ok (.iload_n 3, 1) := by decide +kernel
theorem dX8_findHeaps_232 : decode cX8_findHeaps 232 = .ok (.iload 4, 2) := by decide +kernel
theorem dX8_findHeaps_234 : decode cX8_findHeaps 234 = .ok (.iastore, 1) := by decide +kernel
theorem dX8_findHeaps_235 : decode cX8_findHeaps 235 = .ok (.aload_n 0, 1) := by decide +kernel
theorem dX8_findHeaps_236 : decode cX8_findHeaps 236 = .ok (.dup, 1) := by decide +kernel
theorem dX8_findHeaps_237 : decode cX8_findHeaps 237 = .ok (.getfield 71, 3) := by decide +kernel
theorem dX8_findHeaps_240 : decode cX8_findHeaps 240 = .ok (.iconst 1, 1) := by decide +kernel
theorem dX8_findHeaps_241 : decode cX8_findHeaps 241 = .ok (.iadd, 1) := by decide +kernel
theorem dX8_findHeaps_242 : decode cX8_findHeaps 242 = .ok (.putfield 71, 3) := by decide +kernel
theorem dX8_findHeaps_245 : decode cX8_findHeaps 245 = .ok (.aload_n 0, 1) := by decide +kernel
theorem dX8_findHeaps_246 : decode cX8_findHeaps 246 = .ok (.getfield 38, 3) := by decide +kernel
theorem dX8_findHeaps_249 : decode cX8_findHeaps 249 = .ok (.bipush 6, 2) := by decide +kernel
theorem dX8_findHeaps_251 : decode cX8_findHeaps 251 = .ok (.iload_n 1, 1) := by decide +kernel
theorem dX8_findHeaps_252 : decode cX8_findHeaps 252 = .ok (.imul, 1) := by decide +kernel
theorem dX8_findHeaps_253 : decode cX8_findHeaps 253 = .ok (.iload_n 2, 1) := by decide +kernel
theorem dX8_findHeaps_254 : decode cX8_findHeaps 254 = .ok (.iadd, 1) := by decide +kernel
theorem dX8_findHeaps_255 : decode cX8_findHeaps 255 = .ok (.iload_n 3, 1) := by decide +kernel
theorem dX8_findHeaps_256 : decode cX8_findHeaps 256 = .ok (.iastore, 1) := by decide +kernel
theorem dX8_findHeaps_257 : decode cX8_findHeaps 257 = .ok (.iinc 2 1, 3) := by decide +kernel
theorem dX8_findHeaps_260 : decode cX8_findHeaps 260 = .ok (.goto (-208), 3) := by decide +kernel
theorem dX8_findHeaps_263 : decode cX8_findHeaps 263 = .ok (.iinc 1 1, 3) := by decide +kernel
theorem dX8_findHeaps_266 : decode cX8_findHeaps 266 = .ok (.goto (-224), 3) := by decide +kernel
theorem dX8_findHeaps_269 : decode cX8_findHeaps 269 = .ok (.return_, 1) := by decide +kernel
theorem dX8_heapOf_0 : decode cX8_heapOf 0 = .ok (.iload_n 1, 1) := by decide +kernel
theorem dX8_heapOf_1 : decode cX8_heapOf 1 = .ok (.ifCond .ge 5, 3) := by decide +kernel
theorem dX8_heapOf_4 : decode cX8_heapOf 4 = .ok (.iconst (-1), 1) := by decide +kernel
theorem dX8_heapOf_5 : decode cX8_heapOf 5 = .ok (.ireturn, 1) := by decide +kernel
theorem dX8_heapOf_6 : decode cX8_heapOf 6 = .ok (.iconst 0, 1) := by decide +kernel
theorem dX8_heapOf_7 : decode cX8_heapOf 7 = .ok (.istore_n 2, 1) := by decide +kernel
theorem dX8_heapOf_8 : decode cX8_heapOf 8 = .ok (.iload_n 1, 1) := by decide +kernel
theorem dX8_heapOf_9 : decode cX8_heapOf 9 = .ok (.istore_n 3, 1) := by decide +kernel
theorem dX8_heapOf_10 : decode cX8_heapOf 10 = .ok (.iload_n 3, 1) := by decide +kernel
theorem dX8_heapOf_11 : decode cX8_heapOf 11 = .ok (.ifCond .le 62, 3) := by decide +kernel
theorem dX8_heapOf_14 : decode cX8_heapOf 14 = .ok (.iload_n 3, 1) := by decide +kernel
theorem dX8_heapOf_15 : decode cX8_heapOf 15 = .ok (.bipush 10, 2) := by decide +kernel
theorem dX8_heapOf_17 : decode cX8_heapOf 17 = .ok (.irem, 1) := by decide +kernel
theorem dX8_heapOf_18 : decode cX8_heapOf 18 = .ok (.istore 4, 2) := by decide +kernel
theorem dX8_heapOf_20 : decode cX8_heapOf 20 = .ok (.iload 4, 2) := by decide +kernel
theorem dX8_heapOf_22 : decode cX8_heapOf 22 = .ok (.iconst 1, 1) := by decide +kernel
theorem dX8_heapOf_23 : decode cX8_heapOf 23 = .ok (.if_icmp .lt 25, 3) := by decide +kernel
theorem dX8_heapOf_26 : decode cX8_heapOf 26 = .ok (.iload 4, 2) := by decide +kernel
theorem dX8_heapOf_28 : decode cX8_heapOf 28 = .ok (.aload_n 0, 1) := by decide +kernel
theorem dX8_heapOf_29 : decode cX8_heapOf 29 = .ok (.getfield 13, 3) := by decide +kernel
theorem dX8_heapOf_32 : decode cX8_heapOf 32 = .ok (.if_icmp .gt 16, 3) := by decide +kernel
theorem dX8_heapOf_35 : decode cX8_heapOf 35 = .ok (.aload_n 0, 1) := by decide +kernel
theorem dX8_heapOf_36 : decode cX8_heapOf 36 = .ok (.getfield 32, 3) := by decide +kernel
theorem dX8_heapOf_39 : decode cX8_heapOf 39 = .ok (.iload_n 2, 1) := by decide +kernel
theorem dX8_heapOf_40 : decode cX8_heapOf 40 = .ok (.iaload, 1) := by decide +kernel
theorem dX8_heapOf_41 : decode cX8_heapOf 41 = .ok (.aload_n 0, 1) := by decide +kernel
theorem dX8_heapOf_42 : decode cX8_heapOf 42 = .ok (.getfield 7, 3) := by decide +kernel
theorem dX8_heapOf_45 : decode cX8_heapOf 45 = .ok (.if_icmp .ne 5, 3) := by decide +kernel
theorem dX8_heapOf_48 : decode cX8_heapOf 48 = .ok (.iconst (-1), 1) := by decide +kernel
theorem dX8_heapOf_49 : decode cX8_heapOf 49 = .ok (.ireturn, 1) := by decide +kernel
theorem dX8_heapOf_50 : decode cX8_heapOf 50 = .ok (.aload_n 0, 1) := by decide +kernel
theorem dX8_heapOf_51 : decode cX8_heapOf 51 = .ok (.getfield 38, 3) := by decide +kernel
theorem dX8_heapOf_54 : decode cX8_heapOf 54 = .ok (.bipush 6, 2) := by decide +kernel
theorem dX8_heapOf_56 : decode cX8_heapOf 56 = .ok (.iload_n 2, 1) := by decide +kernel
theorem dX8_heapOf_57 : decode cX8_heapOf 57 = .ok (.imul, 1) := by decide +kernel
theorem dX8_heapOf_58 : decode cX8_heapOf 58 = .ok (.iload 4, 2) := by decide +kernel
theorem dX8_heapOf_60 : decode cX8_heapOf 60 = .ok (.iadd, 1) := by decide +kernel
theorem dX8_heapOf_61 : decode cX8_heapOf 61 = .ok (.iconst 1, 1) := by decide +kernel
theorem dX8_heapOf_62 : decode cX8_heapOf 62 = .ok (.isub, 1) := by decide +kernel
theorem dX8_heapOf_63 : decode cX8_heapOf 63 = .ok (.iaload, 1) := by decide +kernel
theorem dX8_heapOf_64 : decode cX8_heapOf 64 = .ok (.istore_n 2, 1) := by decide +kernel
theorem dX8_heapOf_65 : decode cX8_heapOf 65 = .ok (.iload_n 3, 1) := by decide +kernel
theorem dX8_heapOf_66 : decode cX8_heapOf 66 = .ok (.bipush 10, 2) := by decide +kernel
theorem dX8_heapOf_68 : decode cX8_heapOf 68 = .ok (.idiv, 1) := by decide +kernel
theorem dX8_heapOf_69 : decode cX8_heapOf 69 = .ok (.istore_n 3, 1) := by decide +kernel
theorem dX8_heapOf_70 : decode cX8_heapOf 70 = .ok (.goto (-60), 3) := by decide +kernel
theorem dX8_heapOf_73 : decode cX8_heapOf 73 = .ok (.iload_n 2, 1) := by decide +kernel
theorem dX8_heapOf_74 : decode cX8_heapOf 74 = .ok (.ireturn, 1) := by decide +kernel
theorem dX8_pointsIn_0 : decode cX8_pointsIn 0 = .ok (.iconst 0, 1) := by decide +kernel
theorem dX8_pointsIn_1 : decode cX8_pointsIn 1 = .ok (.istore_n 3, 1) := by decide +kernel
theorem dX8_pointsIn_2 : decode cX8_pointsIn 2 = .ok (.iconst 0, 1) := by decide +kernel
theorem dX8_pointsIn_3 : decode cX8_pointsIn 3 = .ok (.istore 4, 2) := by decide +kernel
theorem dX8_pointsIn_5 : decode cX8_pointsIn 5 = .ok (.iconst 0, 1) := by decide +kernel
theorem dX8_pointsIn_6 : decode cX8_pointsIn 6 = .ok (.istore 5, 2) := by decide +kernel
theorem dX8_pointsIn_8 : decode cX8_pointsIn 8 = .ok (.iconst 0, 1) := by decide +kernel
theorem dX8_pointsIn_9 : decode cX8_pointsIn 9 = .ok (.istore 6, 2) := by decide +kernel
theorem dX8_pointsIn_11 : decode cX8_pointsIn 11 = .ok (.iconst 0, 1) := by decide +kernel
theorem dX8_pointsIn_12 : decode cX8_pointsIn 12 = .ok (.istore 7, 2) := by decide +kernel
theorem dX8_pointsIn_14 : decode cX8_pointsIn 14 = .ok (.iconst 0, 1) := by decide +kernel
theorem dX8_pointsIn_15 : decode cX8_pointsIn 15 = .ok (.istore 8, 2) := by decide +kernel
theorem dX8_pointsIn_17 : decode cX8_pointsIn 17 = .ok (.iconst 0, 1) := by decide +kernel
theorem dX8_pointsIn_18 : decode cX8_pointsIn 18 = .ok (.istore 9, 2) := by decide +kernel
theorem dX8_pointsIn_20 : decode cX8_pointsIn 20 = .ok (.iload 9, 2) := by decide +kernel
theorem dX8_pointsIn_22 : decode cX8_pointsIn 22 = .ok (.bipush 6, 2) := by decide +kernel
theorem dX8_pointsIn_24 : decode cX8_pointsIn 24 = .ok (.if_icmp .ge 111, 3) := by decide +kernel
theorem dX8_pointsIn_27 : decode cX8_pointsIn 27 = .ok (.aload_n 0, 1) := by decide +kernel
theorem dX8_pointsIn_28 : decode cX8_pointsIn 28 = .ok (.getfield 29, 3) := by decide +kernel
theorem dX8_pointsIn_31 : decode cX8_pointsIn 31 = .ok (.bipush 6, 2) := by decide +kernel
theorem dX8_pointsIn_33 : decode cX8_pointsIn 33 = .ok (.iload_n 1, 1) := by decide +kernel
theorem dX8_pointsIn_34 : decode cX8_pointsIn 34 = .ok (.imul, 1) := by decide +kernel
theorem dX8_pointsIn_35 : decode cX8_pointsIn 35 = .ok (.iload 9, 2) := by decide +kernel
theorem dX8_pointsIn_37 : decode cX8_pointsIn 37 = .ok (.iadd, 1) := by decide +kernel
theorem dX8_pointsIn_38 : decode cX8_pointsIn 38 = .ok (.iaload, 1) := by decide +kernel
theorem dX8_pointsIn_39 : decode cX8_pointsIn 39 = .ok (.istore 10, 2) := by decide +kernel
theorem dX8_pointsIn_41 : decode cX8_pointsIn 41 = .ok (.iload_n 3, 1) := by decide +kernel
theorem dX8_pointsIn_42 : decode cX8_pointsIn 42 = .ok (.iload 10, 2) := by decide +kernel
theorem dX8_pointsIn_44 : decode cX8_pointsIn 44 = .ok (.iload 9, 2) := by decide +kernel
theorem dX8_pointsIn_46 : decode cX8_pointsIn 46 = .ok (.iconst 1, 1) := by decide +kernel
theorem dX8_pointsIn_47 : decode cX8_pointsIn 47 = .ok (.iadd, 1) := by decide +kernel
theorem dX8_pointsIn_48 : decode cX8_pointsIn 48 = .ok (.imul, 1) := by decide +kernel
theorem dX8_pointsIn_49 : decode cX8_pointsIn 49 = .ok (.iadd, 1) := by decide +kernel
theorem dX8_pointsIn_50 : decode cX8_pointsIn 50 = .ok (.istore_n 3, 1) := by decide +kernel
theorem dX8_pointsIn_51 : decode cX8_pointsIn 51 = .ok (.iload 10, 2) := by decide +kernel
theorem dX8_pointsIn_53 : decode cX8_pointsIn 53 = .ok (.iload 4, 2) := by decide +kernel
theorem dX8_pointsIn_55 : decode cX8_pointsIn 55 = .ok (.if_icmp .le 8, 3) := by decide +kernel
theorem dX8_pointsIn_58 : decode cX8_pointsIn 58 = .ok (.iload 10, 2) := by decide +kernel
theorem dX8_pointsIn_60 : decode cX8_pointsIn 60 = .ok (.goto 5, 3) := by decide +kernel
theorem dX8_pointsIn_63 : decode cX8_pointsIn 63 = .ok (.iload 4, 2) := by decide +kernel
theorem dX8_pointsIn_65 : decode cX8_pointsIn 65 = .ok (.istore 4, 2) := by decide +kernel
theorem dX8_pointsIn_67 : decode cX8_pointsIn 67 = .ok (.iload 5, 2) := by decide +kernel
theorem dX8_pointsIn_69 : decode cX8_pointsIn 69 = .ok (.iload 10, 2) := by decide +kernel
theorem dX8_pointsIn_71 : decode cX8_pointsIn 71 = .ok (.iconst 1, 1) := by decide +kernel
theorem dX8_pointsIn_72 : decode cX8_pointsIn 72 = .ok (.if_icmp .le 7, 3) := by decide +kernel
theorem dX8_pointsIn_75 : decode cX8_pointsIn 75 = .ok (.iconst 1, 1) := by decide +kernel
theorem dX8_pointsIn_76 : decode cX8_pointsIn 76 = .ok (.goto 4, 3) := by decide +kernel
theorem dX8_pointsIn_79 : decode cX8_pointsIn 79 = .ok (.iconst 0, 1) := by decide +kernel
theorem dX8_pointsIn_80 : decode cX8_pointsIn 80 = .ok (.iadd, 1) := by decide +kernel
theorem dX8_pointsIn_81 : decode cX8_pointsIn 81 = .ok (.istore 5, 2) := by decide +kernel
theorem dX8_pointsIn_83 : decode cX8_pointsIn 83 = .ok (.iload 6, 2) := by decide +kernel
theorem dX8_pointsIn_85 : decode cX8_pointsIn 85 = .ok (.iload 10, 2) := by decide +kernel
theorem dX8_pointsIn_87 : decode cX8_pointsIn 87 = .ok (.ifCond .le 7, 3) := by decide +kernel
theorem dX8_pointsIn_90 : decode cX8_pointsIn 90 = .ok (.iconst 1, 1) := by decide +kernel
theorem dX8_pointsIn_91 : decode cX8_pointsIn 91 = .ok (.goto 4, 3) := by decide +kernel
theorem dX8_pointsIn_94 : decode cX8_pointsIn 94 = .ok (.iconst 0, 1) := by decide +kernel
theorem dX8_pointsIn_95 : decode cX8_pointsIn 95 = .ok (.iadd, 1) := by decide +kernel
theorem dX8_pointsIn_96 : decode cX8_pointsIn 96 = .ok (.istore 6, 2) := by decide +kernel
theorem dX8_pointsIn_98 : decode cX8_pointsIn 98 = .ok (.iload 10, 2) := by decide +kernel
theorem dX8_pointsIn_100 : decode cX8_pointsIn 100 = .ok (.ifCond .le 10, 3) := by decide +kernel
theorem dX8_pointsIn_103 : decode cX8_pointsIn 103 = .ok (.iload 7, 2) := by decide +kernel
theorem dX8_pointsIn_105 : decode cX8_pointsIn 105 = .ok (.iconst 1, 1) := by decide +kernel
theorem dX8_pointsIn_106 : decode cX8_pointsIn 106 = .ok (.iadd, 1) := by decide +kernel
theorem dX8_pointsIn_107 : decode cX8_pointsIn 107 = .ok (.goto 4, 3) := by decide +kernel
theorem dX8_pointsIn_110 : decode cX8_pointsIn 110 = .ok (.iconst 0, 1) := by decide +kernel
theorem dX8_pointsIn_111 : decode cX8_pointsIn 111 = .ok (.istore 7, 2) := by decide +kernel
theorem dX8_pointsIn_113 : decode cX8_pointsIn 113 = .ok (.iload 7, 2) := by decide +kernel
theorem dX8_pointsIn_115 : decode cX8_pointsIn 115 = .ok (.iload 8, 2) := by decide +kernel
theorem dX8_pointsIn_117 : decode cX8_pointsIn 117 = .ok (.if_icmp .le 8, 3) := by decide +kernel
theorem dX8_pointsIn_120 : decode cX8_pointsIn 120 = .ok (.iload 7, 2) := by decide +kernel
theorem dX8_pointsIn_122 : decode cX8_pointsIn 122 = .ok (.goto 5, 3) := by decide +kernel
theorem dX8_pointsIn_125 : decode cX8_pointsIn 125 = .ok (.iload 8, 2) := by decide +kernel
theorem dX8_pointsIn_127 : decode cX8_pointsIn 127 = .ok (.istore 8, 2) := by decide +kernel
theorem dX8_pointsIn_129 : decode cX8_pointsIn 129 = .ok (.iinc 9 1, 3) := by decide +kernel
theorem dX8_pointsIn_132 : decode cX8_pointsIn 132 = .ok (.goto (-112), 3) := by decide +kernel
theorem dX8_pointsIn_135 : decode cX8_pointsIn 135 = .ok (.aload_n 0, 1) := by decide +kernel
theorem dX8_pointsIn_136 : decode cX8_pointsIn 136 = .ok (.getfield 23, 3) := by decide +kernel
theorem dX8_pointsIn_139 : decode cX8_pointsIn 139 = .ok (.iload_n 2, 1) := by decide +kernel
theorem dX8_pointsIn_140 : decode cX8_pointsIn 140 = .ok (.iaload, 1) := by decide +kernel
theorem dX8_pointsIn_141 : decode cX8_pointsIn 141 = .ok (.istore 9, 2) := by decide +kernel
theorem dX8_pointsIn_143 : decode cX8_pointsIn 143 = .ok (.aload_n 0, 1) := by decide +kernel
theorem dX8_pointsIn_144 : decode cX8_pointsIn 144 = .ok (.getfield 26, 3) := by decide +kernel
theorem dX8_pointsIn_147 : decode cX8_pointsIn 147 = .ok (.iload_n 2, 1) := by decide +kernel
theorem dX8_pointsIn_148 : decode cX8_pointsIn 148 = .ok (.iaload, 1) := by decide +kernel
theorem dX8_pointsIn_149 : decode cX8_pointsIn 149 = .ok (.istore 10, 2) := by decide +kernel
theorem dX8_pointsIn_151 : decode cX8_pointsIn 151 = .ok (.aload_n 0, 1) := by decide +kernel
theorem dX8_pointsIn_152 : decode cX8_pointsIn 152 = .ok (.getfield 19, 3) := by decide +kernel
theorem dX8_pointsIn_155 : decode cX8_pointsIn 155 = .ok (.iload_n 2, 1) := by decide +kernel
theorem dX8_pointsIn_156 : decode cX8_pointsIn 156 = .ok (.iaload, 1) := by decide +kernel
theorem dX8_pointsIn_157 : decode cX8_pointsIn 157 = .ok (.tableswitch 108 0 4 #[35, 53, 66, 80, 94], 35) := by decide +kernel
theorem dX8_pointsIn_192 : decode cX8_pointsIn 192 = .ok (.iload 9, 2) := by decide +kernel
theorem dX8_pointsIn_194 : decode cX8_pointsIn 194 = .ok (.aload_n 0, 1) := by decide +kernel
theorem dX8_pointsIn_195 : decode cX8_pointsIn 195 = .ok (.getfield 29, 3) := by decide +kernel
theorem dX8_pointsIn_198 : decode cX8_pointsIn 198 = .ok (.bipush 6, 2) := by decide +kernel
theorem dX8_pointsIn_200 : decode cX8_pointsIn 200 = .ok (.iload_n 1, 1) := by decide +kernel
theorem dX8_pointsIn_201 : decode cX8_pointsIn 201 = .ok (.imul, 1) := by decide +kernel
theorem dX8_pointsIn_202 : decode cX8_pointsIn 202 = .ok (.iload 9, 2) := by decide +kernel
theorem dX8_pointsIn_204 : decode cX8_pointsIn 204 = .ok (.iadd, 1) := by decide +kernel
theorem dX8_pointsIn_205 : decode cX8_pointsIn 205 = .ok (.iconst 1, 1) := by decide +kernel
theorem dX8_pointsIn_206 : decode cX8_pointsIn 206 = .ok (.isub, 1) := by decide +kernel
theorem dX8_pointsIn_207 : decode cX8_pointsIn 207 = .ok (.iaload, 1) := by decide +kernel
theorem dX8_pointsIn_208 : decode cX8_pointsIn 208 = .ok (.imul, 1) := by decide +kernel
theorem dX8_pointsIn_209 : decode cX8_pointsIn 209 = .ok (.ireturn, 1) := by decide +kernel
theorem dX8_pointsIn_210 : decode cX8_pointsIn 210 = .ok (.iload 4, 2) := by decide +kernel
theorem dX8_pointsIn_212 : decode cX8_pointsIn 212 = .ok (.iload 9, 2) := by decide +kernel
theorem dX8_pointsIn_214 : decode cX8_pointsIn 214 = .ok (.if_icmp .lt 7, 3) := by decide +kernel
theorem dX8_pointsIn_217 : decode cX8_pointsIn 217 = .ok (.iload_n 3, 1) := by decide +kernel
theorem dX8_pointsIn_218 : decode cX8_pointsIn 218 = .ok (.goto 4, 3) := by decide +kernel
theorem dX8_pointsIn_221 : decode cX8_pointsIn 221 = .ok (.iconst 0, 1) := by decide +kernel
theorem dX8_pointsIn_222 : decode cX8_pointsIn 222 = .ok (.ireturn, 1) := by decide +kernel
theorem dX8_pointsIn_223 : decode cX8_pointsIn 223 = .ok (.iload 8, 2) := by decide +kernel
theorem dX8_pointsIn_225 : decode cX8_pointsIn 225 = .ok (.iload 9, 2) := by decide +kernel
theorem dX8_pointsIn_227 : decode cX8_pointsIn 227 = .ok (.if_icmp .lt 8, 3) := by decide +kernel
theorem dX8_pointsIn_230 : decode cX8_pointsIn 230 = .ok (.iload 10, 2) := by decide +kernel
theorem dX8_pointsIn_232 : decode cX8_pointsIn 232 = .ok (.goto 4, 3) := by decide +kernel
theorem dX8_pointsIn_235 : decode cX8_pointsIn 235 = .ok (.iconst 0, 1) := by decide +kernel
theorem dX8_pointsIn_236 : decode cX8_pointsIn 236 = .ok (.ireturn, 1) := by decide +kernel
theorem dX8_pointsIn_237 : decode cX8_pointsIn 237 = .ok (.iload 5, 2) := by decide +kernel
theorem dX8_pointsIn_239 : decode cX8_pointsIn 239 = .ok (.iload 9, 2) := by decide +kernel
theorem dX8_pointsIn_241 : decode cX8_pointsIn 241 = .ok (.if_icmp .lt 8, 3) := by decide +kernel
theorem dX8_pointsIn_244 : decode cX8_pointsIn 244 = .ok (.iload 10, 2) := by decide +kernel
theorem dX8_pointsIn_246 : decode cX8_pointsIn 246 = .ok (.goto 4, 3) := by decide +kernel
theorem dX8_pointsIn_249 : decode cX8_pointsIn 249 = .ok (.iconst 0, 1) := by decide +kernel
theorem dX8_pointsIn_250 : decode cX8_pointsIn 250 = .ok (.ireturn, 1) := by decide +kernel
theorem dX8_pointsIn_251 : decode cX8_pointsIn 251 = .ok (.iload 6, 2) := by decide +kernel
theorem dX8_pointsIn_253 : decode cX8_pointsIn 253 = .ok (.iload 9, 2) := by decide +kernel
theorem dX8_pointsIn_255 : decode cX8_pointsIn 255 = .ok (.if_icmp .ne 8, 3) := by decide +kernel
theorem dX8_pointsIn_258 : decode cX8_pointsIn 258 = .ok (.iload 10, 2) := by decide +kernel
theorem dX8_pointsIn_260 : decode cX8_pointsIn 260 = .ok (.goto 4, 3) := by decide +kernel
theorem dX8_pointsIn_263 : decode cX8_pointsIn 263 = .ok (.iconst 0, 1) := by decide +kernel
theorem dX8_pointsIn_264 : decode cX8_pointsIn 264 = .ok (.ireturn, 1) := by decide +kernel
theorem dX8_pointsIn_265 : decode cX8_pointsIn 265 = .ok (.iload_n 3, 1) := by decide +kernel
theorem dX8_pointsIn_266 : decode cX8_pointsIn 266 = .ok (.iload 10, 2) := by decide +kernel
theorem dX8_pointsIn_268 : decode cX8_pointsIn 268 = .ok (.iadd, 1) := by decide +kernel
theorem dX8_pointsIn_269 : decode cX8_pointsIn 269 = .ok (.ireturn, 1) := by decide +kernel
theorem dX8_dice_0 : decode cX8_dice 0 = .ok (.iload_n 1, 1) := by decide +kernel
theorem dX8_dice_1 : decode cX8_dice 1 = .ok (.iconst 1, 1) := by decide +kernel
theorem dX8_dice_2 : decode cX8_dice 2 = .ok (.iconst 5, 1) := by decide +kernel
theorem dX8_dice_3 : decode cX8_dice 3 = .ok (.invokestatic 78, 3) := by decide +kernel
theorem dX8_dice_6 : decode cX8_dice 6 = .ok (.ifCond .eq 22, 3) := by decide +kernel
theorem dX8_dice_9 : decode cX8_dice 9 = .ok (.iload_n 2, 1) := by decide +kernel
theorem dX8_dice_10 : decode cX8_dice 10 = .ok (.iconst 2, 1) := by decide +kernel
theorem dX8_dice_11 : decode cX8_dice 11 = .ok (.bipush 6, 2) := by decide +kernel
theorem dX8_dice_13 : decode cX8_dice 13 = .ok (.invokestatic 78, 3) := by decide +kernel
theorem dX8_dice_16 : decode cX8_dice 16 = .ok (.ifCond .eq 12, 3) := by decide +kernel
theorem dX8_dice_19 : decode cX8_dice 19 = .ok (.iload_n 3, 1) := by decide +kernel
theorem dX8_dice_20 : decode cX8_dice 20 = .ok (.iconst 1, 1) := by decide +kernel
theorem dX8_dice_21 : decode cX8_dice 21 = .ok (.iconst 3, 1) := by decide +kernel
theorem dX8_dice_22 : decode cX8_dice 22 = .ok (.invokestatic 78, 3) := by decide +kernel
theorem dX8_dice_25 : decode cX8_dice 25 = .ok (.ifCond .ne 6, 3) := by decide +kernel
theorem dX8_dice_28 : decode cX8_dice 28 = .ok (.bipush (-3), 2) := by decide +kernel
theorem dX8_dice_30 : decode cX8_dice 30 = .ok (.ireturn, 1) := by decide +kernel
theorem dX8_dice_31 : decode cX8_dice 31 = .ok (.aload_n 0, 1) := by decide +kernel
theorem dX8_dice_32 : decode cX8_dice 32 = .ok (.getfield 82, 3) := by decide +kernel
theorem dX8_dice_35 : decode cX8_dice 35 = .ok (.ifCond .eq 6, 3) := by decide +kernel
theorem dX8_dice_38 : decode cX8_dice 38 = .ok (.bipush (-4), 2) := by decide +kernel
theorem dX8_dice_40 : decode cX8_dice 40 = .ok (.ireturn, 1) := by decide +kernel
theorem dX8_dice_41 : decode cX8_dice 41 = .ok (.aload_n 0, 1) := by decide +kernel
theorem dX8_dice_42 : decode cX8_dice 42 = .ok (.iload_n 1, 1) := by decide +kernel
theorem dX8_dice_43 : decode cX8_dice 43 = .ok (.putfield 7, 3) := by decide +kernel
theorem dX8_dice_46 : decode cX8_dice 46 = .ok (.aload_n 0, 1) := by decide +kernel
theorem dX8_dice_47 : decode cX8_dice 47 = .ok (.iload_n 2, 1) := by decide +kernel
theorem dX8_dice_48 : decode cX8_dice 48 = .ok (.putfield 13, 3) := by decide +kernel
theorem dX8_dice_51 : decode cX8_dice 51 = .ok (.aload_n 0, 1) := by decide +kernel
theorem dX8_dice_52 : decode cX8_dice 52 = .ok (.iload_n 3, 1) := by decide +kernel
theorem dX8_dice_53 : decode cX8_dice 53 = .ok (.putfield 16, 3) := by decide +kernel
theorem dX8_dice_56 : decode cX8_dice 56 = .ok (.iconst 1, 1) := by decide +kernel
theorem dX8_dice_57 : decode cX8_dice 57 = .ok (.ireturn, 1) := by decide +kernel
theorem dX8_row_0 : decode cX8_row 0 = .ok (.iload_n 1, 1) := by decide +kernel
theorem dX8_row_1 : decode cX8_row 1 = .ok (.iconst 0, 1) := by decide +kernel
theorem dX8_row_2 : decode cX8_row 2 = .ok (.iconst 5, 1) := by decide +kernel
theorem dX8_row_3 : decode cX8_row 3 = .ok (.invokestatic 78, 3) := by decide +kernel
theorem dX8_row_6 : decode cX8_row 6 = .ok (.ifCond .eq 23, 3) := by decide +kernel
theorem dX8_row_9 : decode cX8_row 9 = .ok (.iload_n 2, 1) := by decide +kernel
theorem dX8_row_10 : decode cX8_row 10 = .ok (.iconst 1, 1) := by decide +kernel
theorem dX8_row_11 : decode cX8_row 11 = .ok (.bipush 6, 2) := by decide +kernel
theorem dX8_row_13 : decode cX8_row 13 = .ok (.invokestatic 78, 3) := by decide +kernel
theorem dX8_row_16 : decode cX8_row 16 = .ok (.ifCond .eq 13, 3) := by decide +kernel
theorem dX8_row_19 : decode cX8_row 19 = .ok (.iload_n 3, 1) := by decide +kernel
theorem dX8_row_20 : decode cX8_row 20 = .ok (.iconst 0, 1) := by decide +kernel
theorem dX8_row_21 : decode cX8_row 21 = .ok (.bipush 30, 2) := by decide +kernel
theorem dX8_row_23 : decode cX8_row 23 = .ok (.invokestatic 78, 3) := by decide +kernel
theorem dX8_row_26 : decode cX8_row 26 = .ok (.ifCond .ne 6, 3) := by decide +kernel
theorem dX8_row_29 : decode cX8_row 29 = .ok (.bipush (-3), 2) := by decide +kernel
theorem dX8_row_31 : decode cX8_row 31 = .ok (.ireturn, 1) := by decide +kernel
theorem dX8_row_32 : decode cX8_row 32 = .ok (.aload_n 0, 1) := by decide +kernel
theorem dX8_row_33 : decode cX8_row 33 = .ok (.getfield 82, 3) := by decide +kernel
theorem dX8_row_36 : decode cX8_row 36 = .ok (.ifCond .eq 6, 3) := by decide +kernel
theorem dX8_row_39 : decode cX8_row 39 = .ok (.bipush (-4), 2) := by decide +kernel
theorem dX8_row_41 : decode cX8_row 41 = .ok (.ireturn, 1) := by decide +kernel
theorem dX8_row_42 : decode cX8_row 42 = .ok (.aload_n 0, 1) := by decide +kernel
theorem dX8_row_43 : decode cX8_row 43 = .ok (.getfield 86, 3) := by decide +kernel
theorem dX8_row_46 : decode cX8_row 46 = .ok (.bipush 8, 2) := by decide +kernel
theorem dX8_row_48 : decode cX8_row 48 = .ok (.if_icmp .ne 6, 3) := by decide +kernel
theorem dX8_row_51 : decode cX8_row 51 = .ok (.bipush (-6), 2) := by decide +kernel
theorem dX8_row_53 : decode cX8_row 53 = .ok (.ireturn, 1) := by decide +kernel
theorem dX8_row_54 : decode cX8_row 54 = .ok (.aload_n 0, 1) := by decide +kernel
theorem dX8_row_55 : decode cX8_row 55 = .ok (.getfield 19, 3) := by decide +kernel
theorem dX8_row_58 : decode cX8_row 58 = .ok (.aload_n 0, 1) := by decide +kernel
theorem dX8_row_59 : decode cX8_row 59 = .ok (.getfield 86, 3) := by decide +kernel
theorem dX8_row_62 : decode cX8_row 62 = .ok (.iload_n 1, 1) := by decide +kernel
theorem dX8_row_63 : decode cX8_row 63 = .ok (.iastore, 1) := by decide +kernel
theorem dX8_row_64 : decode cX8_row 64 = .ok (.aload_n 0, 1) := by decide +kernel
theorem dX8_row_65 : decode cX8_row 65 = .ok (.getfield 23, 3) := by decide +kernel
theorem dX8_row_68 : decode cX8_row 68 = .ok (.aload_n 0, 1) := by decide +kernel
theorem dX8_row_69 : decode cX8_row 69 = .ok (.getfield 86, 3) := by decide +kernel
theorem dX8_row_72 : decode cX8_row 72 = .ok (.iload_n 2, 1) := by decide +kernel
theorem dX8_row_73 : decode cX8_row 73 = .ok (.iastore, 1) := by decide +kernel
theorem dX8_row_74 : decode cX8_row 74 = .ok (.aload_n 0, 1) := by decide +kernel
theorem dX8_row_75 : decode cX8_row 75 = .ok (.getfield 26, 3) := by decide +kernel
theorem dX8_row_78 : decode cX8_row 78 = .ok (.aload_n 0, 1) := by decide +kernel
theorem dX8_row_79 : decode cX8_row 79 = .ok (.getfield 86, 3) := by decide +kernel
theorem dX8_row_82 : decode cX8_row 82 = .ok (.iload_n 3, 1) := by decide +kernel
theorem dX8_row_83 : decode cX8_row 83 = .ok (.iastore, 1) := by decide +kernel
theorem dX8_row_84 : decode cX8_row 84 = .ok (.aload_n 0, 1) := by decide +kernel
theorem dX8_row_85 : decode cX8_row 85 = .ok (.dup, 1) := by decide +kernel
theorem dX8_row_86 : decode cX8_row 86 = .ok (.getfield 86, 3) := by decide +kernel
theorem dX8_row_89 : decode cX8_row 89 = .ok (.iconst 1, 1) := by decide +kernel
theorem dX8_row_90 : decode cX8_row 90 = .ok (.iadd, 1) := by decide +kernel
theorem dX8_row_91 : decode cX8_row 91 = .ok (.putfield 86, 3) := by decide +kernel
theorem dX8_row_94 : decode cX8_row 94 = .ok (.aload_n 0, 1) := by decide +kernel
theorem dX8_row_95 : decode cX8_row 95 = .ok (.getfield 86, 3) := by decide +kernel
theorem dX8_row_98 : decode cX8_row 98 = .ok (.iconst 1, 1) := by decide +kernel
theorem dX8_row_99 : decode cX8_row 99 = .ok (.isub, 1) := by decide +kernel
theorem dX8_row_100 : decode cX8_row 100 = .ok (.ireturn, 1) := by decide +kernel
theorem dX8_open_0 : decode cX8_open 0 = .ok (.iconst 0, 1) := by decide +kernel
theorem dX8_open_1 : decode cX8_open 1 = .ok (.istore_n 2, 1) := by decide +kernel
theorem dX8_open_2 : decode cX8_open 2 = .ok (.iconst 0, 1) := by decide +kernel
theorem dX8_open_3 : decode cX8_open 3 = .ok (.istore_n 3, 1) := by decide +kernel
theorem dX8_open_4 : decode cX8_open 4 = .ok (.iload_n 3, 1) := by decide +kernel
theorem dX8_open_5 : decode cX8_open 5 = .ok (.aload_n 0, 1) := by decide +kernel
theorem dX8_open_6 : decode cX8_open 6 = .ok (.getfield 86, 3) := by decide +kernel
theorem dX8_open_9 : decode cX8_open 9 = .ok (.if_icmp .ge 25, 3) := by decide +kernel
theorem dX8_open_12 : decode cX8_open 12 = .ok (.iload_n 2, 1) := by decide +kernel
theorem dX8_open_13 : decode cX8_open 13 = .ok (.iload_n 1, 1) := by decide +kernel
theorem dX8_open_14 : decode cX8_open 14 = .ok (.iload_n 3, 1) := by decide +kernel
theorem dX8_open_15 : decode cX8_open 15 = .ok (.ishr, 1) := by decide +kernel
theorem dX8_open_16 : decode cX8_open 16 = .ok (.iconst 1, 1) := by decide +kernel
theorem dX8_open_17 : decode cX8_open 17 = .ok (.iand, 1) := by decide +kernel
theorem dX8_open_18 : decode cX8_open 18 = .ok (.ifCond .ne 7, 3) := by decide +kernel
theorem dX8_open_21 : decode cX8_open 21 = .ok (.iconst 1, 1) := by decide +kernel
theorem dX8_open_22 : decode cX8_open 22 = .ok (.goto 4, 3) := by decide +kernel
theorem dX8_open_25 : decode cX8_open 25 = .ok (.iconst 0, 1) := by decide +kernel
theorem dX8_open_26 : decode cX8_open 26 = .ok (.iadd, 1) := by decide +kernel
theorem dX8_open_27 : decode cX8_open 27 = .ok (.istore_n 2, 1) := by decide +kernel
theorem dX8_open_28 : decode cX8_open 28 = .ok (.iinc 3 1, 3) := by decide +kernel
theorem dX8_open_31 : decode cX8_open 31 = .ok (.goto (-27), 3) := by decide +kernel
theorem dX8_open_34 : decode cX8_open 34 = .ok (.iload_n 2, 1) := by decide +kernel
theorem dX8_open_35 : decode cX8_open 35 = .ok (.ireturn, 1) := by decide +kernel
theorem dX8_power_0 : decode cX8_power 0 = .ok (.lconst 1, 1) := by decide +kernel
theorem dX8_power_1 : decode cX8_power 1 = .ok (.lstore 4, 2) := by decide +kernel
theorem dX8_power_3 : decode cX8_power 3 = .ok (.iconst 0, 1) := by decide +kernel
theorem dX8_power_4 : decode cX8_power 4 = .ok (.istore 6, 2) := by decide +kernel
theorem dX8_power_6 : decode cX8_power 6 = .ok (.iload 6, 2) := by decide +kernel
theorem dX8_power_8 : decode cX8_power 8 = .ok (.iload_n 3, 1) := by decide +kernel
theorem dX8_power_9 : decode cX8_power 9 = .ok (.if_icmp .ge 15, 3) := by decide +kernel
theorem dX8_power_12 : decode cX8_power 12 = .ok (.lload 4, 2) := by decide +kernel
theorem dX8_power_14 : decode cX8_power 14 = .ok (.lload_n 1, 1) := by decide +kernel
theorem dX8_power_15 : decode cX8_power 15 = .ok (.lmul, 1) := by decide +kernel
theorem dX8_power_16 : decode cX8_power 16 = .ok (.lstore 4, 2) := by decide +kernel
theorem dX8_power_18 : decode cX8_power 18 = .ok (.iinc 6 1, 3) := by decide +kernel
theorem dX8_power_21 : decode cX8_power 21 = .ok (.goto (-15), 3) := by decide +kernel
theorem dX8_power_24 : decode cX8_power 24 = .ok (.lload 4, 2) := by decide +kernel
theorem dX8_power_26 : decode cX8_power 26 = .ok (.lreturn, 1) := by decide +kernel
theorem dX8_unitOf_0 : decode cX8_unitOf 0 = .ok (.aload_n 0, 1) := by decide +kernel
theorem dX8_unitOf_1 : decode cX8_unitOf 1 = .ok (.aload_n 0, 1) := by decide +kernel
theorem dX8_unitOf_2 : decode cX8_unitOf 2 = .ok (.getfield 89, 3) := by decide +kernel
theorem dX8_unitOf_5 : decode cX8_unitOf 5 = .ok (.aload_n 0, 1) := by decide +kernel
theorem dX8_unitOf_6 : decode cX8_unitOf 6 = .ok (.getfield 16, 3) := by decide +kernel
theorem dX8_unitOf_9 : decode cX8_unitOf 9 = .ok (.iload_n 1, 1) := by decide +kernel
theorem dX8_unitOf_10 : decode cX8_unitOf 10 = .ok (.imul, 1) := by decide +kernel
theorem dX8_unitOf_11 : decode cX8_unitOf 11 = .ok (.invokevirtual 93, 3) := by decide +kernel
theorem dX8_unitOf_14 : decode cX8_unitOf 14 = .ok (.lreturn, 1) := by decide +kernel
theorem dX8_isLarge_0 : decode cX8_isLarge 0 = .ok (.lconst 1, 1) := by decide +kernel
theorem dX8_isLarge_1 : decode cX8_isLarge 1 = .ok (.lstore_n 1, 1) := by decide +kernel
theorem dX8_isLarge_2 : decode cX8_isLarge 2 = .ok (.iconst 0, 1) := by decide +kernel
theorem dX8_isLarge_3 : decode cX8_isLarge 3 = .ok (.istore_n 3, 1) := by decide +kernel
theorem dX8_isLarge_4 : decode cX8_isLarge 4 = .ok (.iload_n 3, 1) := by decide +kernel
theorem dX8_isLarge_5 : decode cX8_isLarge 5 = .ok (.aload_n 0, 1) := by decide +kernel
theorem dX8_isLarge_6 : decode cX8_isLarge 6 = .ok (.getfield 16, 3) := by decide +kernel
theorem dX8_isLarge_9 : decode cX8_isLarge 9 = .ok (.aload_n 0, 1) := by decide +kernel
theorem dX8_isLarge_10 : decode cX8_isLarge 10 = .ok (.getfield 86, 3) := by decide +kernel
theorem dX8_isLarge_13 : decode cX8_isLarge 13 = .ok (.imul, 1) := by decide +kernel
theorem dX8_isLarge_14 : decode cX8_isLarge 14 = .ok (.if_icmp .ge 26, 3) := by decide +kernel
theorem dX8_isLarge_17 : decode cX8_isLarge 17 = .ok (.lload_n 1, 1) := by decide +kernel
theorem dX8_isLarge_18 : decode cX8_isLarge 18 = .ok (.aload_n 0, 1) := by decide +kernel
theorem dX8_isLarge_19 : decode cX8_isLarge 19 = .ok (.getfield 89, 3) := by decide +kernel
theorem dX8_isLarge_22 : decode cX8_isLarge 22 = .ok (.lmul, 1) := by decide +kernel
theorem dX8_isLarge_23 : decode cX8_isLarge 23 = .ok (.lstore_n 1, 1) := by decide +kernel
theorem dX8_isLarge_24 : decode cX8_isLarge 24 = .ok (.lload_n 1, 1) := by decide +kernel
theorem dX8_isLarge_25 : decode cX8_isLarge 25 = .ok (.ldc2_w 97, 3) := by decide +kernel
theorem dX8_isLarge_28 : decode cX8_isLarge 28 = .ok (.lcmp, 1) := by decide +kernel
theorem dX8_isLarge_29 : decode cX8_isLarge 29 = .ok (.ifCond .le 5, 3) := by decide +kernel
theorem dX8_isLarge_32 : decode cX8_isLarge 32 = .ok (.iconst 1, 1) := by decide +kernel
theorem dX8_isLarge_33 : decode cX8_isLarge 33 = .ok (.ireturn, 1) := by decide +kernel
theorem dX8_isLarge_34 : decode cX8_isLarge 34 = .ok (.iinc 3 1, 3) := by decide +kernel
theorem dX8_isLarge_37 : decode cX8_isLarge 37 = .ok (.goto (-33), 3) := by decide +kernel
theorem dX8_isLarge_40 : decode cX8_isLarge 40 = .ok (.iconst 0, 1) := by decide +kernel
theorem dX8_isLarge_41 : decode cX8_isLarge 41 = .ok (.ireturn, 1) := by decide +kernel
theorem dX8_findTurn_0 : decode cX8_findTurn 0 = .ok (.iconst 1, 1) := by decide +kernel
theorem dX8_findTurn_1 : decode cX8_findTurn 1 = .ok (.istore_n 1, 1) := by decide +kernel
theorem dX8_findTurn_2 : decode cX8_findTurn 2 = .ok (.iload_n 1, 1) := by decide +kernel
theorem dX8_findTurn_3 : decode cX8_findTurn 3 = .ok (.aload_n 0, 1) := by decide +kernel
theorem dX8_findTurn_4 : decode cX8_findTurn 4 = .ok (.getfield 16, 3) := by decide +kernel
theorem dX8_findTurn_7 : decode cX8_findTurn 7 = .ok (.if_icmp .ge 126, 3) := by decide +kernel
theorem dX8_findTurn_10 : decode cX8_findTurn 10 = .ok (.aload_n 0, 1) := by decide +kernel
theorem dX8_findTurn_11 : decode cX8_findTurn 11 = .ok (.iload_n 1, 1) := by decide +kernel
theorem dX8_findTurn_12 : decode cX8_findTurn 12 = .ok (.invokevirtual 99, 3) := by decide +kernel
theorem dX8_findTurn_15 : decode cX8_findTurn 15 = .ok (.iconst 0, 1) := by decide +kernel
theorem dX8_findTurn_16 : decode cX8_findTurn 16 = .ok (.istore_n 2, 1) := by decide +kernel
theorem dX8_findTurn_17 : decode cX8_findTurn 17 = .ok (.iload_n 2, 1) := by decide +kernel
theorem dX8_findTurn_18 : decode cX8_findTurn 18 = .ok (.aload_n 0, 1) := by decide +kernel
theorem dX8_findTurn_19 : decode cX8_findTurn 19 = .ok (.getfield 71, 3) := by decide +kernel
theorem dX8_findTurn_22 : decode cX8_findTurn 22 = .ok (.if_icmp .ge 105, 3) := by decide +kernel
theorem dX8_findTurn_25 : decode cX8_findTurn 25 = .ok (.aload_n 0, 1) := by decide +kernel
theorem dX8_findTurn_26 : decode cX8_findTurn 26 = .ok (.getfield 32, 3) := by decide +kernel
theorem dX8_findTurn_29 : decode cX8_findTurn 29 = .ok (.iload_n 2, 1) := by decide +kernel
theorem dX8_findTurn_30 : decode cX8_findTurn 30 = .ok (.iaload, 1) := by decide +kernel
theorem dX8_findTurn_31 : decode cX8_findTurn 31 = .ok (.aload_n 0, 1) := by decide +kernel
theorem dX8_findTurn_32 : decode cX8_findTurn 32 = .ok (.getfield 7, 3) := by decide +kernel
theorem dX8_findTurn_35 : decode cX8_findTurn 35 = .ok (.if_icmp .ne 86, 3) := by decide +kernel
theorem dX8_findTurn_38 : decode cX8_findTurn 38 = .ok (.lconst 0, 1) := by decide +kernel
theorem dX8_findTurn_39 : decode cX8_findTurn 39 = .ok (.lstore_n 3, 1) := by decide +kernel
theorem dX8_findTurn_40 : decode cX8_findTurn 40 = .ok (.iconst 0, 1) := by decide +kernel
theorem dX8_findTurn_41 : decode cX8_findTurn 41 = .ok (.istore 5, 2) := by decide +kernel
theorem dX8_findTurn_43 : decode cX8_findTurn 43 = .ok (.iload 5, 2) := by decide +kernel
theorem dX8_findTurn_45 : decode cX8_findTurn 45 = .ok (.aload_n 0, 1) := by decide +kernel
theorem dX8_findTurn_46 : decode cX8_findTurn 46 = .ok (.getfield 71, 3) := by decide +kernel
theorem dX8_findTurn_49 : decode cX8_findTurn 49 = .ok (.if_icmp .ge 59, 3) := by decide +kernel
theorem dX8_findTurn_52 : decode cX8_findTurn 52 = .ok (.aload_n 0, 1) := by decide +kernel
theorem dX8_findTurn_53 : decode cX8_findTurn 53 = .ok (.iload 5, 2) := by decide +kernel
theorem dX8_findTurn_55 : decode cX8_findTurn 55 = .ok (.iload_n 2, 1) := by decide +kernel
theorem dX8_findTurn_56 : decode cX8_findTurn 56 = .ok (.invokevirtual 103, 3) := by decide +kernel
theorem dX8_findTurn_59 : decode cX8_findTurn 59 = .ok (.ifCond .eq 26, 3) := by decide +kernel
theorem dX8_findTurn_62 : decode cX8_findTurn 62 = .ok (.aload_n 0, 1) := by decide +kernel
theorem dX8_findTurn_63 : decode cX8_findTurn 63 = .ok (.getfield 57, 3) := by decide +kernel
theorem dX8_findTurn_66 : decode cX8_findTurn 66 = .ok (.iload 5, 2) := by decide +kernel
theorem dX8_findTurn_68 : decode cX8_findTurn 68 = .ok (.laload, 1) := by decide +kernel
theorem dX8_findTurn_69 : decode cX8_findTurn 69 = .ok (.aload_n 0, 1) := by decide +kernel
theorem dX8_findTurn_70 : decode cX8_findTurn 70 = .ok (.getfield 47, 3) := by decide +kernel
theorem dX8_findTurn_73 : decode cX8_findTurn 73 = .ok (.aload_n 0, 1) := by decide +kernel
theorem dX8_findTurn_74 : decode cX8_findTurn 74 = .ok (.getfield 32, 3) := by decide +kernel
theorem dX8_findTurn_77 : decode cX8_findTurn 77 = .ok (.iload 5, 2) := by decide +kernel
theorem dX8_findTurn_79 : decode cX8_findTurn 79 = .ok (.iaload, 1) := by decide +kernel
theorem dX8_findTurn_80 : decode cX8_findTurn 80 = .ok (.laload, 1) := by decide +kernel
theorem dX8_findTurn_81 : decode cX8_findTurn 81 = .ok (.lmul, 1) := by decide +kernel
theorem dX8_findTurn_82 : decode cX8_findTurn 82 = .ok (.goto 4, 3) := by decide +kernel
theorem dX8_findTurn_85 : decode cX8_findTurn 85 = .ok (.lconst 0, 1) := by decide +kernel
theorem dX8_findTurn_86 : decode cX8_findTurn 86 = .ok (.lstore 6, 2) := by decide +kernel
theorem dX8_findTurn_88 : decode cX8_findTurn 88 = .ok (.lload 6, 2) := by decide +kernel
theorem dX8_findTurn_90 : decode cX8_findTurn 90 = .ok (.lload_n 3, 1) := by decide +kernel
theorem dX8_findTurn_91 : decode cX8_findTurn 91 = .ok (.lcmp, 1) := by decide +kernel
theorem dX8_findTurn_92 : decode cX8_findTurn 92 = .ok (.ifCond .le 8, 3) := by decide +kernel
theorem dX8_findTurn_95 : decode cX8_findTurn 95 = .ok (.lload 6, 2) := by decide +kernel
theorem dX8_findTurn_97 : decode cX8_findTurn 97 = .ok (.goto 4, 3) := by decide +kernel
theorem dX8_findTurn_100 : decode cX8_findTurn 100 = .ok (.lload_n 3, 1) := by decide +kernel
theorem dX8_findTurn_101 : decode cX8_findTurn 101 = .ok (.lstore_n 3, 1) := by decide +kernel
theorem dX8_findTurn_102 : decode cX8_findTurn 102 = .ok (.iinc 5 1, 3) := by decide +kernel
theorem dX8_findTurn_105 : decode cX8_findTurn 105 = .ok (.goto (-62), 3) := by decide +kernel
theorem dX8_findTurn_108 : decode cX8_findTurn 108 = .ok (.aload_n 0, 1) := by decide +kernel
theorem dX8_findTurn_109 : decode cX8_findTurn 109 = .ok (.getfield 54, 3) := by decide +kernel
theorem dX8_findTurn_112 : decode cX8_findTurn 112 = .ok (.sipush 462, 3) := by decide +kernel
theorem dX8_findTurn_115 : decode cX8_findTurn 115 = .ok (.iload_n 1, 1) := by decide +kernel
theorem dX8_findTurn_116 : decode cX8_findTurn 116 = .ok (.imul, 1) := by decide +kernel
theorem dX8_findTurn_117 : decode cX8_findTurn 117 = .ok (.iload_n 2, 1) := by decide +kernel
theorem dX8_findTurn_118 : decode cX8_findTurn 118 = .ok (.iadd, 1) := by decide +kernel
theorem dX8_findTurn_119 : decode cX8_findTurn 119 = .ok (.lload_n 3, 1) := by decide +kernel
theorem dX8_findTurn_120 : decode cX8_findTurn 120 = .ok (.lastore, 1) := by decide +kernel
theorem dX8_findTurn_121 : decode cX8_findTurn 121 = .ok (.iinc 2 1, 3) := by decide +kernel
theorem dX8_findTurn_124 : decode cX8_findTurn 124 = .ok (.goto (-107), 3) := by decide +kernel
theorem dX8_findTurn_127 : decode cX8_findTurn 127 = .ok (.iinc 1 1, 3) := by decide +kernel
theorem dX8_findTurn_130 : decode cX8_findTurn 130 = .ok (.goto (-128), 3) := by decide +kernel
theorem dX8_findTurn_133 : decode cX8_findTurn 133 = .ok (.return_, 1) := by decide +kernel
theorem dX8_findThrown_0 : decode cX8_findThrown 0 = .ok (.aload_n 0, 1) := by decide +kernel
theorem dX8_findThrown_1 : decode cX8_findThrown 1 = .ok (.getfield 71, 3) := by decide +kernel
theorem dX8_findThrown_4 : decode cX8_findThrown 4 = .ok (.iconst 1, 1) := by decide +kernel
theorem dX8_findThrown_5 : decode cX8_findThrown 5 = .ok (.isub, 1) := by decide +kernel
theorem dX8_findThrown_6 : decode cX8_findThrown 6 = .ok (.istore_n 2, 1) := by decide +kernel
theorem dX8_findThrown_7 : decode cX8_findThrown 7 = .ok (.iload_n 2, 1) := by decide +kernel
theorem dX8_findThrown_8 : decode cX8_findThrown 8 = .ok (.ifCond .lt 100, 3) := by decide +kernel
theorem dX8_findThrown_11 : decode cX8_findThrown 11 = .ok (.aload_n 0, 1) := by decide +kernel
theorem dX8_findThrown_12 : decode cX8_findThrown 12 = .ok (.getfield 57, 3) := by decide +kernel
theorem dX8_findThrown_15 : decode cX8_findThrown 15 = .ok (.iload_n 2, 1) := by decide +kernel
theorem dX8_findThrown_16 : decode cX8_findThrown 16 = .ok (.aload_n 0, 1) := by decide +kernel
theorem dX8_findThrown_17 : decode cX8_findThrown 17 = .ok (.getfield 32, 3) := by decide +kernel
theorem dX8_findThrown_20 : decode cX8_findThrown 20 = .ok (.iload_n 2, 1) := by decide +kernel
theorem dX8_findThrown_21 : decode cX8_findThrown 21 = .ok (.iaload, 1) := by decide +kernel
theorem dX8_findThrown_22 : decode cX8_findThrown 22 = .ok (.aload_n 0, 1) := by decide +kernel
theorem dX8_findThrown_23 : decode cX8_findThrown 23 = .ok (.getfield 7, 3) := by decide +kernel
theorem dX8_findThrown_26 : decode cX8_findThrown 26 = .ok (.if_icmp .ne 20, 3) := by decide +kernel
theorem dX8_findThrown_29 : decode cX8_findThrown 29 = .ok (.aload_n 0, 1) := by decide +kernel
theorem dX8_findThrown_30 : decode cX8_findThrown 30 = .ok (.getfield 54, 3) := by decide +kernel
theorem dX8_findThrown_33 : decode cX8_findThrown 33 = .ok (.sipush 462, 3) := by decide +kernel
theorem dX8_findThrown_36 : decode cX8_findThrown 36 = .ok (.iload_n 1, 1) := by decide +kernel
theorem dX8_findThrown_37 : decode cX8_findThrown 37 = .ok (.iconst 1, 1) := by decide +kernel
theorem dX8_findThrown_38 : decode cX8_findThrown 38 = .ok (.isub, 1) := by decide +kernel
theorem dX8_findThrown_39 : decode cX8_findThrown 39 = .ok (.imul, 1) := by decide +kernel
theorem dX8_findThrown_40 : decode cX8_findThrown 40 = .ok (.iload_n 2, 1) := by decide +kernel
theorem dX8_findThrown_41 : decode cX8_findThrown 41 = .ok (.iadd, 1) := by decide +kernel
theorem dX8_findThrown_42 : decode cX8_findThrown 42 = .ok (.laload, 1) := by decide +kernel
theorem dX8_findThrown_43 : decode cX8_findThrown 43 = .ok (.goto 4, 3) := by decide +kernel
theorem dX8_findThrown_46 : decode cX8_findThrown 46 = .ok (.lconst 0, 1) := by decide +kernel
theorem dX8_findThrown_47 : decode cX8_findThrown 47 = .ok (.lastore, 1) := by decide +kernel
theorem dX8_findThrown_48 : decode cX8_findThrown 48 = .ok (.iconst 0, 1) := by decide +kernel
theorem dX8_findThrown_49 : decode cX8_findThrown 49 = .ok (.istore_n 3, 1) := by decide +kernel
theorem dX8_findThrown_50 : decode cX8_findThrown 50 = .ok (.iload_n 3, 1) := by decide +kernel
theorem dX8_findThrown_51 : decode cX8_findThrown 51 = .ok (.aload_n 0, 1) := by decide +kernel
theorem dX8_findThrown_52 : decode cX8_findThrown 52 = .ok (.getfield 13, 3) := by decide +kernel
theorem dX8_findThrown_55 : decode cX8_findThrown 55 = .ok (.if_icmp .ge 47, 3) := by decide +kernel
theorem dX8_findThrown_58 : decode cX8_findThrown 58 = .ok (.aload_n 0, 1) := by decide +kernel
theorem dX8_findThrown_59 : decode cX8_findThrown 59 = .ok (.getfield 32, 3) := by decide +kernel
theorem dX8_findThrown_62 : decode cX8_findThrown 62 = .ok (.iload_n 2, 1) := by decide +kernel
theorem dX8_findThrown_63 : decode cX8_findThrown 63 = .ok (.iaload, 1) := by decide +kernel
theorem dX8_findThrown_64 : decode cX8_findThrown 64 = .ok (.aload_n 0, 1) := by decide +kernel
theorem dX8_findThrown_65 : decode cX8_findThrown 65 = .ok (.getfield 7, 3) := by decide +kernel
theorem dX8_findThrown_68 : decode cX8_findThrown 68 = .ok (.if_icmp .ge 34, 3) := by decide +kernel
theorem dX8_findThrown_71 : decode cX8_findThrown 71 = .ok (.aload_n 0, 1) := by decide +kernel
theorem dX8_findThrown_72 : decode cX8_findThrown 72 = .ok (.getfield 57, 3) := by decide +kernel
theorem dX8_findThrown_75 : decode cX8_findThrown 75 = .ok (.iload_n 2, 1) := by decide +kernel
theorem dX8_findThrown_76 : decode cX8_findThrown 76 = .ok (.dup2, 1) := by decide +kernel
theorem dX8_findThrown_77 : decode cX8_findThrown 77 = .ok (.laload, 1) := by decide +kernel
theorem dX8_findThrown_78 : decode cX8_findThrown 78 = .ok (.aload_n 0, 1) := by decide +kernel
theorem dX8_findThrown_79 : decode cX8_findThrown 79 = .ok (.getfield 57, 3) := by decide +kernel
theorem dX8_findThrown_82 : decode cX8_findThrown 82 = .ok (.aload_n 0, 1) := by decide +kernel
theorem dX8_findThrown_83 : decode cX8_findThrown 83 = .ok (.getfield 38, 3) := by decide +kernel
theorem dX8_findThrown_86 : decode cX8_findThrown 86 = .ok (.bipush 6, 2) := by decide +kernel
theorem dX8_findThrown_88 : decode cX8_findThrown 88 = .ok (.iload_n 2, 1) := by decide +kernel
theorem dX8_findThrown_89 : decode cX8_findThrown 89 = .ok (.imul, 1) := by decide +kernel
theorem dX8_findThrown_90 : decode cX8_findThrown 90 = .ok (.iload_n 3, 1) := by decide +kernel
theorem dX8_findThrown_91 : decode cX8_findThrown 91 = .ok (.iadd, 1) := by decide +kernel
theorem dX8_findThrown_92 : decode cX8_findThrown 92 = .ok (.iaload, 1) := by decide +kernel
theorem dX8_findThrown_93 : decode cX8_findThrown 93 = .ok (.laload, 1) := by decide +kernel
theorem dX8_findThrown_94 : decode cX8_findThrown 94 = .ok (.ladd, 1) := by decide +kernel
theorem dX8_findThrown_95 : decode cX8_findThrown 95 = .ok (.lastore, 1) := by decide +kernel
theorem dX8_findThrown_96 : decode cX8_findThrown 96 = .ok (.iinc 3 1, 3) := by decide +kernel
theorem dX8_findThrown_99 : decode cX8_findThrown 99 = .ok (.goto (-49), 3) := by decide +kernel
theorem dX8_findThrown_102 : decode cX8_findThrown 102 = .ok (.iinc 2 (-1), 3) := by decide +kernel
theorem dX8_findThrown_105 : decode cX8_findThrown 105 = .ok (.goto (-98), 3) := by decide +kernel
theorem dX8_findThrown_108 : decode cX8_findThrown 108 = .ok (.return_, 1) := by decide +kernel
theorem dX8_isPart_0 : decode cX8_isPart 0 = .ok (.iconst 1, 1) := by decide +kernel
theorem dX8_isPart_1 : decode cX8_isPart 1 = .ok (.istore_n 3, 1) := by decide +kernel
theorem dX8_isPart_2 : decode cX8_isPart 2 = .ok (.iconst 0, 1) := by decide +kernel
theorem dX8_isPart_3 : decode cX8_isPart 3 = .ok (.istore 4, 2) := by decide +kernel
theorem dX8_isPart_5 : decode cX8_isPart 5 = .ok (.iload 4, 2) := by decide +kernel
theorem dX8_isPart_7 : decode cX8_isPart 7 = .ok (.bipush 6, 2) := by decide +kernel
theorem dX8_isPart_9 : decode cX8_isPart 9 = .ok (.if_icmp .ge 46, 3) := by decide +kernel
theorem dX8_isPart_12 : decode cX8_isPart 12 = .ok (.iload_n 3, 1) := by decide +kernel
theorem dX8_isPart_13 : decode cX8_isPart 13 = .ok (.ifCond .eq 42, 3) := by decide +kernel
theorem dX8_isPart_16 : decode cX8_isPart 16 = .ok (.aload_n 0, 1) := by decide +kernel
theorem dX8_isPart_17 : decode cX8_isPart 17 = .ok (.getfield 29, 3) := by decide +kernel
theorem dX8_isPart_20 : decode cX8_isPart 20 = .ok (.bipush 6, 2) := by decide +kernel
theorem dX8_isPart_22 : decode cX8_isPart 22 = .ok (.iload_n 1, 1) := by decide +kernel
theorem dX8_isPart_23 : decode cX8_isPart 23 = .ok (.imul, 1) := by decide +kernel
theorem dX8_isPart_24 : decode cX8_isPart 24 = .ok (.iload 4, 2) := by decide +kernel
theorem dX8_isPart_26 : decode cX8_isPart 26 = .ok (.iadd, 1) := by decide +kernel
theorem dX8_isPart_27 : decode cX8_isPart 27 = .ok (.iaload, 1) := by decide +kernel
theorem dX8_isPart_28 : decode cX8_isPart 28 = .ok (.aload_n 0, 1) := by decide +kernel
theorem dX8_isPart_29 : decode cX8_isPart 29 = .ok (.getfield 29, 3) := by decide +kernel
theorem dX8_isPart_32 : decode cX8_isPart 32 = .ok (.bipush 6, 2) := by decide +kernel
theorem dX8_isPart_34 : decode cX8_isPart 34 = .ok (.iload_n 2, 1) := by decide +kernel
theorem dX8_isPart_35 : decode cX8_isPart 35 = .ok (.imul, 1) := by decide +kernel
theorem dX8_isPart_36 : decode cX8_isPart 36 = .ok (.iload 4, 2) := by decide +kernel
theorem dX8_isPart_38 : decode cX8_isPart 38 = .ok (.iadd, 1) := by decide +kernel
theorem dX8_isPart_39 : decode cX8_isPart 39 = .ok (.iaload, 1) := by decide +kernel
theorem dX8_isPart_40 : decode cX8_isPart 40 = .ok (.if_icmp .gt 7, 3) := by decide +kernel
theorem dX8_isPart_43 : decode cX8_isPart 43 = .ok (.iconst 1, 1) := by decide +kernel
theorem dX8_isPart_44 : decode cX8_isPart 44 = .ok (.goto 4, 3) := by decide +kernel
theorem dX8_isPart_47 : decode cX8_isPart 47 = .ok (.iconst 0, 1) := by decide +kernel

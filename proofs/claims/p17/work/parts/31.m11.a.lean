theorem dX10_make_0 : decode cX10_make 0 = .ok (.lconst 0, 1) := by decide +kernel
theorem dX10_make_1 : decode cX10_make 1 = .ok (.lstore_n 2, 1) := by decide +kernel
theorem dX10_make_2 : decode cX10_make 2 = .ok (.lconst 1, 1) := by decide +kernel
theorem dX10_make_3 : decode cX10_make 3 = .ok (.lstore 4, 2) := by decide +kernel
theorem dX10_make_5 : decode cX10_make 5 = .ok (.lconst 0, 1) := by decide +kernel
theorem dX10_make_6 : decode cX10_make 6 = .ok (.lstore 6, 2) := by decide +kernel
theorem dX10_make_8 : decode cX10_make 8 = .ok (.iconst 0, 1) := by decide +kernel
theorem dX10_make_9 : decode cX10_make 9 = .ok (.istore 8, 2) := by decide +kernel
theorem dX10_make_11 : decode cX10_make 11 = .ok (.iload 8, 2) := by decide +kernel
theorem dX10_make_13 : decode cX10_make 13 = .ok (.aload_n 0, 1) := by decide +kernel
theorem dX10_make_14 : decode cX10_make 14 = .ok (.getfield 43, 3) := by decide +kernel
theorem dX10_make_17 : decode cX10_make 17 = .ok (.iload_n 1, 1) := by decide +kernel
theorem dX10_make_18 : decode cX10_make 18 = .ok (.iaload, 1) := by decide +kernel
theorem dX10_make_19 : decode cX10_make 19 = .ok (.if_icmp .ge 21, 3) := by decide +kernel
theorem dX10_make_22 : decode cX10_make 22 = .ok (.aload_n 0, 1) := by decide +kernel
theorem dX10_make_23 : decode cX10_make 23 = .ok (.getfield 119, 3) := by decide +kernel
theorem dX10_make_26 : decode cX10_make 26 = .ok (.iload 8, 2) := by decide +kernel
theorem dX10_make_28 : decode cX10_make 28 = .ok (.iaload, 1) := by decide +kernel
theorem dX10_make_29 : decode cX10_make 29 = .ok (.ifCond .ge 5, 3) := by decide +kernel
theorem dX10_make_32 : decode cX10_make 32 = .ok (.iconst 3, 1) := by decide +kernel
theorem dX10_make_33 : decode cX10_make 33 = .ok (.ireturn, 1) := by decide +kernel
theorem dX10_make_34 : decode cX10_make 34 = .ok (.iinc 8 1, 3) := by decide +kernel
theorem dX10_make_37 : decode cX10_make 37 = .ok (.goto (-26), 3) := by decide +kernel
theorem dX10_make_40 : decode cX10_make 40 = .ok (.iconst 0, 1) := by decide +kernel
theorem dX10_make_41 : decode cX10_make 41 = .ok (.istore 8, 2) := by decide +kernel
theorem dX10_make_43 : decode cX10_make 43 = .ok (.iload 8, 2) := by decide +kernel
theorem dX10_make_45 : decode cX10_make 45 = .ok (.aload_n 0, 1) := by decide +kernel
theorem dX10_make_46 : decode cX10_make 46 = .ok (.getfield 43, 3) := by decide +kernel
theorem dX10_make_49 : decode cX10_make 49 = .ok (.iload_n 1, 1) := by decide +kernel
theorem dX10_make_50 : decode cX10_make 50 = .ok (.iaload, 1) := by decide +kernel
theorem dX10_make_51 : decode cX10_make 51 = .ok (.if_icmp .ge 45, 3) := by decide +kernel
theorem dX10_make_54 : decode cX10_make 54 = .ok (.lload 6, 2) := by decide +kernel
theorem dX10_make_56 : decode cX10_make 56 = .ok (.lload 4, 2) := by decide +kernel
theorem dX10_make_58 : decode cX10_make 58 = .ok (.ladd, 1) := by decide +kernel
theorem dX10_make_59 : decode cX10_make 59 = .ok (.lstore 6, 2) := by decide +kernel
theorem dX10_make_61 : decode cX10_make 61 = .ok (.lload 4, 2) := by decide +kernel
theorem dX10_make_63 : decode cX10_make 63 = .ok (.aload_n 0, 1) := by decide +kernel
theorem dX10_make_64 : decode cX10_make 64 = .ok (.getfield 119, 3) := by decide +kernel
theorem dX10_make_67 : decode cX10_make 67 = .ok (.iload 8, 2) := by decide +kernel
theorem dX10_make_69 : decode cX10_make 69 = .ok (.iaload, 1) := by decide +kernel
theorem dX10_make_70 : decode cX10_make 70 = .ok (.i2l, 1) := by decide +kernel
theorem dX10_make_71 : decode cX10_make 71 = .ok (.lmul, 1) := by decide +kernel
theorem dX10_make_72 : decode cX10_make 72 = .ok (.lstore 4, 2) := by decide +kernel
theorem dX10_make_74 : decode cX10_make 74 = .ok (.lload_n 2, 1) := by decide +kernel
theorem dX10_make_75 : decode cX10_make 75 = .ok (.lload 4, 2) := by decide +kernel
theorem dX10_make_77 : decode cX10_make 77 = .ok (.ladd, 1) := by decide +kernel
theorem dX10_make_78 : decode cX10_make 78 = .ok (.lstore_n 2, 1) := by decide +kernel
theorem dX10_make_79 : decode cX10_make 79 = .ok (.lload_n 2, 1) := by decide +kernel
theorem dX10_make_80 : decode cX10_make 80 = .ok (.ldc2_w 537, 3) := by decide +kernel
theorem dX10_make_83 : decode cX10_make 83 = .ok (.lcmp, 1) := by decide +kernel
theorem dX10_make_84 : decode cX10_make 84 = .ok (.ifCond .le 6, 3) := by decide +kernel
theorem dX10_make_87 : decode cX10_make 87 = .ok (.bipush 7, 2) := by decide +kernel
theorem dX10_make_89 : decode cX10_make 89 = .ok (.ireturn, 1) := by decide +kernel
theorem dX10_make_90 : decode cX10_make 90 = .ok (.iinc 8 1, 3) := by decide +kernel
theorem dX10_make_93 : decode cX10_make 93 = .ok (.goto (-50), 3) := by decide +kernel
theorem dX10_make_96 : decode cX10_make 96 = .ok (.aload_n 0, 1) := by decide +kernel
theorem dX10_make_97 : decode cX10_make 97 = .ok (.lload 6, 2) := by decide +kernel
theorem dX10_make_99 : decode cX10_make 99 = .ok (.lload_n 2, 1) := by decide +kernel
theorem dX10_make_100 : decode cX10_make 100 = .ok (.invokevirtual 546, 3) := by decide +kernel
theorem dX10_make_103 : decode cX10_make 103 = .ok (.ifCond .ne 6, 3) := by decide +kernel
theorem dX10_make_106 : decode cX10_make 106 = .ok (.bipush 7, 2) := by decide +kernel
theorem dX10_make_108 : decode cX10_make 108 = .ok (.ireturn, 1) := by decide +kernel
theorem dX10_make_109 : decode cX10_make 109 = .ok (.aload_n 0, 1) := by decide +kernel
theorem dX10_make_110 : decode cX10_make 110 = .ok (.aload_n 0, 1) := by decide +kernel
theorem dX10_make_111 : decode cX10_make 111 = .ok (.getfield 40, 3) := by decide +kernel
theorem dX10_make_114 : decode cX10_make 114 = .ok (.iload_n 1, 1) := by decide +kernel
theorem dX10_make_115 : decode cX10_make 115 = .ok (.iaload, 1) := by decide +kernel
theorem dX10_make_116 : decode cX10_make 116 = .ok (.aload_n 0, 1) := by decide +kernel
theorem dX10_make_117 : decode cX10_make 117 = .ok (.getfield 119, 3) := by decide +kernel
theorem dX10_make_120 : decode cX10_make 120 = .ok (.iconst 0, 1) := by decide +kernel
theorem dX10_make_121 : decode cX10_make 121 = .ok (.iaload, 1) := by decide +kernel
theorem dX10_make_122 : decode cX10_make 122 = .ok (.invokevirtual 550, 3) := by decide +kernel
theorem dX10_make_125 : decode cX10_make 125 = .ok (.istore 8, 2) := by decide +kernel
theorem dX10_make_127 : decode cX10_make 127 = .ok (.iload 8, 2) := by decide +kernel
theorem dX10_make_129 : decode cX10_make 129 = .ok (.istore 9, 2) := by decide +kernel
theorem dX10_make_131 : decode cX10_make 131 = .ok (.iconst 1, 1) := by decide +kernel
theorem dX10_make_132 : decode cX10_make 132 = .ok (.istore 10, 2) := by decide +kernel
theorem dX10_make_134 : decode cX10_make 134 = .ok (.iconst 1, 1) := by decide +kernel
theorem dX10_make_135 : decode cX10_make 135 = .ok (.istore 11, 2) := by decide +kernel
theorem dX10_make_137 : decode cX10_make 137 = .ok (.iload 11, 2) := by decide +kernel
theorem dX10_make_139 : decode cX10_make 139 = .ok (.aload_n 0, 1) := by decide +kernel
theorem dX10_make_140 : decode cX10_make 140 = .ok (.getfield 43, 3) := by decide +kernel
theorem dX10_make_143 : decode cX10_make 143 = .ok (.iload_n 1, 1) := by decide +kernel
theorem dX10_make_144 : decode cX10_make 144 = .ok (.iaload, 1) := by decide +kernel
theorem dX10_make_145 : decode cX10_make 145 = .ok (.if_icmp .ge 119, 3) := by decide +kernel
theorem dX10_make_148 : decode cX10_make 148 = .ok (.aload_n 0, 1) := by decide +kernel
theorem dX10_make_149 : decode cX10_make 149 = .ok (.getfield 472, 3) := by decide +kernel
theorem dX10_make_152 : decode cX10_make 152 = .ok (.istore 12, 2) := by decide +kernel
theorem dX10_make_154 : decode cX10_make 154 = .ok (.iload 9, 2) := by decide +kernel
theorem dX10_make_156 : decode cX10_make 156 = .ok (.istore 13, 2) := by decide +kernel
theorem dX10_make_158 : decode cX10_make 158 = .ok (.iload 13, 2) := by decide +kernel
theorem dX10_make_160 : decode cX10_make 160 = .ok (.iload 9, 2) := by decide +kernel
theorem dX10_make_162 : decode cX10_make 162 = .ok (.iload 10, 2) := by decide +kernel
theorem dX10_make_164 : decode cX10_make 164 = .ok (.iadd, 1) := by decide +kernel
theorem dX10_make_165 : decode cX10_make 165 = .ok (.if_icmp .ge 80, 3) := by decide +kernel
theorem dX10_make_168 : decode cX10_make 168 = .ok (.iconst 0, 1) := by decide +kernel
theorem dX10_make_169 : decode cX10_make 169 = .ok (.istore 14, 2) := by decide +kernel
theorem dX10_make_171 : decode cX10_make 171 = .ok (.iload 14, 2) := by decide +kernel
theorem dX10_make_173 : decode cX10_make 173 = .ok (.aload_n 0, 1) := by decide +kernel
theorem dX10_make_174 : decode cX10_make 174 = .ok (.getfield 83, 3) := by decide +kernel
theorem dX10_make_177 : decode cX10_make 177 = .ok (.iload 13, 2) := by decide +kernel
theorem dX10_make_179 : decode cX10_make 179 = .ok (.iaload, 1) := by decide +kernel
theorem dX10_make_180 : decode cX10_make 180 = .ok (.if_icmp .ge 59, 3) := by decide +kernel
theorem dX10_make_183 : decode cX10_make 183 = .ok (.aload_n 0, 1) := by decide +kernel
theorem dX10_make_184 : decode cX10_make 184 = .ok (.aload_n 0, 1) := by decide +kernel
theorem dX10_make_185 : decode cX10_make 185 = .ok (.getfield 40, 3) := by decide +kernel
theorem dX10_make_188 : decode cX10_make 188 = .ok (.iload_n 1, 1) := by decide +kernel
theorem dX10_make_189 : decode cX10_make 189 = .ok (.iaload, 1) := by decide +kernel
theorem dX10_make_190 : decode cX10_make 190 = .ok (.bipush 20, 2) := by decide +kernel
theorem dX10_make_192 : decode cX10_make 192 = .ok (.iload 11, 2) := by decide +kernel
theorem dX10_make_194 : decode cX10_make 194 = .ok (.imul, 1) := by decide +kernel
theorem dX10_make_195 : decode cX10_make 195 = .ok (.isub, 1) := by decide +kernel
theorem dX10_make_196 : decode cX10_make 196 = .ok (.aload_n 0, 1) := by decide +kernel
theorem dX10_make_197 : decode cX10_make 197 = .ok (.getfield 119, 3) := by decide +kernel
theorem dX10_make_200 : decode cX10_make 200 = .ok (.iload 11, 2) := by decide +kernel
theorem dX10_make_202 : decode cX10_make 202 = .ok (.iaload, 1) := by decide +kernel
theorem dX10_make_203 : decode cX10_make 203 = .ok (.invokevirtual 550, 3) := by decide +kernel
theorem dX10_make_206 : decode cX10_make 206 = .ok (.istore 15, 2) := by decide +kernel
theorem dX10_make_208 : decode cX10_make 208 = .ok (.aload_n 0, 1) := by decide +kernel
theorem dX10_make_209 : decode cX10_make 209 = .ok (.iconst 3, 1) := by decide +kernel
theorem dX10_make_210 : decode cX10_make 210 = .ok (.putfield 493, 3) := by decide +kernel
theorem dX10_make_213 : decode cX10_make 213 = .ok (.aload_n 0, 1) := by decide +kernel
theorem dX10_make_214 : decode cX10_make 214 = .ok (.iconst 0, 1) := by decide +kernel
theorem dX10_make_215 : decode cX10_make 215 = .ok (.putfield 496, 3) := by decide +kernel
theorem dX10_make_218 : decode cX10_make 218 = .ok (.aload_n 0, 1) := by decide +kernel
theorem dX10_make_219 : decode cX10_make 219 = .ok (.iload 15, 2) := by decide +kernel
theorem dX10_make_221 : decode cX10_make 221 = .ok (.i2l, 1) := by decide +kernel
theorem dX10_make_222 : decode cX10_make 222 = .ok (.putfield 499, 3) := by decide +kernel
theorem dX10_make_225 : decode cX10_make 225 = .ok (.aload_n 0, 1) := by decide +kernel
theorem dX10_make_226 : decode cX10_make 226 = .ok (.iload 13, 2) := by decide +kernel
theorem dX10_make_228 : decode cX10_make 228 = .ok (.iload 14, 2) := by decide +kernel
theorem dX10_make_230 : decode cX10_make 230 = .ok (.invokevirtual 543, 3) := by decide +kernel
theorem dX10_make_233 : decode cX10_make 233 = .ok (.iinc 14 1, 3) := by decide +kernel
theorem dX10_make_236 : decode cX10_make 236 = .ok (.goto (-65), 3) := by decide +kernel
theorem dX10_make_239 : decode cX10_make 239 = .ok (.iinc 13 1, 3) := by decide +kernel
theorem dX10_make_242 : decode cX10_make 242 = .ok (.goto (-84), 3) := by decide +kernel
theorem dX10_make_245 : decode cX10_make 245 = .ok (.iload 12, 2) := by decide +kernel
theorem dX10_make_247 : decode cX10_make 247 = .ok (.istore 9, 2) := by decide +kernel
theorem dX10_make_249 : decode cX10_make 249 = .ok (.aload_n 0, 1) := by decide +kernel
theorem dX10_make_250 : decode cX10_make 250 = .ok (.getfield 472, 3) := by decide +kernel
theorem dX10_make_253 : decode cX10_make 253 = .ok (.iload 12, 2) := by decide +kernel
theorem dX10_make_255 : decode cX10_make 255 = .ok (.isub, 1) := by decide +kernel
theorem dX10_make_256 : decode cX10_make 256 = .ok (.istore 10, 2) := by decide +kernel
theorem dX10_make_258 : decode cX10_make 258 = .ok (.iinc 11 1, 3) := by decide +kernel
theorem dX10_make_261 : decode cX10_make 261 = .ok (.goto (-124), 3) := by decide +kernel
theorem dX10_make_264 : decode cX10_make 264 = .ok (.aload_n 0, 1) := by decide +kernel
theorem dX10_make_265 : decode cX10_make 265 = .ok (.iconst 3, 1) := by decide +kernel
theorem dX10_make_266 : decode cX10_make 266 = .ok (.putfield 493, 3) := by decide +kernel
theorem dX10_make_269 : decode cX10_make 269 = .ok (.aload_n 0, 1) := by decide +kernel
theorem dX10_make_270 : decode cX10_make 270 = .ok (.iconst 0, 1) := by decide +kernel
theorem dX10_make_271 : decode cX10_make 271 = .ok (.putfield 496, 3) := by decide +kernel
theorem dX10_make_274 : decode cX10_make 274 = .ok (.aload_n 0, 1) := by decide +kernel
theorem dX10_make_275 : decode cX10_make 275 = .ok (.iload 8, 2) := by decide +kernel
theorem dX10_make_277 : decode cX10_make 277 = .ok (.i2l, 1) := by decide +kernel
theorem dX10_make_278 : decode cX10_make 278 = .ok (.putfield 499, 3) := by decide +kernel
theorem dX10_make_281 : decode cX10_make 281 = .ok (.iconst 0, 1) := by decide +kernel
theorem dX10_make_282 : decode cX10_make 282 = .ok (.ireturn, 1) := by decide +kernel

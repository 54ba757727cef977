theorem dX10_asks_0 : decode cX10_asks 0 = .ok (.aload_n 0, 1) := by decide +kernel
theorem dX10_asks_1 : decode cX10_asks 1 = .ok (.aload_n 0, 1) := by decide +kernel
theorem dX10_asks_2 : decode cX10_asks 2 = .ok (.getfield 34, 3) := by decide +kernel
theorem dX10_asks_5 : decode cX10_asks 5 = .ok (.iload_n 1, 1) := by decide +kernel
theorem dX10_asks_6 : decode cX10_asks 6 = .ok (.iaload, 1) := by decide +kernel
theorem dX10_asks_7 : decode cX10_asks 7 = .ok (.invokevirtual 502, 3) := by decide +kernel
theorem dX10_asks_10 : decode cX10_asks 10 = .ok (.iconst 0, 1) := by decide +kernel
theorem dX10_asks_11 : decode cX10_asks 11 = .ok (.istore_n 2, 1) := by decide +kernel
theorem dX10_asks_12 : decode cX10_asks 12 = .ok (.aload_n 0, 1) := by decide +kernel
theorem dX10_asks_13 : decode cX10_asks 13 = .ok (.getfield 16, 3) := by decide +kernel
theorem dX10_asks_16 : decode cX10_asks 16 = .ok (.iload_n 1, 1) := by decide +kernel
theorem dX10_asks_17 : decode cX10_asks 17 = .ok (.iaload, 1) := by decide +kernel
theorem dX10_asks_18 : decode cX10_asks 18 = .ok (.tableswitch 236 11 15 #[34, 70, 163, 190, 203], 34) := by decide +kernel
theorem dX10_asks_52 : decode cX10_asks 52 = .ok (.aload_n 0, 1) := by decide +kernel
theorem dX10_asks_53 : decode cX10_asks 53 = .ok (.iconst 0, 1) := by decide +kernel
theorem dX10_asks_54 : decode cX10_asks 54 = .ok (.aload_n 0, 1) := by decide +kernel
theorem dX10_asks_55 : decode cX10_asks 55 = .ok (.getfield 493, 3) := by decide +kernel
theorem dX10_asks_58 : decode cX10_asks 58 = .ok (.ifCond .eq 23, 3) := by decide +kernel
theorem dX10_asks_61 : decode cX10_asks 61 = .ok (.aload_n 0, 1) := by decide +kernel
theorem dX10_asks_62 : decode cX10_asks 62 = .ok (.invokevirtual 531, 3) := by decide +kernel
theorem dX10_asks_65 : decode cX10_asks 65 = .ok (.aload_n 0, 1) := by decide +kernel
theorem dX10_asks_66 : decode cX10_asks 66 = .ok (.getfield 40, 3) := by decide +kernel
theorem dX10_asks_69 : decode cX10_asks 69 = .ok (.iload_n 1, 1) := by decide +kernel
theorem dX10_asks_70 : decode cX10_asks 70 = .ok (.iaload, 1) := by decide +kernel
theorem dX10_asks_71 : decode cX10_asks 71 = .ok (.invokestatic 534, 3) := by decide +kernel
theorem dX10_asks_74 : decode cX10_asks 74 = .ok (.ifCond .eq 7, 3) := by decide +kernel
theorem dX10_asks_77 : decode cX10_asks 77 = .ok (.lconst 1, 1) := by decide +kernel
theorem dX10_asks_78 : decode cX10_asks 78 = .ok (.goto 4, 3) := by decide +kernel
theorem dX10_asks_81 : decode cX10_asks 81 = .ok (.lconst 0, 1) := by decide +kernel
theorem dX10_asks_82 : decode cX10_asks 82 = .ok (.invokevirtual 505, 3) := by decide +kernel
theorem dX10_asks_85 : decode cX10_asks 85 = .ok (.goto 245, 3) := by decide +kernel
theorem dX10_asks_88 : decode cX10_asks 88 = .ok (.aload_n 0, 1) := by decide +kernel
theorem dX10_asks_89 : decode cX10_asks 89 = .ok (.getfield 65, 3) := by decide +kernel
theorem dX10_asks_92 : decode cX10_asks 92 = .ok (.aload_n 0, 1) := by decide +kernel
theorem dX10_asks_93 : decode cX10_asks 93 = .ok (.getfield 37, 3) := by decide +kernel
theorem dX10_asks_96 : decode cX10_asks 96 = .ok (.iload_n 1, 1) := by decide +kernel
theorem dX10_asks_97 : decode cX10_asks 97 = .ok (.iaload, 1) := by decide +kernel
theorem dX10_asks_98 : decode cX10_asks 98 = .ok (.iaload, 1) := by decide +kernel
theorem dX10_asks_99 : decode cX10_asks 99 = .ok (.aload_n 0, 1) := by decide +kernel
theorem dX10_asks_100 : decode cX10_asks 100 = .ok (.getfield 493, 3) := by decide +kernel
theorem dX10_asks_103 : decode cX10_asks 103 = .ok (.if_icmp .ne 59, 3) := by decide +kernel
theorem dX10_asks_106 : decode cX10_asks 106 = .ok (.aload_n 0, 1) := by decide +kernel
theorem dX10_asks_107 : decode cX10_asks 107 = .ok (.getfield 493, 3) := by decide +kernel
theorem dX10_asks_110 : decode cX10_asks 110 = .ok (.ifCond .eq 48, 3) := by decide +kernel
theorem dX10_asks_113 : decode cX10_asks 113 = .ok (.aload_n 0, 1) := by decide +kernel
theorem dX10_asks_114 : decode cX10_asks 114 = .ok (.getfield 71, 3) := by decide +kernel
theorem dX10_asks_117 : decode cX10_asks 117 = .ok (.aload_n 0, 1) := by decide +kernel
theorem dX10_asks_118 : decode cX10_asks 118 = .ok (.getfield 37, 3) := by decide +kernel
theorem dX10_asks_121 : decode cX10_asks 121 = .ok (.iload_n 1, 1) := by decide +kernel
theorem dX10_asks_122 : decode cX10_asks 122 = .ok (.iaload, 1) := by decide +kernel
theorem dX10_asks_123 : decode cX10_asks 123 = .ok (.laload, 1) := by decide +kernel
theorem dX10_asks_124 : decode cX10_asks 124 = .ok (.aload_n 0, 1) := by decide +kernel
theorem dX10_asks_125 : decode cX10_asks 125 = .ok (.getfield 499, 3) := by decide +kernel
theorem dX10_asks_128 : decode cX10_asks 128 = .ok (.lcmp, 1) := by decide +kernel
theorem dX10_asks_129 : decode cX10_asks 129 = .ok (.ifCond .ne 33, 3) := by decide +kernel
theorem dX10_asks_132 : decode cX10_asks 132 = .ok (.aload_n 0, 1) := by decide +kernel
theorem dX10_asks_133 : decode cX10_asks 133 = .ok (.getfield 493, 3) := by decide +kernel
theorem dX10_asks_136 : decode cX10_asks 136 = .ok (.iconst 1, 1) := by decide +kernel
theorem dX10_asks_137 : decode cX10_asks 137 = .ok (.if_icmp .ne 21, 3) := by decide +kernel
theorem dX10_asks_140 : decode cX10_asks 140 = .ok (.aload_n 0, 1) := by decide +kernel
theorem dX10_asks_141 : decode cX10_asks 141 = .ok (.getfield 68, 3) := by decide +kernel
theorem dX10_asks_144 : decode cX10_asks 144 = .ok (.aload_n 0, 1) := by decide +kernel
theorem dX10_asks_145 : decode cX10_asks 145 = .ok (.getfield 37, 3) := by decide +kernel
theorem dX10_asks_148 : decode cX10_asks 148 = .ok (.iload_n 1, 1) := by decide +kernel
theorem dX10_asks_149 : decode cX10_asks 149 = .ok (.iaload, 1) := by decide +kernel
theorem dX10_asks_150 : decode cX10_asks 150 = .ok (.iaload, 1) := by decide +kernel
theorem dX10_asks_151 : decode cX10_asks 151 = .ok (.aload_n 0, 1) := by decide +kernel
theorem dX10_asks_152 : decode cX10_asks 152 = .ok (.getfield 496, 3) := by decide +kernel
theorem dX10_asks_155 : decode cX10_asks 155 = .ok (.if_icmp .ne 7, 3) := by decide +kernel
theorem dX10_asks_158 : decode cX10_asks 158 = .ok (.iconst 1, 1) := by decide +kernel
theorem dX10_asks_159 : decode cX10_asks 159 = .ok (.goto 4, 3) := by decide +kernel
theorem dX10_asks_162 : decode cX10_asks 162 = .ok (.iconst 0, 1) := by decide +kernel
theorem dX10_asks_163 : decode cX10_asks 163 = .ok (.istore_n 3, 1) := by decide +kernel
theorem dX10_asks_164 : decode cX10_asks 164 = .ok (.aload_n 0, 1) := by decide +kernel
theorem dX10_asks_165 : decode cX10_asks 165 = .ok (.iconst 0, 1) := by decide +kernel
theorem dX10_asks_166 : decode cX10_asks 166 = .ok (.iload_n 3, 1) := by decide +kernel
theorem dX10_asks_167 : decode cX10_asks 167 = .ok (.ifCond .eq 7, 3) := by decide +kernel
theorem dX10_asks_170 : decode cX10_asks 170 = .ok (.lconst 1, 1) := by decide +kernel
theorem dX10_asks_171 : decode cX10_asks 171 = .ok (.goto 4, 3) := by decide +kernel
theorem dX10_asks_174 : decode cX10_asks 174 = .ok (.lconst 0, 1) := by decide +kernel
theorem dX10_asks_175 : decode cX10_asks 175 = .ok (.invokevirtual 505, 3) := by decide +kernel
theorem dX10_asks_178 : decode cX10_asks 178 = .ok (.goto 152, 3) := by decide +kernel
theorem dX10_asks_181 : decode cX10_asks 181 = .ok (.aload_n 0, 1) := by decide +kernel
theorem dX10_asks_182 : decode cX10_asks 182 = .ok (.invokevirtual 513, 3) := by decide +kernel
theorem dX10_asks_185 : decode cX10_asks 185 = .ok (.istore_n 2, 1) := by decide +kernel
theorem dX10_asks_186 : decode cX10_asks 186 = .ok (.iload_n 2, 1) := by decide +kernel
theorem dX10_asks_187 : decode cX10_asks 187 = .ok (.ifCond .ne 143, 3) := by decide +kernel
theorem dX10_asks_190 : decode cX10_asks 190 = .ok (.aload_n 0, 1) := by decide +kernel
theorem dX10_asks_191 : decode cX10_asks 191 = .ok (.iconst 4, 1) := by decide +kernel
theorem dX10_asks_192 : decode cX10_asks 192 = .ok (.aload_n 0, 1) := by decide +kernel
theorem dX10_asks_193 : decode cX10_asks 193 = .ok (.getfield 83, 3) := by decide +kernel
theorem dX10_asks_196 : decode cX10_asks 196 = .ok (.aload_n 0, 1) := by decide +kernel
theorem dX10_asks_197 : decode cX10_asks 197 = .ok (.getfield 510, 3) := by decide +kernel
theorem dX10_asks_200 : decode cX10_asks 200 = .ok (.iaload, 1) := by decide +kernel
theorem dX10_asks_201 : decode cX10_asks 201 = .ok (.i2l, 1) := by decide +kernel
theorem dX10_asks_202 : decode cX10_asks 202 = .ok (.invokevirtual 505, 3) := by decide +kernel
theorem dX10_asks_205 : decode cX10_asks 205 = .ok (.goto 125, 3) := by decide +kernel
theorem dX10_asks_208 : decode cX10_asks 208 = .ok (.aload_n 0, 1) := by decide +kernel
theorem dX10_asks_209 : decode cX10_asks 209 = .ok (.iconst 4, 1) := by decide +kernel
theorem dX10_asks_210 : decode cX10_asks 210 = .ok (.aload_n 0, 1) := by decide +kernel
theorem dX10_asks_211 : decode cX10_asks 211 = .ok (.invokevirtual 531, 3) := by decide +kernel
theorem dX10_asks_214 : decode cX10_asks 214 = .ok (.i2l, 1) := by decide +kernel
theorem dX10_asks_215 : decode cX10_asks 215 = .ok (.invokevirtual 505, 3) := by decide +kernel
theorem dX10_asks_218 : decode cX10_asks 218 = .ok (.goto 112, 3) := by decide +kernel
theorem dX10_asks_221 : decode cX10_asks 221 = .ok (.aload_n 0, 1) := by decide +kernel
theorem dX10_asks_222 : decode cX10_asks 222 = .ok (.iconst 0, 1) := by decide +kernel
theorem dX10_asks_223 : decode cX10_asks 223 = .ok (.putfield 558, 3) := by decide +kernel
theorem dX10_asks_226 : decode cX10_asks 226 = .ok (.aload_n 0, 1) := by decide +kernel
theorem dX10_asks_227 : decode cX10_asks 227 = .ok (.invokevirtual 561, 3) := by decide +kernel
theorem dX10_asks_230 : decode cX10_asks 230 = .ok (.istore_n 3, 1) := by decide +kernel
theorem dX10_asks_231 : decode cX10_asks 231 = .ok (.aload_n 0, 1) := by decide +kernel
theorem dX10_asks_232 : decode cX10_asks 232 = .ok (.getfield 558, 3) := by decide +kernel
theorem dX10_asks_235 : decode cX10_asks 235 = .ok (.sipush 20000, 3) := by decide +kernel
theorem dX10_asks_238 : decode cX10_asks 238 = .ok (.if_icmp .le 6, 3) := by decide +kernel
theorem dX10_asks_241 : decode cX10_asks 241 = .ok (.bipush 7, 2) := by decide +kernel
theorem dX10_asks_243 : decode cX10_asks 243 = .ok (.ireturn, 1) := by decide +kernel
theorem dX10_asks_244 : decode cX10_asks 244 = .ok (.aload_n 0, 1) := by decide +kernel
theorem dX10_asks_245 : decode cX10_asks 245 = .ok (.iconst 4, 1) := by decide +kernel
theorem dX10_asks_246 : decode cX10_asks 246 = .ok (.iload_n 3, 1) := by decide +kernel
theorem dX10_asks_247 : decode cX10_asks 247 = .ok (.i2l, 1) := by decide +kernel
theorem dX10_asks_248 : decode cX10_asks 248 = .ok (.invokevirtual 505, 3) := by decide +kernel
theorem dX10_asks_251 : decode cX10_asks 251 = .ok (.goto 79, 3) := by decide +kernel
theorem dX10_asks_254 : decode cX10_asks 254 = .ok (.aload_n 0, 1) := by decide +kernel
theorem dX10_asks_255 : decode cX10_asks 255 = .ok (.iconst 0, 1) := by decide +kernel
theorem dX10_asks_256 : decode cX10_asks 256 = .ok (.putfield 558, 3) := by decide +kernel
theorem dX10_asks_259 : decode cX10_asks 259 = .ok (.aload_n 0, 1) := by decide +kernel
theorem dX10_asks_260 : decode cX10_asks 260 = .ok (.getfield 37, 3) := by decide +kernel
theorem dX10_asks_263 : decode cX10_asks 263 = .ok (.iload_n 1, 1) := by decide +kernel
theorem dX10_asks_264 : decode cX10_asks 264 = .ok (.iaload, 1) := by decide +kernel
theorem dX10_asks_265 : decode cX10_asks 265 = .ok (.istore_n 3, 1) := by decide +kernel
theorem dX10_asks_266 : decode cX10_asks 266 = .ok (.aload_n 0, 1) := by decide +kernel
theorem dX10_asks_267 : decode cX10_asks 267 = .ok (.aload_n 0, 1) := by decide +kernel
theorem dX10_asks_268 : decode cX10_asks 268 = .ok (.getfield 493, 3) := by decide +kernel
theorem dX10_asks_271 : decode cX10_asks 271 = .ok (.aload_n 0, 1) := by decide +kernel
theorem dX10_asks_272 : decode cX10_asks 272 = .ok (.getfield 496, 3) := by decide +kernel
theorem dX10_asks_275 : decode cX10_asks 275 = .ok (.aload_n 0, 1) := by decide +kernel
theorem dX10_asks_276 : decode cX10_asks 276 = .ok (.getfield 499, 3) := by decide +kernel
theorem dX10_asks_279 : decode cX10_asks 279 = .ok (.aload_n 0, 1) := by decide +kernel
theorem dX10_asks_280 : decode cX10_asks 280 = .ok (.getfield 65, 3) := by decide +kernel
theorem dX10_asks_283 : decode cX10_asks 283 = .ok (.iload_n 3, 1) := by decide +kernel
theorem dX10_asks_284 : decode cX10_asks 284 = .ok (.iaload, 1) := by decide +kernel
theorem dX10_asks_285 : decode cX10_asks 285 = .ok (.aload_n 0, 1) := by decide +kernel
theorem dX10_asks_286 : decode cX10_asks 286 = .ok (.getfield 68, 3) := by decide +kernel
theorem dX10_asks_289 : decode cX10_asks 289 = .ok (.iload_n 3, 1) := by decide +kernel
theorem dX10_asks_290 : decode cX10_asks 290 = .ok (.iaload, 1) := by decide +kernel
theorem dX10_asks_291 : decode cX10_asks 291 = .ok (.aload_n 0, 1) := by decide +kernel
theorem dX10_asks_292 : decode cX10_asks 292 = .ok (.getfield 71, 3) := by decide +kernel
theorem dX10_asks_295 : decode cX10_asks 295 = .ok (.iload_n 3, 1) := by decide +kernel
theorem dX10_asks_296 : decode cX10_asks 296 = .ok (.laload, 1) := by decide +kernel
theorem dX10_asks_297 : decode cX10_asks 297 = .ok (.invokevirtual 563, 3) := by decide +kernel
theorem dX10_asks_300 : decode cX10_asks 300 = .ok (.istore 4, 2) := by decide +kernel
theorem dX10_asks_302 : decode cX10_asks 302 = .ok (.aload_n 0, 1) := by decide +kernel
theorem dX10_asks_303 : decode cX10_asks 303 = .ok (.getfield 558, 3) := by decide +kernel
theorem dX10_asks_306 : decode cX10_asks 306 = .ok (.sipush 20000, 3) := by decide +kernel
theorem dX10_asks_309 : decode cX10_asks 309 = .ok (.if_icmp .le 6, 3) := by decide +kernel
theorem dX10_asks_312 : decode cX10_asks 312 = .ok (.bipush 7, 2) := by decide +kernel
theorem dX10_asks_314 : decode cX10_asks 314 = .ok (.ireturn, 1) := by decide +kernel
theorem dX10_asks_315 : decode cX10_asks 315 = .ok (.aload_n 0, 1) := by decide +kernel
theorem dX10_asks_316 : decode cX10_asks 316 = .ok (.iconst 0, 1) := by decide +kernel
theorem dX10_asks_317 : decode cX10_asks 317 = .ok (.iload 4, 2) := by decide +kernel
theorem dX10_asks_319 : decode cX10_asks 319 = .ok (.ifCond .eq 7, 3) := by decide +kernel
theorem dX10_asks_322 : decode cX10_asks 322 = .ok (.lconst 1, 1) := by decide +kernel
theorem dX10_asks_323 : decode cX10_asks 323 = .ok (.goto 4, 3) := by decide +kernel
theorem dX10_asks_326 : decode cX10_asks 326 = .ok (.lconst 0, 1) := by decide +kernel
theorem dX10_asks_327 : decode cX10_asks 327 = .ok (.invokevirtual 505, 3) := by decide +kernel
theorem dX10_asks_330 : decode cX10_asks 330 = .ok (.iload_n 2, 1) := by decide +kernel
theorem dX10_asks_331 : decode cX10_asks 331 = .ok (.ifCond .ne 13, 3) := by decide +kernel
theorem dX10_asks_334 : decode cX10_asks 334 = .ok (.aload_n 0, 1) := by decide +kernel
theorem dX10_asks_335 : decode cX10_asks 335 = .ok (.aload_n 0, 1) := by decide +kernel
theorem dX10_asks_336 : decode cX10_asks 336 = .ok (.getfield 31, 3) := by decide +kernel
theorem dX10_asks_339 : decode cX10_asks 339 = .ok (.iload_n 1, 1) := by decide +kernel
theorem dX10_asks_340 : decode cX10_asks 340 = .ok (.iaload, 1) := by decide +kernel
theorem dX10_asks_341 : decode cX10_asks 341 = .ok (.invokevirtual 572, 3) := by decide +kernel
theorem dX10_asks_344 : decode cX10_asks 344 = .ok (.iload_n 2, 1) := by decide +kernel
theorem dX10_asks_345 : decode cX10_asks 345 = .ok (.ireturn, 1) := by decide +kernel
theorem dX10_doStep_0 : decode cX10_doStep 0 = .ok (.aload_n 0, 1) := by decide +kernel
theorem dX10_doStep_1 : decode cX10_doStep 1 = .ok (.iload_n 1, 1) := by decide +kernel
theorem dX10_doStep_2 : decode cX10_doStep 2 = .ok (.invokevirtual 566, 3) := by decide +kernel
theorem dX10_doStep_5 : decode cX10_doStep 5 = .ok (.istore_n 2, 1) := by decide +kernel
theorem dX10_doStep_6 : decode cX10_doStep 6 = .ok (.iload_n 2, 1) := by decide +kernel
theorem dX10_doStep_7 : decode cX10_doStep 7 = .ok (.ifCond .le 5, 3) := by decide +kernel
theorem dX10_doStep_10 : decode cX10_doStep 10 = .ok (.iload_n 2, 1) := by decide +kernel
theorem dX10_doStep_11 : decode cX10_doStep 11 = .ok (.ireturn, 1) := by decide +kernel
theorem dX10_doStep_12 : decode cX10_doStep 12 = .ok (.aload_n 0, 1) := by decide +kernel
theorem dX10_doStep_13 : decode cX10_doStep 13 = .ok (.getfield 16, 3) := by decide +kernel
theorem dX10_doStep_16 : decode cX10_doStep 16 = .ok (.iload_n 1, 1) := by decide +kernel
theorem dX10_doStep_17 : decode cX10_doStep 17 = .ok (.iaload, 1) := by decide +kernel
theorem dX10_doStep_18 : decode cX10_doStep 18 = .ok (.tableswitch 190 1 21 #[98, 115, 121, 115, 121, 115, 121, 127, 149, 155, 190, 190, 190, 190, 190, 190, 161, 167, 173, 173, 179], 98) := by decide +kernel
theorem dX10_doStep_116 : decode cX10_doStep 116 = .ok (.aload_n 0, 1) := by decide +kernel
theorem dX10_doStep_117 : decode cX10_doStep 117 = .ok (.iload_n 1, 1) := by decide +kernel
theorem dX10_doStep_118 : decode cX10_doStep 118 = .ok (.invokevirtual 569, 3) := by decide +kernel
theorem dX10_doStep_121 : decode cX10_doStep 121 = .ok (.aload_n 0, 1) := by decide +kernel
theorem dX10_doStep_122 : decode cX10_doStep 122 = .ok (.aload_n 0, 1) := by decide +kernel
theorem dX10_doStep_123 : decode cX10_doStep 123 = .ok (.getfield 31, 3) := by decide +kernel
theorem dX10_doStep_126 : decode cX10_doStep 126 = .ok (.iload_n 1, 1) := by decide +kernel
theorem dX10_doStep_127 : decode cX10_doStep 127 = .ok (.iaload, 1) := by decide +kernel
theorem dX10_doStep_128 : decode cX10_doStep 128 = .ok (.invokevirtual 572, 3) := by decide +kernel
theorem dX10_doStep_131 : decode cX10_doStep 131 = .ok (.iconst 0, 1) := by decide +kernel
theorem dX10_doStep_132 : decode cX10_doStep 132 = .ok (.ireturn, 1) := by decide +kernel
theorem dX10_doStep_133 : decode cX10_doStep 133 = .ok (.aload_n 0, 1) := by decide +kernel
theorem dX10_doStep_134 : decode cX10_doStep 134 = .ok (.iload_n 1, 1) := by decide +kernel
theorem dX10_doStep_135 : decode cX10_doStep 135 = .ok (.invokevirtual 575, 3) := by decide +kernel
theorem dX10_doStep_138 : decode cX10_doStep 138 = .ok (.ireturn, 1) := by decide +kernel
theorem dX10_doStep_139 : decode cX10_doStep 139 = .ok (.aload_n 0, 1) := by decide +kernel
theorem dX10_doStep_140 : decode cX10_doStep 140 = .ok (.iload_n 1, 1) := by decide +kernel
theorem dX10_doStep_141 : decode cX10_doStep 141 = .ok (.invokevirtual 578, 3) := by decide +kernel
theorem dX10_doStep_144 : decode cX10_doStep 144 = .ok (.ireturn, 1) := by decide +kernel
theorem dX10_doStep_145 : decode cX10_doStep 145 = .ok (.aload_n 0, 1) := by decide +kernel
theorem dX10_doStep_146 : decode cX10_doStep 146 = .ok (.iload_n 1, 1) := by decide +kernel
theorem dX10_doStep_147 : decode cX10_doStep 147 = .ok (.invokevirtual 581, 3) := by decide +kernel
theorem dX10_doStep_150 : decode cX10_doStep 150 = .ok (.istore_n 2, 1) := by decide +kernel
theorem dX10_doStep_151 : decode cX10_doStep 151 = .ok (.iload_n 2, 1) := by decide +kernel
theorem dX10_doStep_152 : decode cX10_doStep 152 = .ok (.ifCond .ne 13, 3) := by decide +kernel
theorem dX10_doStep_155 : decode cX10_doStep 155 = .ok (.aload_n 0, 1) := by decide +kernel
theorem dX10_doStep_156 : decode cX10_doStep 156 = .ok (.aload_n 0, 1) := by decide +kernel
theorem dX10_doStep_157 : decode cX10_doStep 157 = .ok (.getfield 31, 3) := by decide +kernel
theorem dX10_doStep_160 : decode cX10_doStep 160 = .ok (.iload_n 1, 1) := by decide +kernel
theorem dX10_doStep_161 : decode cX10_doStep 161 = .ok (.iaload, 1) := by decide +kernel
theorem dX10_doStep_162 : decode cX10_doStep 162 = .ok (.invokevirtual 572, 3) := by decide +kernel
theorem dX10_doStep_165 : decode cX10_doStep 165 = .ok (.iload_n 2, 1) := by decide +kernel
theorem dX10_doStep_166 : decode cX10_doStep 166 = .ok (.ireturn, 1) := by decide +kernel
theorem dX10_doStep_167 : decode cX10_doStep 167 = .ok (.aload_n 0, 1) := by decide +kernel
theorem dX10_doStep_168 : decode cX10_doStep 168 = .ok (.iload_n 1, 1) := by decide +kernel
theorem dX10_doStep_169 : decode cX10_doStep 169 = .ok (.invokevirtual 584, 3) := by decide +kernel
theorem dX10_doStep_172 : decode cX10_doStep 172 = .ok (.ireturn, 1) := by decide +kernel
theorem dX10_doStep_173 : decode cX10_doStep 173 = .ok (.aload_n 0, 1) := by decide +kernel
theorem dX10_doStep_174 : decode cX10_doStep 174 = .ok (.iload_n 1, 1) := by decide +kernel
theorem dX10_doStep_175 : decode cX10_doStep 175 = .ok (.invokevirtual 587, 3) := by decide +kernel
theorem dX10_doStep_178 : decode cX10_doStep 178 = .ok (.ireturn, 1) := by decide +kernel
theorem dX10_doStep_179 : decode cX10_doStep 179 = .ok (.aload_n 0, 1) := by decide +kernel
theorem dX10_doStep_180 : decode cX10_doStep 180 = .ok (.iload_n 1, 1) := by decide +kernel
theorem dX10_doStep_181 : decode cX10_doStep 181 = .ok (.invokevirtual 590, 3) := by decide +kernel
theorem dX10_doStep_184 : decode cX10_doStep 184 = .ok (.ireturn, 1) := by decide +kernel
theorem dX10_doStep_185 : decode cX10_doStep 185 = .ok (.aload_n 0, 1) := by decide +kernel
theorem dX10_doStep_186 : decode cX10_doStep 186 = .ok (.iload_n 1, 1) := by decide +kernel
theorem dX10_doStep_187 : decode cX10_doStep 187 = .ok (.invokevirtual 593, 3) := by decide +kernel
theorem dX10_doStep_190 : decode cX10_doStep 190 = .ok (.ireturn, 1) := by decide +kernel
theorem dX10_doStep_191 : decode cX10_doStep 191 = .ok (.aload_n 0, 1) := by decide +kernel
theorem dX10_doStep_192 : decode cX10_doStep 192 = .ok (.iload_n 1, 1) := by decide +kernel
theorem dX10_doStep_193 : decode cX10_doStep 193 = .ok (.invokevirtual 596, 3) := by decide +kernel
theorem dX10_doStep_196 : decode cX10_doStep 196 = .ok (.ireturn, 1) := by decide +kernel
theorem dX10_doStep_197 : decode cX10_doStep 197 = .ok (.aload_n 0, 1) := by decide +kernel
theorem dX10_doStep_198 : decode cX10_doStep 198 = .ok (.iload_n 1, 1) := by decide +kernel
theorem dX10_doStep_199 : decode cX10_doStep 199 = .ok (.invokevirtual 569, 3) := by decide +kernel
theorem dX10_doStep_202 : decode cX10_doStep 202 = .ok (.aload_n 0, 1) := by decide +kernel
theorem dX10_doStep_203 : decode cX10_doStep 203 = .ok (.invokevirtual 599, 3) := by decide +kernel
theorem dX10_doStep_206 : decode cX10_doStep 206 = .ok (.iconst 0, 1) := by decide +kernel
theorem dX10_doStep_207 : decode cX10_doStep 207 = .ok (.ireturn, 1) := by decide +kernel
theorem dX10_doStep_208 : decode cX10_doStep 208 = .ok (.aload_n 0, 1) := by decide +kernel
theorem dX10_doStep_209 : decode cX10_doStep 209 = .ok (.iload_n 1, 1) := by decide +kernel
theorem dX10_doStep_210 : decode cX10_doStep 210 = .ok (.invokevirtual 601, 3) := by decide +kernel
theorem dX10_doStep_213 : decode cX10_doStep 213 = .ok (.ireturn, 1) := by decide +kernel
theorem dX10_run_0 : decode cX10_run 0 = .ok (.aload_n 0, 1) := by decide +kernel
theorem dX10_run_1 : decode cX10_run 1 = .ok (.aload_n 0, 1) := by decide +kernel
theorem dX10_run_2 : decode cX10_run 2 = .ok (.getfield 458, 3) := by decide +kernel
theorem dX10_run_5 : decode cX10_run 5 = .ok (.ifCond .eq 7, 3) := by decide +kernel
theorem dX10_run_8 : decode cX10_run 8 = .ok (.iconst 0, 1) := by decide +kernel
theorem dX10_run_9 : decode cX10_run 9 = .ok (.goto 4, 3) := by decide +kernel
theorem dX10_run_12 : decode cX10_run 12 = .ok (.iconst 1, 1) := by decide +kernel
theorem dX10_run_13 : decode cX10_run 13 = .ok (.putfield 122, 3) := by decide +kernel
theorem dX10_run_16 : decode cX10_run 16 = .ok (.aload_n 0, 1) := by decide +kernel
theorem dX10_run_17 : decode cX10_run 17 = .ok (.getfield 122, 3) := by decide +kernel
theorem dX10_run_20 : decode cX10_run 20 = .ok (.ifCond .le 5, 3) := by decide +kernel
theorem dX10_run_23 : decode cX10_run 23 = .ok (.iconst 0, 1) := by decide +kernel
theorem dX10_run_24 : decode cX10_run 24 = .ok (.ireturn, 1) := by decide +kernel
theorem dX10_run_25 : decode cX10_run 25 = .ok (.aload_n 0, 1) := by decide +kernel
theorem dX10_run_26 : decode cX10_run 26 = .ok (.invokevirtual 461, 3) := by decide +kernel
theorem dX10_run_29 : decode cX10_run 29 = .ok (.iconst 0, 1) := by decide +kernel
theorem dX10_run_30 : decode cX10_run 30 = .ok (.istore_n 1, 1) := by decide +kernel
theorem dX10_run_31 : decode cX10_run 31 = .ok (.iload_n 1, 1) := by decide +kernel
theorem dX10_run_32 : decode cX10_run 32 = .ok (.bipush 100, 2) := by decide +kernel
theorem dX10_run_34 : decode cX10_run 34 = .ok (.if_icmp .ge 16, 3) := by decide +kernel
theorem dX10_run_37 : decode cX10_run 37 = .ok (.aload_n 0, 1) := by decide +kernel
theorem dX10_run_38 : decode cX10_run 38 = .ok (.getfield 104, 3) := by decide +kernel
theorem dX10_run_41 : decode cX10_run 41 = .ok (.iload_n 1, 1) := by decide +kernel
theorem dX10_run_42 : decode cX10_run 42 = .ok (.iconst (-1), 1) := by decide +kernel
theorem dX10_run_43 : decode cX10_run 43 = .ok (.iastore, 1) := by decide +kernel
theorem dX10_run_44 : decode cX10_run 44 = .ok (.iinc 1 1, 3) := by decide +kernel
theorem dX10_run_47 : decode cX10_run 47 = .ok (.goto (-16), 3) := by decide +kernel
theorem dX10_run_50 : decode cX10_run 50 = .ok (.iconst 0, 1) := by decide +kernel
theorem dX10_run_51 : decode cX10_run 51 = .ok (.istore_n 1, 1) := by decide +kernel
theorem dX10_run_52 : decode cX10_run 52 = .ok (.iload_n 1, 1) := by decide +kernel
theorem dX10_run_53 : decode cX10_run 53 = .ok (.aload_n 0, 1) := by decide +kernel
theorem dX10_run_54 : decode cX10_run 54 = .ok (.getfield 455, 3) := by decide +kernel
theorem dX10_run_57 : decode cX10_run 57 = .ok (.if_icmp .ge 116, 3) := by decide +kernel
theorem dX10_run_60 : decode cX10_run 60 = .ok (.aload_n 0, 1) := by decide +kernel
theorem dX10_run_61 : decode cX10_run 61 = .ok (.dup, 1) := by decide +kernel
theorem dX10_run_62 : decode cX10_run 62 = .ok (.getfield 481, 3) := by decide +kernel
theorem dX10_run_65 : decode cX10_run 65 = .ok (.iconst 1, 1) := by decide +kernel
theorem dX10_run_66 : decode cX10_run 66 = .ok (.iadd, 1) := by decide +kernel
theorem dX10_run_67 : decode cX10_run 67 = .ok (.putfield 481, 3) := by decide +kernel
theorem dX10_run_70 : decode cX10_run 70 = .ok (.aload_n 0, 1) := by decide +kernel
theorem dX10_run_71 : decode cX10_run 71 = .ok (.getfield 104, 3) := by decide +kernel
theorem dX10_run_74 : decode cX10_run 74 = .ok (.iload_n 1, 1) := by decide +kernel
theorem dX10_run_75 : decode cX10_run 75 = .ok (.aload_n 0, 1) := by decide +kernel
theorem dX10_run_76 : decode cX10_run 76 = .ok (.iload_n 1, 1) := by decide +kernel
theorem dX10_run_77 : decode cX10_run 77 = .ok (.invokevirtual 613, 3) := by decide +kernel
theorem dX10_run_80 : decode cX10_run 80 = .ok (.iastore, 1) := by decide +kernel
theorem dX10_run_81 : decode cX10_run 81 = .ok (.aload_n 0, 1) := by decide +kernel
theorem dX10_run_82 : decode cX10_run 82 = .ok (.getfield 19, 3) := by decide +kernel
theorem dX10_run_85 : decode cX10_run 85 = .ok (.iload_n 1, 1) := by decide +kernel
theorem dX10_run_86 : decode cX10_run 86 = .ok (.iaload, 1) := by decide +kernel
theorem dX10_run_87 : decode cX10_run 87 = .ok (.iconst (-1), 1) := by decide +kernel
theorem dX10_run_88 : decode cX10_run 88 = .ok (.if_icmp .eq 38, 3) := by decide +kernel
theorem dX10_run_91 : decode cX10_run 91 = .ok (.aload_n 0, 1) := by decide +kernel
theorem dX10_run_92 : decode cX10_run 92 = .ok (.dup, 1) := by decide +kernel
theorem dX10_run_93 : decode cX10_run 93 = .ok (.getfield 484, 3) := by decide +kernel
theorem dX10_run_96 : decode cX10_run 96 = .ok (.iconst 1, 1) := by decide +kernel
theorem dX10_run_97 : decode cX10_run 97 = .ok (.iadd, 1) := by decide +kernel
theorem dX10_run_98 : decode cX10_run 98 = .ok (.putfield 484, 3) := by decide +kernel
theorem dX10_run_101 : decode cX10_run 101 = .ok (.aload_n 0, 1) := by decide +kernel
theorem dX10_run_102 : decode cX10_run 102 = .ok (.getfield 19, 3) := by decide +kernel
theorem dX10_run_105 : decode cX10_run 105 = .ok (.iload_n 1, 1) := by decide +kernel
theorem dX10_run_106 : decode cX10_run 106 = .ok (.iaload, 1) := by decide +kernel
theorem dX10_run_107 : decode cX10_run 107 = .ok (.aload_n 0, 1) := by decide +kernel
theorem dX10_run_108 : decode cX10_run 108 = .ok (.getfield 104, 3) := by decide +kernel
theorem dX10_run_111 : decode cX10_run 111 = .ok (.iload_n 1, 1) := by decide +kernel
theorem dX10_run_112 : decode cX10_run 112 = .ok (.iaload, 1) := by decide +kernel
theorem dX10_run_113 : decode cX10_run 113 = .ok (.if_icmp .ne 13, 3) := by decide +kernel
theorem dX10_run_116 : decode cX10_run 116 = .ok (.aload_n 0, 1) := by decide +kernel
theorem dX10_run_117 : decode cX10_run 117 = .ok (.dup, 1) := by decide +kernel
theorem dX10_run_118 : decode cX10_run 118 = .ok (.getfield 487, 3) := by decide +kernel
theorem dX10_run_121 : decode cX10_run 121 = .ok (.iconst 1, 1) := by decide +kernel
theorem dX10_run_122 : decode cX10_run 122 = .ok (.iadd, 1) := by decide +kernel
theorem dX10_run_123 : decode cX10_run 123 = .ok (.putfield 487, 3) := by decide +kernel
theorem dX10_run_126 : decode cX10_run 126 = .ok (.aload_n 0, 1) := by decide +kernel
theorem dX10_run_127 : decode cX10_run 127 = .ok (.getfield 104, 3) := by decide +kernel
theorem dX10_run_130 : decode cX10_run 130 = .ok (.iload_n 1, 1) := by decide +kernel
theorem dX10_run_131 : decode cX10_run 131 = .ok (.iaload, 1) := by decide +kernel
theorem dX10_run_132 : decode cX10_run 132 = .ok (.ifCond .ne 6, 3) := by decide +kernel
theorem dX10_run_135 : decode cX10_run 135 = .ok (.goto 32, 3) := by decide +kernel
theorem dX10_run_138 : decode cX10_run 138 = .ok (.aload_n 0, 1) := by decide +kernel
theorem dX10_run_139 : decode cX10_run 139 = .ok (.getfield 22, 3) := by decide +kernel
theorem dX10_run_142 : decode cX10_run 142 = .ok (.iload_n 1, 1) := by decide +kernel
theorem dX10_run_143 : decode cX10_run 143 = .ok (.iaload, 1) := by decide +kernel
theorem dX10_run_144 : decode cX10_run 144 = .ok (.aload_n 0, 1) := by decide +kernel
theorem dX10_run_145 : decode cX10_run 145 = .ok (.getfield 104, 3) := by decide +kernel
theorem dX10_run_148 : decode cX10_run 148 = .ok (.iload_n 1, 1) := by decide +kernel
theorem dX10_run_149 : decode cX10_run 149 = .ok (.iaload, 1) := by decide +kernel
theorem dX10_run_150 : decode cX10_run 150 = .ok (.if_icmp .eq 7, 3) := by decide +kernel
theorem dX10_run_153 : decode cX10_run 153 = .ok (.iconst 1, 1) := by decide +kernel
theorem dX10_run_154 : decode cX10_run 154 = .ok (.iload_n 1, 1) := by decide +kernel
theorem dX10_run_155 : decode cX10_run 155 = .ok (.iadd, 1) := by decide +kernel
theorem dX10_run_156 : decode cX10_run 156 = .ok (.ireturn, 1) := by decide +kernel
theorem dX10_run_157 : decode cX10_run 157 = .ok (.aload_n 0, 1) := by decide +kernel
theorem dX10_run_158 : decode cX10_run 158 = .ok (.dup, 1) := by decide +kernel
theorem dX10_run_159 : decode cX10_run 159 = .ok (.getfield 490, 3) := by decide +kernel
theorem dX10_run_162 : decode cX10_run 162 = .ok (.iconst 1, 1) := by decide +kernel
theorem dX10_run_163 : decode cX10_run 163 = .ok (.iadd, 1) := by decide +kernel
theorem dX10_run_164 : decode cX10_run 164 = .ok (.putfield 490, 3) := by decide +kernel
theorem dX10_run_167 : decode cX10_run 167 = .ok (.iinc 1 1, 3) := by decide +kernel
theorem dX10_run_170 : decode cX10_run 170 = .ok (.goto (-118), 3) := by decide +kernel
theorem dX10_run_173 : decode cX10_run 173 = .ok (.iconst 0, 1) := by decide +kernel
theorem dX10_run_174 : decode cX10_run 174 = .ok (.ireturn, 1) := by decide +kernel

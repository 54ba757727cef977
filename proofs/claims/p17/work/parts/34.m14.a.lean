theorem dX10_copies_0 : decode cX10_copies 0 = .ok (.aload_n 0, 1) := by decide +kernel
theorem dX10_copies_1 : decode cX10_copies 1 = .ok (.getfield 65, 3) := by decide +kernel
theorem dX10_copies_4 : decode cX10_copies 4 = .ok (.aload_n 0, 1) := by decide +kernel
theorem dX10_copies_5 : decode cX10_copies 5 = .ok (.getfield 34, 3) := by decide +kernel
theorem dX10_copies_8 : decode cX10_copies 8 = .ok (.iload_n 1, 1) := by decide +kernel
theorem dX10_copies_9 : decode cX10_copies 9 = .ok (.iaload, 1) := by decide +kernel
theorem dX10_copies_10 : decode cX10_copies 10 = .ok (.iaload, 1) := by decide +kernel
theorem dX10_copies_11 : decode cX10_copies 11 = .ok (.ifCond .eq 17, 3) := by decide +kernel
theorem dX10_copies_14 : decode cX10_copies 14 = .ok (.aload_n 0, 1) := by decide +kernel
theorem dX10_copies_15 : decode cX10_copies 15 = .ok (.getfield 65, 3) := by decide +kernel
theorem dX10_copies_18 : decode cX10_copies 18 = .ok (.aload_n 0, 1) := by decide +kernel
theorem dX10_copies_19 : decode cX10_copies 19 = .ok (.getfield 37, 3) := by decide +kernel
theorem dX10_copies_22 : decode cX10_copies 22 = .ok (.iload_n 1, 1) := by decide +kernel
theorem dX10_copies_23 : decode cX10_copies 23 = .ok (.iaload, 1) := by decide +kernel
theorem dX10_copies_24 : decode cX10_copies 24 = .ok (.iaload, 1) := by decide +kernel
theorem dX10_copies_25 : decode cX10_copies 25 = .ok (.ifCond .ne 5, 3) := by decide +kernel
theorem dX10_copies_28 : decode cX10_copies 28 = .ok (.iconst 1, 1) := by decide +kernel
theorem dX10_copies_29 : decode cX10_copies 29 = .ok (.ireturn, 1) := by decide +kernel
theorem dX10_copies_30 : decode cX10_copies 30 = .ok (.aload_n 0, 1) := by decide +kernel
theorem dX10_copies_31 : decode cX10_copies 31 = .ok (.getfield 65, 3) := by decide +kernel
theorem dX10_copies_34 : decode cX10_copies 34 = .ok (.aload_n 0, 1) := by decide +kernel
theorem dX10_copies_35 : decode cX10_copies 35 = .ok (.getfield 34, 3) := by decide +kernel
theorem dX10_copies_38 : decode cX10_copies 38 = .ok (.iload_n 1, 1) := by decide +kernel
theorem dX10_copies_39 : decode cX10_copies 39 = .ok (.iaload, 1) := by decide +kernel
theorem dX10_copies_40 : decode cX10_copies 40 = .ok (.iaload, 1) := by decide +kernel
theorem dX10_copies_41 : decode cX10_copies 41 = .ok (.iconst 3, 1) := by decide +kernel
theorem dX10_copies_42 : decode cX10_copies 42 = .ok (.if_icmp .ne 18, 3) := by decide +kernel
theorem dX10_copies_45 : decode cX10_copies 45 = .ok (.aload_n 0, 1) := by decide +kernel
theorem dX10_copies_46 : decode cX10_copies 46 = .ok (.getfield 65, 3) := by decide +kernel
theorem dX10_copies_49 : decode cX10_copies 49 = .ok (.aload_n 0, 1) := by decide +kernel
theorem dX10_copies_50 : decode cX10_copies 50 = .ok (.getfield 37, 3) := by decide +kernel
theorem dX10_copies_53 : decode cX10_copies 53 = .ok (.iload_n 1, 1) := by decide +kernel
theorem dX10_copies_54 : decode cX10_copies 54 = .ok (.iaload, 1) := by decide +kernel
theorem dX10_copies_55 : decode cX10_copies 55 = .ok (.iaload, 1) := by decide +kernel
theorem dX10_copies_56 : decode cX10_copies 56 = .ok (.iconst 3, 1) := by decide +kernel
theorem dX10_copies_57 : decode cX10_copies 57 = .ok (.if_icmp .eq 6, 3) := by decide +kernel
theorem dX10_copies_60 : decode cX10_copies 60 = .ok (.bipush 6, 2) := by decide +kernel
theorem dX10_copies_62 : decode cX10_copies 62 = .ok (.ireturn, 1) := by decide +kernel
theorem dX10_copies_63 : decode cX10_copies 63 = .ok (.aload_n 0, 1) := by decide +kernel
theorem dX10_copies_64 : decode cX10_copies 64 = .ok (.getfield 71, 3) := by decide +kernel
theorem dX10_copies_67 : decode cX10_copies 67 = .ok (.aload_n 0, 1) := by decide +kernel
theorem dX10_copies_68 : decode cX10_copies 68 = .ok (.getfield 34, 3) := by decide +kernel
theorem dX10_copies_71 : decode cX10_copies 71 = .ok (.iload_n 1, 1) := by decide +kernel
theorem dX10_copies_72 : decode cX10_copies 72 = .ok (.iaload, 1) := by decide +kernel
theorem dX10_copies_73 : decode cX10_copies 73 = .ok (.laload, 1) := by decide +kernel
theorem dX10_copies_74 : decode cX10_copies 74 = .ok (.l2i, 1) := by decide +kernel
theorem dX10_copies_75 : decode cX10_copies 75 = .ok (.istore_n 2, 1) := by decide +kernel
theorem dX10_copies_76 : decode cX10_copies 76 = .ok (.aload_n 0, 1) := by decide +kernel
theorem dX10_copies_77 : decode cX10_copies 77 = .ok (.getfield 71, 3) := by decide +kernel
theorem dX10_copies_80 : decode cX10_copies 80 = .ok (.aload_n 0, 1) := by decide +kernel
theorem dX10_copies_81 : decode cX10_copies 81 = .ok (.getfield 37, 3) := by decide +kernel
theorem dX10_copies_84 : decode cX10_copies 84 = .ok (.iload_n 1, 1) := by decide +kernel
theorem dX10_copies_85 : decode cX10_copies 85 = .ok (.iaload, 1) := by decide +kernel
theorem dX10_copies_86 : decode cX10_copies 86 = .ok (.laload, 1) := by decide +kernel
theorem dX10_copies_87 : decode cX10_copies 87 = .ok (.l2i, 1) := by decide +kernel
theorem dX10_copies_88 : decode cX10_copies 88 = .ok (.istore_n 3, 1) := by decide +kernel
theorem dX10_copies_89 : decode cX10_copies 89 = .ok (.aload_n 0, 1) := by decide +kernel
theorem dX10_copies_90 : decode cX10_copies 90 = .ok (.getfield 77, 3) := by decide +kernel
theorem dX10_copies_93 : decode cX10_copies 93 = .ok (.iload_n 2, 1) := by decide +kernel
theorem dX10_copies_94 : decode cX10_copies 94 = .ok (.iaload, 1) := by decide +kernel
theorem dX10_copies_95 : decode cX10_copies 95 = .ok (.invokestatic 525, 3) := by decide +kernel
theorem dX10_copies_98 : decode cX10_copies 98 = .ok (.istore 4, 2) := by decide +kernel
theorem dX10_copies_100 : decode cX10_copies 100 = .ok (.iload 4, 2) := by decide +kernel
theorem dX10_copies_102 : decode cX10_copies 102 = .ok (.aload_n 0, 1) := by decide +kernel
theorem dX10_copies_103 : decode cX10_copies 103 = .ok (.getfield 77, 3) := by decide +kernel
theorem dX10_copies_106 : decode cX10_copies 106 = .ok (.iload_n 3, 1) := by decide +kernel
theorem dX10_copies_107 : decode cX10_copies 107 = .ok (.iaload, 1) := by decide +kernel
theorem dX10_copies_108 : decode cX10_copies 108 = .ok (.invokestatic 525, 3) := by decide +kernel
theorem dX10_copies_111 : decode cX10_copies 111 = .ok (.if_icmp .ne 23, 3) := by decide +kernel
theorem dX10_copies_114 : decode cX10_copies 114 = .ok (.iload 4, 2) := by decide +kernel
theorem dX10_copies_116 : decode cX10_copies 116 = .ok (.ifCond .eq 21, 3) := by decide +kernel
theorem dX10_copies_119 : decode cX10_copies 119 = .ok (.aload_n 0, 1) := by decide +kernel
theorem dX10_copies_120 : decode cX10_copies 120 = .ok (.getfield 77, 3) := by decide +kernel
theorem dX10_copies_123 : decode cX10_copies 123 = .ok (.iload_n 2, 1) := by decide +kernel
theorem dX10_copies_124 : decode cX10_copies 124 = .ok (.iaload, 1) := by decide +kernel
theorem dX10_copies_125 : decode cX10_copies 125 = .ok (.aload_n 0, 1) := by decide +kernel
theorem dX10_copies_126 : decode cX10_copies 126 = .ok (.getfield 77, 3) := by decide +kernel
theorem dX10_copies_129 : decode cX10_copies 129 = .ok (.iload_n 3, 1) := by decide +kernel
theorem dX10_copies_130 : decode cX10_copies 130 = .ok (.iaload, 1) := by decide +kernel
theorem dX10_copies_131 : decode cX10_copies 131 = .ok (.if_icmp .eq 6, 3) := by decide +kernel
theorem dX10_copies_134 : decode cX10_copies 134 = .ok (.bipush 6, 2) := by decide +kernel
theorem dX10_copies_136 : decode cX10_copies 136 = .ok (.ireturn, 1) := by decide +kernel
theorem dX10_copies_137 : decode cX10_copies 137 = .ok (.aload_n 0, 1) := by decide +kernel
theorem dX10_copies_138 : decode cX10_copies 138 = .ok (.getfield 119, 3) := by decide +kernel
theorem dX10_copies_141 : decode cX10_copies 141 = .ok (.iconst 2, 1) := by decide +kernel
theorem dX10_copies_142 : decode cX10_copies 142 = .ok (.iaload, 1) := by decide +kernel
theorem dX10_copies_143 : decode cX10_copies 143 = .ok (.istore 5, 2) := by decide +kernel
theorem dX10_copies_145 : decode cX10_copies 145 = .ok (.iload 5, 2) := by decide +kernel
theorem dX10_copies_147 : decode cX10_copies 147 = .ok (.ifCond .lt 65, 3) := by decide +kernel
theorem dX10_copies_150 : decode cX10_copies 150 = .ok (.aload_n 0, 1) := by decide +kernel
theorem dX10_copies_151 : decode cX10_copies 151 = .ok (.getfield 119, 3) := by decide +kernel
theorem dX10_copies_154 : decode cX10_copies 154 = .ok (.iconst 0, 1) := by decide +kernel
theorem dX10_copies_155 : decode cX10_copies 155 = .ok (.iaload, 1) := by decide +kernel
theorem dX10_copies_156 : decode cX10_copies 156 = .ok (.ifCond .lt 56, 3) := by decide +kernel
theorem dX10_copies_159 : decode cX10_copies 159 = .ok (.aload_n 0, 1) := by decide +kernel
theorem dX10_copies_160 : decode cX10_copies 160 = .ok (.getfield 119, 3) := by decide +kernel
theorem dX10_copies_163 : decode cX10_copies 163 = .ok (.iconst 1, 1) := by decide +kernel
theorem dX10_copies_164 : decode cX10_copies 164 = .ok (.iaload, 1) := by decide +kernel
theorem dX10_copies_165 : decode cX10_copies 165 = .ok (.ifCond .lt 47, 3) := by decide +kernel
theorem dX10_copies_168 : decode cX10_copies 168 = .ok (.aload_n 0, 1) := by decide +kernel
theorem dX10_copies_169 : decode cX10_copies 169 = .ok (.getfield 119, 3) := by decide +kernel
theorem dX10_copies_172 : decode cX10_copies 172 = .ok (.iconst 0, 1) := by decide +kernel
theorem dX10_copies_173 : decode cX10_copies 173 = .ok (.iaload, 1) := by decide +kernel
theorem dX10_copies_174 : decode cX10_copies 174 = .ok (.i2l, 1) := by decide +kernel
theorem dX10_copies_175 : decode cX10_copies 175 = .ok (.iload 5, 2) := by decide +kernel
theorem dX10_copies_177 : decode cX10_copies 177 = .ok (.i2l, 1) := by decide +kernel
theorem dX10_copies_178 : decode cX10_copies 178 = .ok (.ladd, 1) := by decide +kernel
theorem dX10_copies_179 : decode cX10_copies 179 = .ok (.aload_n 0, 1) := by decide +kernel
theorem dX10_copies_180 : decode cX10_copies 180 = .ok (.getfield 83, 3) := by decide +kernel
theorem dX10_copies_183 : decode cX10_copies 183 = .ok (.iload_n 2, 1) := by decide +kernel
theorem dX10_copies_184 : decode cX10_copies 184 = .ok (.iaload, 1) := by decide +kernel
theorem dX10_copies_185 : decode cX10_copies 185 = .ok (.i2l, 1) := by decide +kernel
theorem dX10_copies_186 : decode cX10_copies 186 = .ok (.lcmp, 1) := by decide +kernel
theorem dX10_copies_187 : decode cX10_copies 187 = .ok (.ifCond .gt 25, 3) := by decide +kernel
theorem dX10_copies_190 : decode cX10_copies 190 = .ok (.aload_n 0, 1) := by decide +kernel
theorem dX10_copies_191 : decode cX10_copies 191 = .ok (.getfield 119, 3) := by decide +kernel
theorem dX10_copies_194 : decode cX10_copies 194 = .ok (.iconst 1, 1) := by decide +kernel
theorem dX10_copies_195 : decode cX10_copies 195 = .ok (.iaload, 1) := by decide +kernel
theorem dX10_copies_196 : decode cX10_copies 196 = .ok (.i2l, 1) := by decide +kernel
theorem dX10_copies_197 : decode cX10_copies 197 = .ok (.iload 5, 2) := by decide +kernel
theorem dX10_copies_199 : decode cX10_copies 199 = .ok (.i2l, 1) := by decide +kernel
theorem dX10_copies_200 : decode cX10_copies 200 = .ok (.ladd, 1) := by decide +kernel
theorem dX10_copies_201 : decode cX10_copies 201 = .ok (.aload_n 0, 1) := by decide +kernel
theorem dX10_copies_202 : decode cX10_copies 202 = .ok (.getfield 83, 3) := by decide +kernel
theorem dX10_copies_205 : decode cX10_copies 205 = .ok (.iload_n 3, 1) := by decide +kernel
theorem dX10_copies_206 : decode cX10_copies 206 = .ok (.iaload, 1) := by decide +kernel
theorem dX10_copies_207 : decode cX10_copies 207 = .ok (.i2l, 1) := by decide +kernel
theorem dX10_copies_208 : decode cX10_copies 208 = .ok (.lcmp, 1) := by decide +kernel
theorem dX10_copies_209 : decode cX10_copies 209 = .ok (.ifCond .le 5, 3) := by decide +kernel
theorem dX10_copies_212 : decode cX10_copies 212 = .ok (.iconst 2, 1) := by decide +kernel
theorem dX10_copies_213 : decode cX10_copies 213 = .ok (.ireturn, 1) := by decide +kernel
theorem dX10_copies_214 : decode cX10_copies 214 = .ok (.iconst 0, 1) := by decide +kernel
theorem dX10_copies_215 : decode cX10_copies 215 = .ok (.istore 6, 2) := by decide +kernel
theorem dX10_copies_217 : decode cX10_copies 217 = .ok (.iload 6, 2) := by decide +kernel
theorem dX10_copies_219 : decode cX10_copies 219 = .ok (.iload 5, 2) := by decide +kernel
theorem dX10_copies_221 : decode cX10_copies 221 = .ok (.if_icmp .ge 56, 3) := by decide +kernel
theorem dX10_copies_224 : decode cX10_copies 224 = .ok (.aload_n 0, 1) := by decide +kernel
theorem dX10_copies_225 : decode cX10_copies 225 = .ok (.iload_n 2, 1) := by decide +kernel
theorem dX10_copies_226 : decode cX10_copies 226 = .ok (.aload_n 0, 1) := by decide +kernel
theorem dX10_copies_227 : decode cX10_copies 227 = .ok (.getfield 119, 3) := by decide +kernel
theorem dX10_copies_230 : decode cX10_copies 230 = .ok (.iconst 0, 1) := by decide +kernel
theorem dX10_copies_231 : decode cX10_copies 231 = .ok (.iaload, 1) := by decide +kernel
theorem dX10_copies_232 : decode cX10_copies 232 = .ok (.iload 6, 2) := by decide +kernel
theorem dX10_copies_234 : decode cX10_copies 234 = .ok (.iadd, 1) := by decide +kernel
theorem dX10_copies_235 : decode cX10_copies 235 = .ok (.invokevirtual 519, 3) := by decide +kernel
theorem dX10_copies_238 : decode cX10_copies 238 = .ok (.aload_n 0, 1) := by decide +kernel
theorem dX10_copies_239 : decode cX10_copies 239 = .ok (.getfield 95, 3) := by decide +kernel
theorem dX10_copies_242 : decode cX10_copies 242 = .ok (.iload 6, 2) := by decide +kernel
theorem dX10_copies_244 : decode cX10_copies 244 = .ok (.aload_n 0, 1) := by decide +kernel
theorem dX10_copies_245 : decode cX10_copies 245 = .ok (.getfield 493, 3) := by decide +kernel
theorem dX10_copies_248 : decode cX10_copies 248 = .ok (.iastore, 1) := by decide +kernel
theorem dX10_copies_249 : decode cX10_copies 249 = .ok (.aload_n 0, 1) := by decide +kernel
theorem dX10_copies_250 : decode cX10_copies 250 = .ok (.getfield 98, 3) := by decide +kernel
theorem dX10_copies_253 : decode cX10_copies 253 = .ok (.iload 6, 2) := by decide +kernel
theorem dX10_copies_255 : decode cX10_copies 255 = .ok (.aload_n 0, 1) := by decide +kernel
theorem dX10_copies_256 : decode cX10_copies 256 = .ok (.getfield 496, 3) := by decide +kernel
theorem dX10_copies_259 : decode cX10_copies 259 = .ok (.iastore, 1) := by decide +kernel
theorem dX10_copies_260 : decode cX10_copies 260 = .ok (.aload_n 0, 1) := by decide +kernel
theorem dX10_copies_261 : decode cX10_copies 261 = .ok (.getfield 101, 3) := by decide +kernel
theorem dX10_copies_264 : decode cX10_copies 264 = .ok (.iload 6, 2) := by decide +kernel
theorem dX10_copies_266 : decode cX10_copies 266 = .ok (.aload_n 0, 1) := by decide +kernel
theorem dX10_copies_267 : decode cX10_copies 267 = .ok (.getfield 499, 3) := by decide +kernel
theorem dX10_copies_270 : decode cX10_copies 270 = .ok (.lastore, 1) := by decide +kernel
theorem dX10_copies_271 : decode cX10_copies 271 = .ok (.iinc 6 1, 3) := by decide +kernel
theorem dX10_copies_274 : decode cX10_copies 274 = .ok (.goto (-57), 3) := by decide +kernel
theorem dX10_copies_277 : decode cX10_copies 277 = .ok (.iconst 0, 1) := by decide +kernel
theorem dX10_copies_278 : decode cX10_copies 278 = .ok (.istore 6, 2) := by decide +kernel
theorem dX10_copies_280 : decode cX10_copies 280 = .ok (.iload 6, 2) := by decide +kernel
theorem dX10_copies_282 : decode cX10_copies 282 = .ok (.iload 5, 2) := by decide +kernel
theorem dX10_copies_284 : decode cX10_copies 284 = .ok (.if_icmp .ge 89, 3) := by decide +kernel
theorem dX10_copies_287 : decode cX10_copies 287 = .ok (.aload_n 0, 1) := by decide +kernel
theorem dX10_copies_288 : decode cX10_copies 288 = .ok (.aload_n 0, 1) := by decide +kernel
theorem dX10_copies_289 : decode cX10_copies 289 = .ok (.getfield 95, 3) := by decide +kernel
theorem dX10_copies_292 : decode cX10_copies 292 = .ok (.iload 6, 2) := by decide +kernel
theorem dX10_copies_294 : decode cX10_copies 294 = .ok (.iaload, 1) := by decide +kernel
theorem dX10_copies_295 : decode cX10_copies 295 = .ok (.putfield 493, 3) := by decide +kernel
theorem dX10_copies_298 : decode cX10_copies 298 = .ok (.aload_n 0, 1) := by decide +kernel
theorem dX10_copies_299 : decode cX10_copies 299 = .ok (.aload_n 0, 1) := by decide +kernel
theorem dX10_copies_300 : decode cX10_copies 300 = .ok (.getfield 98, 3) := by decide +kernel
theorem dX10_copies_303 : decode cX10_copies 303 = .ok (.iload 6, 2) := by decide +kernel
theorem dX10_copies_305 : decode cX10_copies 305 = .ok (.iaload, 1) := by decide +kernel
theorem dX10_copies_306 : decode cX10_copies 306 = .ok (.putfield 496, 3) := by decide +kernel
theorem dX10_copies_309 : decode cX10_copies 309 = .ok (.aload_n 0, 1) := by decide +kernel
theorem dX10_copies_310 : decode cX10_copies 310 = .ok (.aload_n 0, 1) := by decide +kernel
theorem dX10_copies_311 : decode cX10_copies 311 = .ok (.getfield 101, 3) := by decide +kernel
theorem dX10_copies_314 : decode cX10_copies 314 = .ok (.iload 6, 2) := by decide +kernel
theorem dX10_copies_316 : decode cX10_copies 316 = .ok (.laload, 1) := by decide +kernel
theorem dX10_copies_317 : decode cX10_copies 317 = .ok (.putfield 499, 3) := by decide +kernel
theorem dX10_copies_320 : decode cX10_copies 320 = .ok (.iload 4, 2) := by decide +kernel
theorem dX10_copies_322 : decode cX10_copies 322 = .ok (.ifCond .ne 31, 3) := by decide +kernel
theorem dX10_copies_325 : decode cX10_copies 325 = .ok (.aload_n 0, 1) := by decide +kernel
theorem dX10_copies_326 : decode cX10_copies 326 = .ok (.getfield 493, 3) := by decide +kernel
theorem dX10_copies_329 : decode cX10_copies 329 = .ok (.ifCond .eq 24, 3) := by decide +kernel
theorem dX10_copies_332 : decode cX10_copies 332 = .ok (.aload_n 0, 1) := by decide +kernel
theorem dX10_copies_333 : decode cX10_copies 333 = .ok (.invokevirtual 531, 3) := by decide +kernel
theorem dX10_copies_336 : decode cX10_copies 336 = .ok (.aload_n 0, 1) := by decide +kernel
theorem dX10_copies_337 : decode cX10_copies 337 = .ok (.getfield 77, 3) := by decide +kernel
theorem dX10_copies_340 : decode cX10_copies 340 = .ok (.iload_n 3, 1) := by decide +kernel
theorem dX10_copies_341 : decode cX10_copies 341 = .ok (.iaload, 1) := by decide +kernel
theorem dX10_copies_342 : decode cX10_copies 342 = .ok (.invokestatic 522, 3) := by decide +kernel
theorem dX10_copies_345 : decode cX10_copies 345 = .ok (.invokestatic 534, 3) := by decide +kernel
theorem dX10_copies_348 : decode cX10_copies 348 = .ok (.ifCond .ne 5, 3) := by decide +kernel
theorem dX10_copies_351 : decode cX10_copies 351 = .ok (.iconst 4, 1) := by decide +kernel
theorem dX10_copies_352 : decode cX10_copies 352 = .ok (.ireturn, 1) := by decide +kernel
theorem dX10_copies_353 : decode cX10_copies 353 = .ok (.aload_n 0, 1) := by decide +kernel
theorem dX10_copies_354 : decode cX10_copies 354 = .ok (.iload_n 3, 1) := by decide +kernel
theorem dX10_copies_355 : decode cX10_copies 355 = .ok (.aload_n 0, 1) := by decide +kernel
theorem dX10_copies_356 : decode cX10_copies 356 = .ok (.getfield 119, 3) := by decide +kernel
theorem dX10_copies_359 : decode cX10_copies 359 = .ok (.iconst 1, 1) := by decide +kernel
theorem dX10_copies_360 : decode cX10_copies 360 = .ok (.iaload, 1) := by decide +kernel
theorem dX10_copies_361 : decode cX10_copies 361 = .ok (.iload 6, 2) := by decide +kernel
theorem dX10_copies_363 : decode cX10_copies 363 = .ok (.iadd, 1) := by decide +kernel
theorem dX10_copies_364 : decode cX10_copies 364 = .ok (.invokevirtual 543, 3) := by decide +kernel
theorem dX10_copies_367 : decode cX10_copies 367 = .ok (.iinc 6 1, 3) := by decide +kernel
theorem dX10_copies_370 : decode cX10_copies 370 = .ok (.goto (-90), 3) := by decide +kernel
theorem dX10_copies_373 : decode cX10_copies 373 = .ok (.iconst 0, 1) := by decide +kernel
theorem dX10_copies_374 : decode cX10_copies 374 = .ok (.ireturn, 1) := by decide +kernel

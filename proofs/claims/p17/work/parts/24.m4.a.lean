theorem dX10_readAtom_0 : decode cX10_readAtom 0 = .ok (.aload_n 0, 1) := by decide +kernel
theorem dX10_readAtom_1 : decode cX10_readAtom 1 = .ok (.invokevirtual 328, 3) := by decide +kernel
theorem dX10_readAtom_4 : decode cX10_readAtom 4 = .ok (.ifCond .eq 28, 3) := by decide +kernel
theorem dX10_readAtom_7 : decode cX10_readAtom 7 = .ok (.aload_n 0, 1) := by decide +kernel
theorem dX10_readAtom_8 : decode cX10_readAtom 8 = .ok (.invokevirtual 359, 3) := by decide +kernel
theorem dX10_readAtom_11 : decode cX10_readAtom 11 = .ok (.pop, 1) := by decide +kernel
theorem dX10_readAtom_12 : decode cX10_readAtom 12 = .ok (.aload_n 0, 1) := by decide +kernel
theorem dX10_readAtom_13 : decode cX10_readAtom 13 = .ok (.getfield 52, 3) := by decide +kernel
theorem dX10_readAtom_16 : decode cX10_readAtom 16 = .ok (.iload_n 1, 1) := by decide +kernel
theorem dX10_readAtom_17 : decode cX10_readAtom 17 = .ok (.iconst 1, 1) := by decide +kernel
theorem dX10_readAtom_18 : decode cX10_readAtom 18 = .ok (.iastore, 1) := by decide +kernel
theorem dX10_readAtom_19 : decode cX10_readAtom 19 = .ok (.aload_n 0, 1) := by decide +kernel
theorem dX10_readAtom_20 : decode cX10_readAtom 20 = .ok (.getfield 58, 3) := by decide +kernel
theorem dX10_readAtom_23 : decode cX10_readAtom 23 = .ok (.iload_n 1, 1) := by decide +kernel
theorem dX10_readAtom_24 : decode cX10_readAtom 24 = .ok (.aload_n 0, 1) := by decide +kernel
theorem dX10_readAtom_25 : decode cX10_readAtom 25 = .ok (.getfield 332, 3) := by decide +kernel
theorem dX10_readAtom_28 : decode cX10_readAtom 28 = .ok (.i2l, 1) := by decide +kernel
theorem dX10_readAtom_29 : decode cX10_readAtom 29 = .ok (.lastore, 1) := by decide +kernel
theorem dX10_readAtom_30 : decode cX10_readAtom 30 = .ok (.iconst 1, 1) := by decide +kernel
theorem dX10_readAtom_31 : decode cX10_readAtom 31 = .ok (.ireturn, 1) := by decide +kernel
theorem dX10_readAtom_32 : decode cX10_readAtom 32 = .ok (.aload_n 0, 1) := by decide +kernel
theorem dX10_readAtom_33 : decode cX10_readAtom 33 = .ok (.getfield 273, 3) := by decide +kernel
theorem dX10_readAtom_36 : decode cX10_readAtom 36 = .ok (.iconst 3, 1) := by decide +kernel
theorem dX10_readAtom_37 : decode cX10_readAtom 37 = .ok (.if_icmp .eq 12, 3) := by decide +kernel
theorem dX10_readAtom_40 : decode cX10_readAtom 40 = .ok (.aload_n 0, 1) := by decide +kernel
theorem dX10_readAtom_41 : decode cX10_readAtom 41 = .ok (.bipush 45, 2) := by decide +kernel
theorem dX10_readAtom_43 : decode cX10_readAtom 43 = .ok (.invokevirtual 316, 3) := by decide +kernel
theorem dX10_readAtom_46 : decode cX10_readAtom 46 = .ok (.ifCond .eq 42, 3) := by decide +kernel
theorem dX10_readAtom_49 : decode cX10_readAtom 49 = .ok (.aload_n 0, 1) := by decide +kernel
theorem dX10_readAtom_50 : decode cX10_readAtom 50 = .ok (.iconst 0, 1) := by decide +kernel
theorem dX10_readAtom_51 : decode cX10_readAtom 51 = .ok (.invokevirtual 362, 3) := by decide +kernel
theorem dX10_readAtom_54 : decode cX10_readAtom 54 = .ok (.ifCond .ne 5, 3) := by decide +kernel
theorem dX10_readAtom_57 : decode cX10_readAtom 57 = .ok (.iconst 0, 1) := by decide +kernel
theorem dX10_readAtom_58 : decode cX10_readAtom 58 = .ok (.ireturn, 1) := by decide +kernel
theorem dX10_readAtom_59 : decode cX10_readAtom 59 = .ok (.aload_n 0, 1) := by decide +kernel
theorem dX10_readAtom_60 : decode cX10_readAtom 60 = .ok (.getfield 52, 3) := by decide +kernel
theorem dX10_readAtom_63 : decode cX10_readAtom 63 = .ok (.iload_n 1, 1) := by decide +kernel
theorem dX10_readAtom_64 : decode cX10_readAtom 64 = .ok (.iconst 2, 1) := by decide +kernel
theorem dX10_readAtom_65 : decode cX10_readAtom 65 = .ok (.iastore, 1) := by decide +kernel
theorem dX10_readAtom_66 : decode cX10_readAtom 66 = .ok (.aload_n 0, 1) := by decide +kernel
theorem dX10_readAtom_67 : decode cX10_readAtom 67 = .ok (.getfield 55, 3) := by decide +kernel
theorem dX10_readAtom_70 : decode cX10_readAtom 70 = .ok (.iload_n 1, 1) := by decide +kernel
theorem dX10_readAtom_71 : decode cX10_readAtom 71 = .ok (.aload_n 0, 1) := by decide +kernel
theorem dX10_readAtom_72 : decode cX10_readAtom 72 = .ok (.getfield 356, 3) := by decide +kernel
theorem dX10_readAtom_75 : decode cX10_readAtom 75 = .ok (.iastore, 1) := by decide +kernel
theorem dX10_readAtom_76 : decode cX10_readAtom 76 = .ok (.aload_n 0, 1) := by decide +kernel
theorem dX10_readAtom_77 : decode cX10_readAtom 77 = .ok (.getfield 58, 3) := by decide +kernel
theorem dX10_readAtom_80 : decode cX10_readAtom 80 = .ok (.iload_n 1, 1) := by decide +kernel
theorem dX10_readAtom_81 : decode cX10_readAtom 81 = .ok (.aload_n 0, 1) := by decide +kernel
theorem dX10_readAtom_82 : decode cX10_readAtom 82 = .ok (.getfield 353, 3) := by decide +kernel
theorem dX10_readAtom_85 : decode cX10_readAtom 85 = .ok (.lastore, 1) := by decide +kernel
theorem dX10_readAtom_86 : decode cX10_readAtom 86 = .ok (.iconst 1, 1) := by decide +kernel
theorem dX10_readAtom_87 : decode cX10_readAtom 87 = .ok (.ireturn, 1) := by decide +kernel
theorem dX10_readAtom_88 : decode cX10_readAtom 88 = .ok (.aload_n 0, 1) := by decide +kernel
theorem dX10_readAtom_89 : decode cX10_readAtom 89 = .ok (.getfield 273, 3) := by decide +kernel
theorem dX10_readAtom_92 : decode cX10_readAtom 92 = .ok (.iconst 2, 1) := by decide +kernel
theorem dX10_readAtom_93 : decode cX10_readAtom 93 = .ok (.if_icmp .eq 9, 3) := by decide +kernel
theorem dX10_readAtom_96 : decode cX10_readAtom 96 = .ok (.aload_n 0, 1) := by decide +kernel
theorem dX10_readAtom_97 : decode cX10_readAtom 97 = .ok (.iconst 2, 1) := by decide +kernel
theorem dX10_readAtom_98 : decode cX10_readAtom 98 = .ok (.invokevirtual 319, 3) := by decide +kernel
theorem dX10_readAtom_101 : decode cX10_readAtom 101 = .ok (.ireturn, 1) := by decide +kernel
theorem dX10_readAtom_102 : decode cX10_readAtom 102 = .ok (.aload_n 0, 1) := by decide +kernel
theorem dX10_readAtom_103 : decode cX10_readAtom 103 = .ok (.getfield 289, 3) := by decide +kernel
theorem dX10_readAtom_106 : decode cX10_readAtom 106 = .ok (.invokestatic 377, 3) := by decide +kernel
theorem dX10_readAtom_109 : decode cX10_readAtom 109 = .ok (.istore_n 2, 1) := by decide +kernel
theorem dX10_readAtom_110 : decode cX10_readAtom 110 = .ok (.aload_n 0, 1) := by decide +kernel
theorem dX10_readAtom_111 : decode cX10_readAtom 111 = .ok (.ldc_w 381, 3) := by decide +kernel
theorem dX10_readAtom_114 : decode cX10_readAtom 114 = .ok (.invokevirtual 325, 3) := by decide +kernel
theorem dX10_readAtom_117 : decode cX10_readAtom 117 = .ok (.ifCond .ne 13, 3) := by decide +kernel
theorem dX10_readAtom_120 : decode cX10_readAtom 120 = .ok (.aload_n 0, 1) := by decide +kernel
theorem dX10_readAtom_121 : decode cX10_readAtom 121 = .ok (.ldc_w 383, 3) := by decide +kernel
theorem dX10_readAtom_124 : decode cX10_readAtom 124 = .ok (.invokevirtual 325, 3) := by decide +kernel
theorem dX10_readAtom_127 : decode cX10_readAtom 127 = .ok (.ifCond .eq 41, 3) := by decide +kernel
theorem dX10_readAtom_130 : decode cX10_readAtom 130 = .ok (.aload_n 0, 1) := by decide +kernel
theorem dX10_readAtom_131 : decode cX10_readAtom 131 = .ok (.getfield 52, 3) := by decide +kernel
theorem dX10_readAtom_134 : decode cX10_readAtom 134 = .ok (.iload_n 1, 1) := by decide +kernel
theorem dX10_readAtom_135 : decode cX10_readAtom 135 = .ok (.iconst 2, 1) := by decide +kernel
theorem dX10_readAtom_136 : decode cX10_readAtom 136 = .ok (.iastore, 1) := by decide +kernel
theorem dX10_readAtom_137 : decode cX10_readAtom 137 = .ok (.aload_n 0, 1) := by decide +kernel
theorem dX10_readAtom_138 : decode cX10_readAtom 138 = .ok (.getfield 55, 3) := by decide +kernel
theorem dX10_readAtom_141 : decode cX10_readAtom 141 = .ok (.iload_n 1, 1) := by decide +kernel
theorem dX10_readAtom_142 : decode cX10_readAtom 142 = .ok (.iconst 0, 1) := by decide +kernel
theorem dX10_readAtom_143 : decode cX10_readAtom 143 = .ok (.iastore, 1) := by decide +kernel
theorem dX10_readAtom_144 : decode cX10_readAtom 144 = .ok (.aload_n 0, 1) := by decide +kernel
theorem dX10_readAtom_145 : decode cX10_readAtom 145 = .ok (.getfield 58, 3) := by decide +kernel
theorem dX10_readAtom_148 : decode cX10_readAtom 148 = .ok (.iload_n 1, 1) := by decide +kernel
theorem dX10_readAtom_149 : decode cX10_readAtom 149 = .ok (.aload_n 0, 1) := by decide +kernel
theorem dX10_readAtom_150 : decode cX10_readAtom 150 = .ok (.ldc_w 381, 3) := by decide +kernel
theorem dX10_readAtom_153 : decode cX10_readAtom 153 = .ok (.invokevirtual 325, 3) := by decide +kernel
theorem dX10_readAtom_156 : decode cX10_readAtom 156 = .ok (.ifCond .eq 7, 3) := by decide +kernel
theorem dX10_readAtom_159 : decode cX10_readAtom 159 = .ok (.lconst 1, 1) := by decide +kernel
theorem dX10_readAtom_160 : decode cX10_readAtom 160 = .ok (.goto 4, 3) := by decide +kernel
theorem dX10_readAtom_163 : decode cX10_readAtom 163 = .ok (.lconst 0, 1) := by decide +kernel
theorem dX10_readAtom_164 : decode cX10_readAtom 164 = .ok (.lastore, 1) := by decide +kernel
theorem dX10_readAtom_165 : decode cX10_readAtom 165 = .ok (.goto 58, 3) := by decide +kernel
theorem dX10_readAtom_168 : decode cX10_readAtom 168 = .ok (.aload_n 0, 1) := by decide +kernel
theorem dX10_readAtom_169 : decode cX10_readAtom 169 = .ok (.ldc_w 385, 3) := by decide +kernel
theorem dX10_readAtom_172 : decode cX10_readAtom 172 = .ok (.invokevirtual 325, 3) := by decide +kernel
theorem dX10_readAtom_175 : decode cX10_readAtom 175 = .ok (.ifCond .eq 13, 3) := by decide +kernel
theorem dX10_readAtom_178 : decode cX10_readAtom 178 = .ok (.aload_n 0, 1) := by decide +kernel
theorem dX10_readAtom_179 : decode cX10_readAtom 179 = .ok (.getfield 52, 3) := by decide +kernel
theorem dX10_readAtom_182 : decode cX10_readAtom 182 = .ok (.iload_n 1, 1) := by decide +kernel
theorem dX10_readAtom_183 : decode cX10_readAtom 183 = .ok (.iconst 3, 1) := by decide +kernel
theorem dX10_readAtom_184 : decode cX10_readAtom 184 = .ok (.iastore, 1) := by decide +kernel
theorem dX10_readAtom_185 : decode cX10_readAtom 185 = .ok (.goto 38, 3) := by decide +kernel
theorem dX10_readAtom_188 : decode cX10_readAtom 188 = .ok (.iload_n 2, 1) := by decide +kernel
theorem dX10_readAtom_189 : decode cX10_readAtom 189 = .ok (.bipush 7, 2) := by decide +kernel
theorem dX10_readAtom_191 : decode cX10_readAtom 191 = .ok (.if_icmp .le 26, 3) := by decide +kernel
theorem dX10_readAtom_194 : decode cX10_readAtom 194 = .ok (.iload_n 2, 1) := by decide +kernel
theorem dX10_readAtom_195 : decode cX10_readAtom 195 = .ok (.bipush 15, 2) := by decide +kernel
theorem dX10_readAtom_197 : decode cX10_readAtom 197 = .ok (.if_icmp .ge 20, 3) := by decide +kernel
theorem dX10_readAtom_200 : decode cX10_readAtom 200 = .ok (.aload_n 0, 1) := by decide +kernel
theorem dX10_readAtom_201 : decode cX10_readAtom 201 = .ok (.getfield 52, 3) := by decide +kernel
theorem dX10_readAtom_204 : decode cX10_readAtom 204 = .ok (.iload_n 1, 1) := by decide +kernel
theorem dX10_readAtom_205 : decode cX10_readAtom 205 = .ok (.iconst 4, 1) := by decide +kernel
theorem dX10_readAtom_206 : decode cX10_readAtom 206 = .ok (.iastore, 1) := by decide +kernel
theorem dX10_readAtom_207 : decode cX10_readAtom 207 = .ok (.aload_n 0, 1) := by decide +kernel
theorem dX10_readAtom_208 : decode cX10_readAtom 208 = .ok (.getfield 55, 3) := by decide +kernel
theorem dX10_readAtom_211 : decode cX10_readAtom 211 = .ok (.iload_n 1, 1) := by decide +kernel
theorem dX10_readAtom_212 : decode cX10_readAtom 212 = .ok (.iload_n 2, 1) := by decide +kernel
theorem dX10_readAtom_213 : decode cX10_readAtom 213 = .ok (.iastore, 1) := by decide +kernel
theorem dX10_readAtom_214 : decode cX10_readAtom 214 = .ok (.goto 9, 3) := by decide +kernel
theorem dX10_readAtom_217 : decode cX10_readAtom 217 = .ok (.aload_n 0, 1) := by decide +kernel
theorem dX10_readAtom_218 : decode cX10_readAtom 218 = .ok (.iconst 2, 1) := by decide +kernel
theorem dX10_readAtom_219 : decode cX10_readAtom 219 = .ok (.invokevirtual 319, 3) := by decide +kernel
theorem dX10_readAtom_222 : decode cX10_readAtom 222 = .ok (.ireturn, 1) := by decide +kernel
theorem dX10_readAtom_223 : decode cX10_readAtom 223 = .ok (.aload_n 0, 1) := by decide +kernel
theorem dX10_readAtom_224 : decode cX10_readAtom 224 = .ok (.invokevirtual 322, 3) := by decide +kernel
theorem dX10_readAtom_227 : decode cX10_readAtom 227 = .ok (.iconst 1, 1) := by decide +kernel
theorem dX10_readAtom_228 : decode cX10_readAtom 228 = .ok (.ireturn, 1) := by decide +kernel
theorem dX10_readKind_0 : decode cX10_readKind 0 = .ok (.aload_n 0, 1) := by decide +kernel
theorem dX10_readKind_1 : decode cX10_readKind 1 = .ok (.getfield 273, 3) := by decide +kernel
theorem dX10_readKind_4 : decode cX10_readKind 4 = .ok (.iconst 2, 1) := by decide +kernel
theorem dX10_readKind_5 : decode cX10_readKind 5 = .ok (.if_icmp .ne 13, 3) := by decide +kernel
theorem dX10_readKind_8 : decode cX10_readKind 8 = .ok (.aload_n 0, 1) := by decide +kernel
theorem dX10_readKind_9 : decode cX10_readKind 9 = .ok (.getfield 289, 3) := by decide +kernel
theorem dX10_readKind_12 : decode cX10_readKind 12 = .ok (.invokestatic 377, 3) := by decide +kernel
theorem dX10_readKind_15 : decode cX10_readKind 15 = .ok (.goto 4, 3) := by decide +kernel
theorem dX10_readKind_18 : decode cX10_readKind 18 = .ok (.iconst (-1), 1) := by decide +kernel
theorem dX10_readKind_19 : decode cX10_readKind 19 = .ok (.istore_n 3, 1) := by decide +kernel
theorem dX10_readKind_20 : decode cX10_readKind 20 = .ok (.iload_n 3, 1) := by decide +kernel
theorem dX10_readKind_21 : decode cX10_readKind 21 = .ok (.iconst (-1), 1) := by decide +kernel
theorem dX10_readKind_22 : decode cX10_readKind 22 = .ok (.if_icmp .eq 8, 3) := by decide +kernel
theorem dX10_readKind_25 : decode cX10_readKind 25 = .ok (.iload_n 3, 1) := by decide +kernel
theorem dX10_readKind_26 : decode cX10_readKind 26 = .ok (.iload_n 2, 1) := by decide +kernel
theorem dX10_readKind_27 : decode cX10_readKind 27 = .ok (.if_icmp .lt 9, 3) := by decide +kernel
theorem dX10_readKind_30 : decode cX10_readKind 30 = .ok (.aload_n 0, 1) := by decide +kernel
theorem dX10_readKind_31 : decode cX10_readKind 31 = .ok (.iconst 2, 1) := by decide +kernel
theorem dX10_readKind_32 : decode cX10_readKind 32 = .ok (.invokevirtual 319, 3) := by decide +kernel
theorem dX10_readKind_35 : decode cX10_readKind 35 = .ok (.ireturn, 1) := by decide +kernel
theorem dX10_readKind_36 : decode cX10_readKind 36 = .ok (.aload_n 0, 1) := by decide +kernel
theorem dX10_readKind_37 : decode cX10_readKind 37 = .ok (.getfield 40, 3) := by decide +kernel
theorem dX10_readKind_40 : decode cX10_readKind 40 = .ok (.iload_n 1, 1) := by decide +kernel
theorem dX10_readKind_41 : decode cX10_readKind 41 = .ok (.iload_n 3, 1) := by decide +kernel
theorem dX10_readKind_42 : decode cX10_readKind 42 = .ok (.iastore, 1) := by decide +kernel
theorem dX10_readKind_43 : decode cX10_readKind 43 = .ok (.aload_n 0, 1) := by decide +kernel
theorem dX10_readKind_44 : decode cX10_readKind 44 = .ok (.invokevirtual 322, 3) := by decide +kernel
theorem dX10_readKind_47 : decode cX10_readKind 47 = .ok (.iconst 1, 1) := by decide +kernel
theorem dX10_readKind_48 : decode cX10_readKind 48 = .ok (.ireturn, 1) := by decide +kernel
theorem dX10_readClass_0 : decode cX10_readClass 0 = .ok (.aload_n 0, 1) := by decide +kernel
theorem dX10_readClass_1 : decode cX10_readClass 1 = .ok (.getfield 270, 3) := by decide +kernel
theorem dX10_readClass_4 : decode cX10_readClass 4 = .ok (.istore_n 2, 1) := by decide +kernel
theorem dX10_readClass_5 : decode cX10_readClass 5 = .ok (.aload_n 0, 1) := by decide +kernel
theorem dX10_readClass_6 : decode cX10_readClass 6 = .ok (.iload_n 1, 1) := by decide +kernel
theorem dX10_readClass_7 : decode cX10_readClass 7 = .ok (.bipush 17, 2) := by decide +kernel
theorem dX10_readClass_9 : decode cX10_readClass 9 = .ok (.invokevirtual 387, 3) := by decide +kernel
theorem dX10_readClass_12 : decode cX10_readClass 12 = .ok (.ifCond .ne 5, 3) := by decide +kernel
theorem dX10_readClass_15 : decode cX10_readClass 15 = .ok (.iconst 0, 1) := by decide +kernel
theorem dX10_readClass_16 : decode cX10_readClass 16 = .ok (.ireturn, 1) := by decide +kernel
theorem dX10_readClass_17 : decode cX10_readClass 17 = .ok (.iconst 0, 1) := by decide +kernel
theorem dX10_readClass_18 : decode cX10_readClass 18 = .ok (.istore_n 3, 1) := by decide +kernel
theorem dX10_readClass_19 : decode cX10_readClass 19 = .ok (.aload_n 0, 1) := by decide +kernel
theorem dX10_readClass_20 : decode cX10_readClass 20 = .ok (.bipush 91, 2) := by decide +kernel
theorem dX10_readClass_22 : decode cX10_readClass 22 = .ok (.invokevirtual 316, 3) := by decide +kernel
theorem dX10_readClass_25 : decode cX10_readClass 25 = .ok (.ifCond .eq 35, 3) := by decide +kernel
theorem dX10_readClass_28 : decode cX10_readClass 28 = .ok (.iload_n 3, 1) := by decide +kernel
theorem dX10_readClass_29 : decode cX10_readClass 29 = .ok (.iconst 3, 1) := by decide +kernel
theorem dX10_readClass_30 : decode cX10_readClass 30 = .ok (.if_icmp .ne 9, 3) := by decide +kernel
theorem dX10_readClass_33 : decode cX10_readClass 33 = .ok (.aload_n 0, 1) := by decide +kernel
theorem dX10_readClass_34 : decode cX10_readClass 34 = .ok (.iconst 4, 1) := by decide +kernel
theorem dX10_readClass_35 : decode cX10_readClass 35 = .ok (.invokevirtual 319, 3) := by decide +kernel
theorem dX10_readClass_38 : decode cX10_readClass 38 = .ok (.ireturn, 1) := by decide +kernel
theorem dX10_readClass_39 : decode cX10_readClass 39 = .ok (.aload_n 0, 1) := by decide +kernel
theorem dX10_readClass_40 : decode cX10_readClass 40 = .ok (.invokevirtual 322, 3) := by decide +kernel
theorem dX10_readClass_43 : decode cX10_readClass 43 = .ok (.aload_n 0, 1) := by decide +kernel
theorem dX10_readClass_44 : decode cX10_readClass 44 = .ok (.bipush 93, 2) := by decide +kernel
theorem dX10_readClass_46 : decode cX10_readClass 46 = .ok (.invokevirtual 365, 3) := by decide +kernel
theorem dX10_readClass_49 : decode cX10_readClass 49 = .ok (.ifCond .ne 5, 3) := by decide +kernel
theorem dX10_readClass_52 : decode cX10_readClass 52 = .ok (.iconst 0, 1) := by decide +kernel
theorem dX10_readClass_53 : decode cX10_readClass 53 = .ok (.ireturn, 1) := by decide +kernel
theorem dX10_readClass_54 : decode cX10_readClass 54 = .ok (.iinc 3 1, 3) := by decide +kernel
theorem dX10_readClass_57 : decode cX10_readClass 57 = .ok (.goto (-38), 3) := by decide +kernel
theorem dX10_readClass_60 : decode cX10_readClass 60 = .ok (.iload_n 3, 1) := by decide +kernel
theorem dX10_readClass_61 : decode cX10_readClass 61 = .ok (.ifCond .ne 26, 3) := by decide +kernel
theorem dX10_readClass_64 : decode cX10_readClass 64 = .ok (.aload_n 0, 1) := by decide +kernel
theorem dX10_readClass_65 : decode cX10_readClass 65 = .ok (.getfield 40, 3) := by decide +kernel
theorem dX10_readClass_68 : decode cX10_readClass 68 = .ok (.iload_n 1, 1) := by decide +kernel
theorem dX10_readClass_69 : decode cX10_readClass 69 = .ok (.iaload, 1) := by decide +kernel
theorem dX10_readClass_70 : decode cX10_readClass 70 = .ok (.bipush 14, 2) := by decide +kernel
theorem dX10_readClass_72 : decode cX10_readClass 72 = .ok (.if_icmp .le 15, 3) := by decide +kernel
theorem dX10_readClass_75 : decode cX10_readClass 75 = .ok (.aload_n 0, 1) := by decide +kernel
theorem dX10_readClass_76 : decode cX10_readClass 76 = .ok (.iconst 3, 1) := by decide +kernel
theorem dX10_readClass_77 : decode cX10_readClass 77 = .ok (.putfield 310, 3) := by decide +kernel
theorem dX10_readClass_80 : decode cX10_readClass 80 = .ok (.aload_n 0, 1) := by decide +kernel
theorem dX10_readClass_81 : decode cX10_readClass 81 = .ok (.iload_n 2, 1) := by decide +kernel
theorem dX10_readClass_82 : decode cX10_readClass 82 = .ok (.putfield 313, 3) := by decide +kernel
theorem dX10_readClass_85 : decode cX10_readClass 85 = .ok (.iconst 0, 1) := by decide +kernel
theorem dX10_readClass_86 : decode cX10_readClass 86 = .ok (.ireturn, 1) := by decide +kernel
theorem dX10_readClass_87 : decode cX10_readClass 87 = .ok (.aload_n 0, 1) := by decide +kernel
theorem dX10_readClass_88 : decode cX10_readClass 88 = .ok (.getfield 40, 3) := by decide +kernel
theorem dX10_readClass_91 : decode cX10_readClass 91 = .ok (.iload_n 1, 1) := by decide +kernel
theorem dX10_readClass_92 : decode cX10_readClass 92 = .ok (.dup2, 1) := by decide +kernel
theorem dX10_readClass_93 : decode cX10_readClass 93 = .ok (.iaload, 1) := by decide +kernel
theorem dX10_readClass_94 : decode cX10_readClass 94 = .ok (.bipush 20, 2) := by decide +kernel
theorem dX10_readClass_96 : decode cX10_readClass 96 = .ok (.iload_n 3, 1) := by decide +kernel
theorem dX10_readClass_97 : decode cX10_readClass 97 = .ok (.imul, 1) := by decide +kernel
theorem dX10_readClass_98 : decode cX10_readClass 98 = .ok (.iadd, 1) := by decide +kernel
theorem dX10_readClass_99 : decode cX10_readClass 99 = .ok (.iastore, 1) := by decide +kernel
theorem dX10_readClass_100 : decode cX10_readClass 100 = .ok (.iconst 1, 1) := by decide +kernel
theorem dX10_readClass_101 : decode cX10_readClass 101 = .ok (.ireturn, 1) := by decide +kernel
theorem dX10_readLengths_0 : decode cX10_readLengths 0 = .ok (.iconst 0, 1) := by decide +kernel
theorem dX10_readLengths_1 : decode cX10_readLengths 1 = .ok (.istore_n 2, 1) := by decide +kernel
theorem dX10_readLengths_2 : decode cX10_readLengths 2 = .ok (.iconst 0, 1) := by decide +kernel
theorem dX10_readLengths_3 : decode cX10_readLengths 3 = .ok (.istore_n 3, 1) := by decide +kernel
theorem dX10_readLengths_4 : decode cX10_readLengths 4 = .ok (.iconst 1, 1) := by decide +kernel
theorem dX10_readLengths_5 : decode cX10_readLengths 5 = .ok (.istore 4, 2) := by decide +kernel
theorem dX10_readLengths_7 : decode cX10_readLengths 7 = .ok (.aload_n 0, 1) := by decide +kernel
theorem dX10_readLengths_8 : decode cX10_readLengths 8 = .ok (.bipush 91, 2) := by decide +kernel
theorem dX10_readLengths_10 : decode cX10_readLengths 10 = .ok (.invokevirtual 316, 3) := by decide +kernel
theorem dX10_readLengths_13 : decode cX10_readLengths 13 = .ok (.ifCond .ne 9, 3) := by decide +kernel
theorem dX10_readLengths_16 : decode cX10_readLengths 16 = .ok (.aload_n 0, 1) := by decide +kernel
theorem dX10_readLengths_17 : decode cX10_readLengths 17 = .ok (.iconst 2, 1) := by decide +kernel
theorem dX10_readLengths_18 : decode cX10_readLengths 18 = .ok (.invokevirtual 319, 3) := by decide +kernel
theorem dX10_readLengths_21 : decode cX10_readLengths 21 = .ok (.ireturn, 1) := by decide +kernel
theorem dX10_readLengths_22 : decode cX10_readLengths 22 = .ok (.aload_n 0, 1) := by decide +kernel
theorem dX10_readLengths_23 : decode cX10_readLengths 23 = .ok (.bipush 91, 2) := by decide +kernel
theorem dX10_readLengths_25 : decode cX10_readLengths 25 = .ok (.invokevirtual 316, 3) := by decide +kernel
theorem dX10_readLengths_28 : decode cX10_readLengths 28 = .ok (.ifCond .eq 79, 3) := by decide +kernel
theorem dX10_readLengths_31 : decode cX10_readLengths 31 = .ok (.iload_n 2, 1) := by decide +kernel
theorem dX10_readLengths_32 : decode cX10_readLengths 32 = .ok (.iconst 3, 1) := by decide +kernel
theorem dX10_readLengths_33 : decode cX10_readLengths 33 = .ok (.if_icmp .ne 9, 3) := by decide +kernel
theorem dX10_readLengths_36 : decode cX10_readLengths 36 = .ok (.aload_n 0, 1) := by decide +kernel
theorem dX10_readLengths_37 : decode cX10_readLengths 37 = .ok (.iconst 4, 1) := by decide +kernel
theorem dX10_readLengths_38 : decode cX10_readLengths 38 = .ok (.invokevirtual 319, 3) := by decide +kernel
theorem dX10_readLengths_41 : decode cX10_readLengths 41 = .ok (.ireturn, 1) := by decide +kernel
theorem dX10_readLengths_42 : decode cX10_readLengths 42 = .ok (.aload_n 0, 1) := by decide +kernel
theorem dX10_readLengths_43 : decode cX10_readLengths 43 = .ok (.invokevirtual 322, 3) := by decide +kernel
theorem dX10_readLengths_46 : decode cX10_readLengths 46 = .ok (.aload_n 0, 1) := by decide +kernel
theorem dX10_readLengths_47 : decode cX10_readLengths 47 = .ok (.bipush 93, 2) := by decide +kernel
theorem dX10_readLengths_49 : decode cX10_readLengths 49 = .ok (.invokevirtual 316, 3) := by decide +kernel
theorem dX10_readLengths_52 : decode cX10_readLengths 52 = .ok (.ifCond .eq 13, 3) := by decide +kernel
theorem dX10_readLengths_55 : decode cX10_readLengths 55 = .ok (.iload_n 2, 1) := by decide +kernel
theorem dX10_readLengths_56 : decode cX10_readLengths 56 = .ok (.ifCond .le 9, 3) := by decide +kernel
theorem dX10_readLengths_59 : decode cX10_readLengths 59 = .ok (.iconst 0, 1) := by decide +kernel
theorem dX10_readLengths_60 : decode cX10_readLengths 60 = .ok (.istore 4, 2) := by decide +kernel
theorem dX10_readLengths_62 : decode cX10_readLengths 62 = .ok (.goto 28, 3) := by decide +kernel
theorem dX10_readLengths_65 : decode cX10_readLengths 65 = .ok (.iload 4, 2) := by decide +kernel
theorem dX10_readLengths_67 : decode cX10_readLengths 67 = .ok (.ifCond .ne 9, 3) := by decide +kernel
theorem dX10_readLengths_70 : decode cX10_readLengths 70 = .ok (.aload_n 0, 1) := by decide +kernel
theorem dX10_readLengths_71 : decode cX10_readLengths 71 = .ok (.iconst 2, 1) := by decide +kernel
theorem dX10_readLengths_72 : decode cX10_readLengths 72 = .ok (.invokevirtual 319, 3) := by decide +kernel
theorem dX10_readLengths_75 : decode cX10_readLengths 75 = .ok (.ireturn, 1) := by decide +kernel
theorem dX10_readLengths_76 : decode cX10_readLengths 76 = .ok (.aload_n 0, 1) := by decide +kernel
theorem dX10_readLengths_77 : decode cX10_readLengths 77 = .ok (.iload_n 1, 1) := by decide +kernel
theorem dX10_readLengths_78 : decode cX10_readLengths 78 = .ok (.iload_n 2, 1) := by decide +kernel
theorem dX10_readLengths_79 : decode cX10_readLengths 79 = .ok (.invokevirtual 368, 3) := by decide +kernel
theorem dX10_readLengths_82 : decode cX10_readLengths 82 = .ok (.ifCond .ne 5, 3) := by decide +kernel
theorem dX10_readLengths_85 : decode cX10_readLengths 85 = .ok (.iconst 0, 1) := by decide +kernel
theorem dX10_readLengths_86 : decode cX10_readLengths 86 = .ok (.ireturn, 1) := by decide +kernel
theorem dX10_readLengths_87 : decode cX10_readLengths 87 = .ok (.iinc 3 1, 3) := by decide +kernel
theorem dX10_readLengths_90 : decode cX10_readLengths 90 = .ok (.aload_n 0, 1) := by decide +kernel
theorem dX10_readLengths_91 : decode cX10_readLengths 91 = .ok (.bipush 93, 2) := by decide +kernel
theorem dX10_readLengths_93 : decode cX10_readLengths 93 = .ok (.invokevirtual 365, 3) := by decide +kernel
theorem dX10_readLengths_96 : decode cX10_readLengths 96 = .ok (.ifCond .ne 5, 3) := by decide +kernel
theorem dX10_readLengths_99 : decode cX10_readLengths 99 = .ok (.iconst 0, 1) := by decide +kernel
theorem dX10_readLengths_100 : decode cX10_readLengths 100 = .ok (.ireturn, 1) := by decide +kernel
theorem dX10_readLengths_101 : decode cX10_readLengths 101 = .ok (.iinc 2 1, 3) := by decide +kernel
theorem dX10_readLengths_104 : decode cX10_readLengths 104 = .ok (.goto (-82), 3) := by decide +kernel
theorem dX10_readLengths_107 : decode cX10_readLengths 107 = .ok (.aload_n 0, 1) := by decide +kernel
theorem dX10_readLengths_108 : decode cX10_readLengths 108 = .ok (.getfield 43, 3) := by decide +kernel
theorem dX10_readLengths_111 : decode cX10_readLengths 111 = .ok (.iload_n 1, 1) := by decide +kernel
theorem dX10_readLengths_112 : decode cX10_readLengths 112 = .ok (.iload_n 3, 1) := by decide +kernel
theorem dX10_readLengths_113 : decode cX10_readLengths 113 = .ok (.iastore, 1) := by decide +kernel
theorem dX10_readLengths_114 : decode cX10_readLengths 114 = .ok (.aload_n 0, 1) := by decide +kernel
theorem dX10_readLengths_115 : decode cX10_readLengths 115 = .ok (.getfield 40, 3) := by decide +kernel
theorem dX10_readLengths_118 : decode cX10_readLengths 118 = .ok (.iload_n 1, 1) := by decide +kernel
theorem dX10_readLengths_119 : decode cX10_readLengths 119 = .ok (.dup2, 1) := by decide +kernel
theorem dX10_readLengths_120 : decode cX10_readLengths 120 = .ok (.iaload, 1) := by decide +kernel
theorem dX10_readLengths_121 : decode cX10_readLengths 121 = .ok (.bipush 20, 2) := by decide +kernel
theorem dX10_readLengths_123 : decode cX10_readLengths 123 = .ok (.iload_n 2, 1) := by decide +kernel
theorem dX10_readLengths_124 : decode cX10_readLengths 124 = .ok (.imul, 1) := by decide +kernel
theorem dX10_readLengths_125 : decode cX10_readLengths 125 = .ok (.iadd, 1) := by decide +kernel
theorem dX10_readLengths_126 : decode cX10_readLengths 126 = .ok (.iastore, 1) := by decide +kernel
theorem dX10_readLengths_127 : decode cX10_readLengths 127 = .ok (.iconst 1, 1) := by decide +kernel
theorem dX10_readLengths_128 : decode cX10_readLengths 128 = .ok (.ireturn, 1) := by decide +kernel
theorem dX10_readRefusal_0 : decode cX10_readRefusal 0 = .ok (.aload_n 0, 1) := by decide +kernel
theorem dX10_readRefusal_1 : decode cX10_readRefusal 1 = .ok (.getfield 273, 3) := by decide +kernel
theorem dX10_readRefusal_4 : decode cX10_readRefusal 4 = .ok (.iconst 2, 1) := by decide +kernel
theorem dX10_readRefusal_5 : decode cX10_readRefusal 5 = .ok (.if_icmp .ne 13, 3) := by decide +kernel
theorem dX10_readRefusal_8 : decode cX10_readRefusal 8 = .ok (.aload_n 0, 1) := by decide +kernel
theorem dX10_readRefusal_9 : decode cX10_readRefusal 9 = .ok (.getfield 289, 3) := by decide +kernel
theorem dX10_readRefusal_12 : decode cX10_readRefusal 12 = .ok (.invokestatic 390, 3) := by decide +kernel
theorem dX10_readRefusal_15 : decode cX10_readRefusal 15 = .ok (.ifCond .ne 9, 3) := by decide +kernel
theorem dX10_readRefusal_18 : decode cX10_readRefusal 18 = .ok (.aload_n 0, 1) := by decide +kernel
theorem dX10_readRefusal_19 : decode cX10_readRefusal 19 = .ok (.iconst 2, 1) := by decide +kernel
theorem dX10_readRefusal_20 : decode cX10_readRefusal 20 = .ok (.invokevirtual 319, 3) := by decide +kernel
theorem dX10_readRefusal_23 : decode cX10_readRefusal 23 = .ok (.ireturn, 1) := by decide +kernel
theorem dX10_readRefusal_24 : decode cX10_readRefusal 24 = .ok (.iconst 1, 1) := by decide +kernel
theorem dX10_readRefusal_25 : decode cX10_readRefusal 25 = .ok (.ireturn, 1) := by decide +kernel
theorem dX10_canBegin_0 : decode cX10_canBegin 0 = .ok (.aload_n 0, 1) := by decide +kernel
theorem dX10_canBegin_1 : decode cX10_canBegin 1 = .ok (.ldc_w 393, 3) := by decide +kernel
theorem dX10_canBegin_4 : decode cX10_canBegin 4 = .ok (.invokevirtual 325, 3) := by decide +kernel
theorem dX10_canBegin_7 : decode cX10_canBegin 7 = .ok (.ifCond .ne 38, 3) := by decide +kernel
theorem dX10_canBegin_10 : decode cX10_canBegin 10 = .ok (.aload_n 0, 1) := by decide +kernel
theorem dX10_canBegin_11 : decode cX10_canBegin 11 = .ok (.ldc_w 394, 3) := by decide +kernel
theorem dX10_canBegin_14 : decode cX10_canBegin 14 = .ok (.invokevirtual 325, 3) := by decide +kernel
theorem dX10_canBegin_17 : decode cX10_canBegin 17 = .ok (.ifCond .ne 28, 3) := by decide +kernel
theorem dX10_canBegin_20 : decode cX10_canBegin 20 = .ok (.aload_n 0, 1) := by decide +kernel
theorem dX10_canBegin_21 : decode cX10_canBegin 21 = .ok (.invokevirtual 328, 3) := by decide +kernel
theorem dX10_canBegin_24 : decode cX10_canBegin 24 = .ok (.ifCond .ne 21, 3) := by decide +kernel
theorem dX10_canBegin_27 : decode cX10_canBegin 27 = .ok (.aload_n 0, 1) := by decide +kernel
theorem dX10_canBegin_28 : decode cX10_canBegin 28 = .ok (.getfield 273, 3) := by decide +kernel
theorem dX10_canBegin_31 : decode cX10_canBegin 31 = .ok (.iconst 2, 1) := by decide +kernel
theorem dX10_canBegin_32 : decode cX10_canBegin 32 = .ok (.if_icmp .ne 17, 3) := by decide +kernel
theorem dX10_canBegin_35 : decode cX10_canBegin 35 = .ok (.aload_n 0, 1) := by decide +kernel
theorem dX10_canBegin_36 : decode cX10_canBegin 36 = .ok (.getfield 289, 3) := by decide +kernel
theorem dX10_canBegin_39 : decode cX10_canBegin 39 = .ok (.invokestatic 395, 3) := by decide +kernel
theorem dX10_canBegin_42 : decode cX10_canBegin 42 = .ok (.ifCond .le 7, 3) := by decide +kernel
theorem dX10_canBegin_45 : decode cX10_canBegin 45 = .ok (.iconst 1, 1) := by decide +kernel
theorem dX10_canBegin_46 : decode cX10_canBegin 46 = .ok (.goto 4, 3) := by decide +kernel
theorem dX10_canBegin_49 : decode cX10_canBegin 49 = .ok (.iconst 0, 1) := by decide +kernel
theorem dX10_canBegin_50 : decode cX10_canBegin 50 = .ok (.ireturn, 1) := by decide +kernel
theorem dX10_manyAts_0 : decode cX10_manyAts 0 = .ok (.aload_n 0, 1) := by decide +kernel
theorem dX10_manyAts_1 : decode cX10_manyAts 1 = .ok (.getfield 43, 3) := by decide +kernel
theorem dX10_manyAts_4 : decode cX10_manyAts 4 = .ok (.iload_n 1, 1) := by decide +kernel
theorem dX10_manyAts_5 : decode cX10_manyAts 5 = .ok (.iload_n 2, 1) := by decide +kernel
theorem dX10_manyAts_6 : decode cX10_manyAts 6 = .ok (.iastore, 1) := by decide +kernel
theorem dX10_manyAts_7 : decode cX10_manyAts 7 = .ok (.iconst 1, 1) := by decide +kernel
theorem dX10_manyAts_8 : decode cX10_manyAts 8 = .ok (.ireturn, 1) := by decide +kernel
theorem dX10_readOne_0 : decode cX10_readOne 0 = .ok (.aload_n 0, 1) := by decide +kernel
theorem dX10_readOne_1 : decode cX10_readOne 1 = .ok (.invokevirtual 359, 3) := by decide +kernel
theorem dX10_readOne_4 : decode cX10_readOne 4 = .ok (.ifCond .ne 5, 3) := by decide +kernel
theorem dX10_readOne_7 : decode cX10_readOne 7 = .ok (.iconst 0, 1) := by decide +kernel
theorem dX10_readOne_8 : decode cX10_readOne 8 = .ok (.ireturn, 1) := by decide +kernel
theorem dX10_readOne_9 : decode cX10_readOne 9 = .ok (.aload_n 0, 1) := by decide +kernel
theorem dX10_readOne_10 : decode cX10_readOne 10 = .ok (.getfield 34, 3) := by decide +kernel
theorem dX10_readOne_13 : decode cX10_readOne 13 = .ok (.iload_n 1, 1) := by decide +kernel
theorem dX10_readOne_14 : decode cX10_readOne 14 = .ok (.aload_n 0, 1) := by decide +kernel
theorem dX10_readOne_15 : decode cX10_readOne 15 = .ok (.getfield 332, 3) := by decide +kernel
theorem dX10_readOne_18 : decode cX10_readOne 18 = .ok (.iastore, 1) := by decide +kernel
theorem dX10_readOne_19 : decode cX10_readOne 19 = .ok (.iconst 1, 1) := by decide +kernel
theorem dX10_readOne_20 : decode cX10_readOne 20 = .ok (.ireturn, 1) := by decide +kernel
theorem dX10_readTwo_0 : decode cX10_readTwo 0 = .ok (.aload_n 0, 1) := by decide +kernel
theorem dX10_readTwo_1 : decode cX10_readTwo 1 = .ok (.invokevirtual 359, 3) := by decide +kernel
theorem dX10_readTwo_4 : decode cX10_readTwo 4 = .ok (.ifCond .ne 5, 3) := by decide +kernel
theorem dX10_readTwo_7 : decode cX10_readTwo 7 = .ok (.iconst 0, 1) := by decide +kernel
theorem dX10_readTwo_8 : decode cX10_readTwo 8 = .ok (.ireturn, 1) := by decide +kernel
theorem dX10_readTwo_9 : decode cX10_readTwo 9 = .ok (.aload_n 0, 1) := by decide +kernel
theorem dX10_readTwo_10 : decode cX10_readTwo 10 = .ok (.getfield 37, 3) := by decide +kernel
theorem dX10_readTwo_13 : decode cX10_readTwo 13 = .ok (.iload_n 1, 1) := by decide +kernel
theorem dX10_readTwo_14 : decode cX10_readTwo 14 = .ok (.aload_n 0, 1) := by decide +kernel
theorem dX10_readTwo_15 : decode cX10_readTwo 15 = .ok (.getfield 332, 3) := by decide +kernel
theorem dX10_readTwo_18 : decode cX10_readTwo 18 = .ok (.iastore, 1) := by decide +kernel
theorem dX10_readTwo_19 : decode cX10_readTwo 19 = .ok (.iconst 1, 1) := by decide +kernel
theorem dX10_readTwo_20 : decode cX10_readTwo 20 = .ok (.ireturn, 1) := by decide +kernel
theorem dX10_readGiven_0 : decode cX10_readGiven 0 = .ok (.iload_n 2, 1) := by decide +kernel
theorem dX10_readGiven_1 : decode cX10_readGiven 1 = .ok (.tableswitch 165 4 16 #[67, 165, 91, 165, 97, 165, 121, 121, 143, 165, 165, 165, 143], 67) := by decide +kernel
theorem dX10_readGiven_68 : decode cX10_readGiven 68 = .ok (.aload_n 0, 1) := by decide +kernel
theorem dX10_readGiven_69 : decode cX10_readGiven 69 = .ok (.iload_n 1, 1) := by decide +kernel
theorem dX10_readGiven_70 : decode cX10_readGiven 70 = .ok (.bipush 8, 2) := by decide +kernel
theorem dX10_readGiven_72 : decode cX10_readGiven 72 = .ok (.invokevirtual 387, 3) := by decide +kernel
theorem dX10_readGiven_75 : decode cX10_readGiven 75 = .ok (.ifCond .eq 15, 3) := by decide +kernel
theorem dX10_readGiven_78 : decode cX10_readGiven 78 = .ok (.aload_n 0, 1) := by decide +kernel
theorem dX10_readGiven_79 : decode cX10_readGiven 79 = .ok (.iload_n 1, 1) := by decide +kernel
theorem dX10_readGiven_80 : decode cX10_readGiven 80 = .ok (.invokevirtual 416, 3) := by decide +kernel
theorem dX10_readGiven_83 : decode cX10_readGiven 83 = .ok (.ifCond .eq 7, 3) := by decide +kernel
theorem dX10_readGiven_86 : decode cX10_readGiven 86 = .ok (.iconst 1, 1) := by decide +kernel
theorem dX10_readGiven_87 : decode cX10_readGiven 87 = .ok (.goto 4, 3) := by decide +kernel
theorem dX10_readGiven_90 : decode cX10_readGiven 90 = .ok (.iconst 0, 1) := by decide +kernel
theorem dX10_readGiven_91 : decode cX10_readGiven 91 = .ok (.ireturn, 1) := by decide +kernel
theorem dX10_readGiven_92 : decode cX10_readGiven 92 = .ok (.aload_n 0, 1) := by decide +kernel
theorem dX10_readGiven_93 : decode cX10_readGiven 93 = .ok (.iload_n 1, 1) := by decide +kernel
theorem dX10_readGiven_94 : decode cX10_readGiven 94 = .ok (.invokevirtual 416, 3) := by decide +kernel
theorem dX10_readGiven_97 : decode cX10_readGiven 97 = .ok (.ireturn, 1) := by decide +kernel
theorem dX10_readGiven_98 : decode cX10_readGiven 98 = .ok (.aload_n 0, 1) := by decide +kernel
theorem dX10_readGiven_99 : decode cX10_readGiven 99 = .ok (.iload_n 1, 1) := by decide +kernel
theorem dX10_readGiven_100 : decode cX10_readGiven 100 = .ok (.bipush 17, 2) := by decide +kernel
theorem dX10_readGiven_102 : decode cX10_readGiven 102 = .ok (.invokevirtual 387, 3) := by decide +kernel
theorem dX10_readGiven_105 : decode cX10_readGiven 105 = .ok (.ifCond .eq 15, 3) := by decide +kernel
theorem dX10_readGiven_108 : decode cX10_readGiven 108 = .ok (.aload_n 0, 1) := by decide +kernel
theorem dX10_readGiven_109 : decode cX10_readGiven 109 = .ok (.iload_n 1, 1) := by decide +kernel
theorem dX10_readGiven_110 : decode cX10_readGiven 110 = .ok (.invokevirtual 436, 3) := by decide +kernel
theorem dX10_readGiven_113 : decode cX10_readGiven 113 = .ok (.ifCond .eq 7, 3) := by decide +kernel
theorem dX10_readGiven_116 : decode cX10_readGiven 116 = .ok (.iconst 1, 1) := by decide +kernel
theorem dX10_readGiven_117 : decode cX10_readGiven 117 = .ok (.goto 4, 3) := by decide +kernel
theorem dX10_readGiven_120 : decode cX10_readGiven 120 = .ok (.iconst 0, 1) := by decide +kernel
theorem dX10_readGiven_121 : decode cX10_readGiven 121 = .ok (.ireturn, 1) := by decide +kernel
theorem dX10_readGiven_122 : decode cX10_readGiven 122 = .ok (.aload_n 0, 1) := by decide +kernel
theorem dX10_readGiven_123 : decode cX10_readGiven 123 = .ok (.iload_n 1, 1) := by decide +kernel
theorem dX10_readGiven_124 : decode cX10_readGiven 124 = .ok (.invokevirtual 419, 3) := by decide +kernel
theorem dX10_readGiven_127 : decode cX10_readGiven 127 = .ok (.ifCond .eq 15, 3) := by decide +kernel
theorem dX10_readGiven_130 : decode cX10_readGiven 130 = .ok (.aload_n 0, 1) := by decide +kernel
theorem dX10_readGiven_131 : decode cX10_readGiven 131 = .ok (.iload_n 1, 1) := by decide +kernel
theorem dX10_readGiven_132 : decode cX10_readGiven 132 = .ok (.invokevirtual 439, 3) := by decide +kernel
theorem dX10_readGiven_135 : decode cX10_readGiven 135 = .ok (.ifCond .eq 7, 3) := by decide +kernel
theorem dX10_readGiven_138 : decode cX10_readGiven 138 = .ok (.iconst 1, 1) := by decide +kernel
theorem dX10_readGiven_139 : decode cX10_readGiven 139 = .ok (.goto 4, 3) := by decide +kernel
theorem dX10_readGiven_142 : decode cX10_readGiven 142 = .ok (.iconst 0, 1) := by decide +kernel
theorem dX10_readGiven_143 : decode cX10_readGiven 143 = .ok (.ireturn, 1) := by decide +kernel
theorem dX10_readGiven_144 : decode cX10_readGiven 144 = .ok (.aload_n 0, 1) := by decide +kernel
theorem dX10_readGiven_145 : decode cX10_readGiven 145 = .ok (.iload_n 1, 1) := by decide +kernel
theorem dX10_readGiven_146 : decode cX10_readGiven 146 = .ok (.invokevirtual 419, 3) := by decide +kernel
theorem dX10_readGiven_149 : decode cX10_readGiven 149 = .ok (.ifCond .eq 15, 3) := by decide +kernel
theorem dX10_readGiven_152 : decode cX10_readGiven 152 = .ok (.aload_n 0, 1) := by decide +kernel
theorem dX10_readGiven_153 : decode cX10_readGiven 153 = .ok (.iload_n 1, 1) := by decide +kernel
theorem dX10_readGiven_154 : decode cX10_readGiven 154 = .ok (.invokevirtual 426, 3) := by decide +kernel
theorem dX10_readGiven_157 : decode cX10_readGiven 157 = .ok (.ifCond .eq 7, 3) := by decide +kernel
theorem dX10_readGiven_160 : decode cX10_readGiven 160 = .ok (.iconst 1, 1) := by decide +kernel
theorem dX10_readGiven_161 : decode cX10_readGiven 161 = .ok (.goto 4, 3) := by decide +kernel
theorem dX10_readGiven_164 : decode cX10_readGiven 164 = .ok (.iconst 0, 1) := by decide +kernel
theorem dX10_readGiven_165 : decode cX10_readGiven 165 = .ok (.ireturn, 1) := by decide +kernel
theorem dX10_readGiven_166 : decode cX10_readGiven 166 = .ok (.aload_n 0, 1) := by decide +kernel
theorem dX10_readGiven_167 : decode cX10_readGiven 167 = .ok (.iload_n 1, 1) := by decide +kernel
theorem dX10_readGiven_168 : decode cX10_readGiven 168 = .ok (.invokevirtual 419, 3) := by decide +kernel
theorem dX10_readGiven_171 : decode cX10_readGiven 171 = .ok (.ireturn, 1) := by decide +kernel
theorem dX10_readAct_0 : decode cX10_readAct 0 = .ok (.aload_n 0, 1) := by decide +kernel
theorem dX10_readAct_1 : decode cX10_readAct 1 = .ok (.getfield 43, 3) := by decide +kernel
theorem dX10_readAct_4 : decode cX10_readAct 4 = .ok (.iload_n 1, 1) := by decide +kernel
theorem dX10_readAct_5 : decode cX10_readAct 5 = .ok (.iconst 0, 1) := by decide +kernel
theorem dX10_readAct_6 : decode cX10_readAct 6 = .ok (.iastore, 1) := by decide +kernel
theorem dX10_readAct_7 : decode cX10_readAct 7 = .ok (.aload_n 0, 1) := by decide +kernel
theorem dX10_readAct_8 : decode cX10_readAct 8 = .ok (.invokevirtual 328, 3) := by decide +kernel
theorem dX10_readAct_11 : decode cX10_readAct 11 = .ok (.ifCond .eq 211, 3) := by decide +kernel
theorem dX10_readAct_14 : decode cX10_readAct 14 = .ok (.aload_n 0, 1) := by decide +kernel
theorem dX10_readAct_15 : decode cX10_readAct 15 = .ok (.invokevirtual 359, 3) := by decide +kernel
theorem dX10_readAct_18 : decode cX10_readAct 18 = .ok (.pop, 1) := by decide +kernel
theorem dX10_readAct_19 : decode cX10_readAct 19 = .ok (.aload_n 0, 1) := by decide +kernel
theorem dX10_readAct_20 : decode cX10_readAct 20 = .ok (.getfield 332, 3) := by decide +kernel
theorem dX10_readAct_23 : decode cX10_readAct 23 = .ok (.istore_n 2, 1) := by decide +kernel
theorem dX10_readAct_24 : decode cX10_readAct 24 = .ok (.aload_n 0, 1) := by decide +kernel
theorem dX10_readAct_25 : decode cX10_readAct 25 = .ok (.bipush 91, 2) := by decide +kernel
theorem dX10_readAct_27 : decode cX10_readAct 27 = .ok (.invokevirtual 316, 3) := by decide +kernel
theorem dX10_readAct_30 : decode cX10_readAct 30 = .ok (.ifCond .eq 48, 3) := by decide +kernel
theorem dX10_readAct_33 : decode cX10_readAct 33 = .ok (.aload_n 0, 1) := by decide +kernel
theorem dX10_readAct_34 : decode cX10_readAct 34 = .ok (.getfield 16, 3) := by decide +kernel
theorem dX10_readAct_37 : decode cX10_readAct 37 = .ok (.iload_n 1, 1) := by decide +kernel
theorem dX10_readAct_38 : decode cX10_readAct 38 = .ok (.iconst 3, 1) := by decide +kernel
theorem dX10_readAct_39 : decode cX10_readAct 39 = .ok (.iastore, 1) := by decide +kernel
theorem dX10_readAct_40 : decode cX10_readAct 40 = .ok (.aload_n 0, 1) := by decide +kernel
theorem dX10_readAct_41 : decode cX10_readAct 41 = .ok (.getfield 34, 3) := by decide +kernel
theorem dX10_readAct_44 : decode cX10_readAct 44 = .ok (.iload_n 1, 1) := by decide +kernel
theorem dX10_readAct_45 : decode cX10_readAct 45 = .ok (.iload_n 2, 1) := by decide +kernel
theorem dX10_readAct_46 : decode cX10_readAct 46 = .ok (.iastore, 1) := by decide +kernel
theorem dX10_readAct_47 : decode cX10_readAct 47 = .ok (.aload_n 0, 1) := by decide +kernel
theorem dX10_readAct_48 : decode cX10_readAct 48 = .ok (.iload_n 1, 1) := by decide +kernel
theorem dX10_readAct_49 : decode cX10_readAct 49 = .ok (.invokevirtual 371, 3) := by decide +kernel
theorem dX10_readAct_52 : decode cX10_readAct 52 = .ok (.ifCond .eq 24, 3) := by decide +kernel
theorem dX10_readAct_55 : decode cX10_readAct 55 = .ok (.aload_n 0, 1) := by decide +kernel
theorem dX10_readAct_56 : decode cX10_readAct 56 = .ok (.bipush 61, 2) := by decide +kernel
theorem dX10_readAct_58 : decode cX10_readAct 58 = .ok (.invokevirtual 365, 3) := by decide +kernel
theorem dX10_readAct_61 : decode cX10_readAct 61 = .ok (.ifCond .eq 15, 3) := by decide +kernel
theorem dX10_readAct_64 : decode cX10_readAct 64 = .ok (.aload_n 0, 1) := by decide +kernel
theorem dX10_readAct_65 : decode cX10_readAct 65 = .ok (.iload_n 1, 1) := by decide +kernel
theorem dX10_readAct_66 : decode cX10_readAct 66 = .ok (.invokevirtual 407, 3) := by decide +kernel
theorem dX10_readAct_69 : decode cX10_readAct 69 = .ok (.ifCond .eq 7, 3) := by decide +kernel
theorem dX10_readAct_72 : decode cX10_readAct 72 = .ok (.iconst 1, 1) := by decide +kernel
theorem dX10_readAct_73 : decode cX10_readAct 73 = .ok (.goto 4, 3) := by decide +kernel
theorem dX10_readAct_76 : decode cX10_readAct 76 = .ok (.iconst 0, 1) := by decide +kernel
theorem dX10_readAct_77 : decode cX10_readAct 77 = .ok (.ireturn, 1) := by decide +kernel
theorem dX10_readAct_78 : decode cX10_readAct 78 = .ok (.aload_n 0, 1) := by decide +kernel
theorem dX10_readAct_79 : decode cX10_readAct 79 = .ok (.bipush 61, 2) := by decide +kernel
theorem dX10_readAct_81 : decode cX10_readAct 81 = .ok (.invokevirtual 365, 3) := by decide +kernel
theorem dX10_readAct_84 : decode cX10_readAct 84 = .ok (.ifCond .ne 5, 3) := by decide +kernel
theorem dX10_readAct_87 : decode cX10_readAct 87 = .ok (.iconst 0, 1) := by decide +kernel
theorem dX10_readAct_88 : decode cX10_readAct 88 = .ok (.ireturn, 1) := by decide +kernel
theorem dX10_readAct_89 : decode cX10_readAct 89 = .ok (.aload_n 0, 1) := by decide +kernel
theorem dX10_readAct_90 : decode cX10_readAct 90 = .ok (.getfield 31, 3) := by decide +kernel
theorem dX10_readAct_93 : decode cX10_readAct 93 = .ok (.iload_n 1, 1) := by decide +kernel
theorem dX10_readAct_94 : decode cX10_readAct 94 = .ok (.iload_n 2, 1) := by decide +kernel
theorem dX10_readAct_95 : decode cX10_readAct 95 = .ok (.iastore, 1) := by decide +kernel
theorem dX10_readAct_96 : decode cX10_readAct 96 = .ok (.aload_n 0, 1) := by decide +kernel
theorem dX10_readAct_97 : decode cX10_readAct 97 = .ok (.getfield 273, 3) := by decide +kernel
theorem dX10_readAct_100 : decode cX10_readAct 100 = .ok (.iconst 2, 1) := by decide +kernel
theorem dX10_readAct_101 : decode cX10_readAct 101 = .ok (.if_icmp .ne 13, 3) := by decide +kernel
theorem dX10_readAct_104 : decode cX10_readAct 104 = .ok (.aload_n 0, 1) := by decide +kernel
theorem dX10_readAct_105 : decode cX10_readAct 105 = .ok (.getfield 289, 3) := by decide +kernel
theorem dX10_readAct_108 : decode cX10_readAct 108 = .ok (.invokestatic 410, 3) := by decide +kernel
theorem dX10_readAct_111 : decode cX10_readAct 111 = .ok (.goto 4, 3) := by decide +kernel
theorem dX10_readAct_114 : decode cX10_readAct 114 = .ok (.iconst 0, 1) := by decide +kernel
theorem dX10_readAct_115 : decode cX10_readAct 115 = .ok (.istore_n 3, 1) := by decide +kernel
theorem dX10_readAct_116 : decode cX10_readAct 116 = .ok (.iload_n 3, 1) := by decide +kernel
theorem dX10_readAct_117 : decode cX10_readAct 117 = .ok (.ifCond .le 21, 3) := by decide +kernel
theorem dX10_readAct_120 : decode cX10_readAct 120 = .ok (.aload_n 0, 1) := by decide +kernel
theorem dX10_readAct_121 : decode cX10_readAct 121 = .ok (.getfield 16, 3) := by decide +kernel
theorem dX10_readAct_124 : decode cX10_readAct 124 = .ok (.iload_n 1, 1) := by decide +kernel
theorem dX10_readAct_125 : decode cX10_readAct 125 = .ok (.iload_n 3, 1) := by decide +kernel
theorem dX10_readAct_126 : decode cX10_readAct 126 = .ok (.iastore, 1) := by decide +kernel
theorem dX10_readAct_127 : decode cX10_readAct 127 = .ok (.aload_n 0, 1) := by decide +kernel
theorem dX10_readAct_128 : decode cX10_readAct 128 = .ok (.invokevirtual 322, 3) := by decide +kernel
theorem dX10_readAct_131 : decode cX10_readAct 131 = .ok (.aload_n 0, 1) := by decide +kernel
theorem dX10_readAct_132 : decode cX10_readAct 132 = .ok (.iload_n 1, 1) := by decide +kernel
theorem dX10_readAct_133 : decode cX10_readAct 133 = .ok (.iload_n 3, 1) := by decide +kernel
theorem dX10_readAct_134 : decode cX10_readAct 134 = .ok (.invokevirtual 413, 3) := by decide +kernel
theorem dX10_readAct_137 : decode cX10_readAct 137 = .ok (.ireturn, 1) := by decide +kernel
theorem dX10_readAct_138 : decode cX10_readAct 138 = .ok (.aload_n 0, 1) := by decide +kernel
theorem dX10_readAct_139 : decode cX10_readAct 139 = .ok (.invokevirtual 328, 3) := by decide +kernel
theorem dX10_readAct_142 : decode cX10_readAct 142 = .ok (.ifCond .ne 16, 3) := by decide +kernel
theorem dX10_readAct_145 : decode cX10_readAct 145 = .ok (.aload_n 0, 1) := by decide +kernel
theorem dX10_readAct_146 : decode cX10_readAct 146 = .ok (.getfield 16, 3) := by decide +kernel
theorem dX10_readAct_149 : decode cX10_readAct 149 = .ok (.iload_n 1, 1) := by decide +kernel
theorem dX10_readAct_150 : decode cX10_readAct 150 = .ok (.iconst 1, 1) := by decide +kernel
theorem dX10_readAct_151 : decode cX10_readAct 151 = .ok (.iastore, 1) := by decide +kernel
theorem dX10_readAct_152 : decode cX10_readAct 152 = .ok (.aload_n 0, 1) := by decide +kernel
theorem dX10_readAct_153 : decode cX10_readAct 153 = .ok (.iload_n 1, 1) := by decide +kernel
theorem dX10_readAct_154 : decode cX10_readAct 154 = .ok (.invokevirtual 407, 3) := by decide +kernel
theorem dX10_readAct_157 : decode cX10_readAct 157 = .ok (.ireturn, 1) := by decide +kernel
theorem dX10_readAct_158 : decode cX10_readAct 158 = .ok (.aload_n 0, 1) := by decide +kernel
theorem dX10_readAct_159 : decode cX10_readAct 159 = .ok (.invokevirtual 359, 3) := by decide +kernel
theorem dX10_readAct_162 : decode cX10_readAct 162 = .ok (.pop, 1) := by decide +kernel
theorem dX10_readAct_163 : decode cX10_readAct 163 = .ok (.aload_n 0, 1) := by decide +kernel
theorem dX10_readAct_164 : decode cX10_readAct 164 = .ok (.bipush 91, 2) := by decide +kernel
theorem dX10_readAct_166 : decode cX10_readAct 166 = .ok (.invokevirtual 316, 3) := by decide +kernel
theorem dX10_readAct_169 : decode cX10_readAct 169 = .ok (.ifCond .eq 26, 3) := by decide +kernel
theorem dX10_readAct_172 : decode cX10_readAct 172 = .ok (.aload_n 0, 1) := by decide +kernel
theorem dX10_readAct_173 : decode cX10_readAct 173 = .ok (.getfield 16, 3) := by decide +kernel
theorem dX10_readAct_176 : decode cX10_readAct 176 = .ok (.iload_n 1, 1) := by decide +kernel
theorem dX10_readAct_177 : decode cX10_readAct 177 = .ok (.iconst 2, 1) := by decide +kernel
theorem dX10_readAct_178 : decode cX10_readAct 178 = .ok (.iastore, 1) := by decide +kernel
theorem dX10_readAct_179 : decode cX10_readAct 179 = .ok (.aload_n 0, 1) := by decide +kernel
theorem dX10_readAct_180 : decode cX10_readAct 180 = .ok (.getfield 34, 3) := by decide +kernel
theorem dX10_readAct_183 : decode cX10_readAct 183 = .ok (.iload_n 1, 1) := by decide +kernel
theorem dX10_readAct_184 : decode cX10_readAct 184 = .ok (.aload_n 0, 1) := by decide +kernel
theorem dX10_readAct_185 : decode cX10_readAct 185 = .ok (.getfield 332, 3) := by decide +kernel
theorem dX10_readAct_188 : decode cX10_readAct 188 = .ok (.iastore, 1) := by decide +kernel
theorem dX10_readAct_189 : decode cX10_readAct 189 = .ok (.aload_n 0, 1) := by decide +kernel
theorem dX10_readAct_190 : decode cX10_readAct 190 = .ok (.iload_n 1, 1) := by decide +kernel
theorem dX10_readAct_191 : decode cX10_readAct 191 = .ok (.invokevirtual 371, 3) := by decide +kernel
theorem dX10_readAct_194 : decode cX10_readAct 194 = .ok (.ireturn, 1) := by decide +kernel
theorem dX10_readAct_195 : decode cX10_readAct 195 = .ok (.aload_n 0, 1) := by decide +kernel
theorem dX10_readAct_196 : decode cX10_readAct 196 = .ok (.getfield 16, 3) := by decide +kernel
theorem dX10_readAct_199 : decode cX10_readAct 199 = .ok (.iload_n 1, 1) := by decide +kernel
theorem dX10_readAct_200 : decode cX10_readAct 200 = .ok (.iconst 1, 1) := by decide +kernel
theorem dX10_readAct_201 : decode cX10_readAct 201 = .ok (.iastore, 1) := by decide +kernel
theorem dX10_readAct_202 : decode cX10_readAct 202 = .ok (.aload_n 0, 1) := by decide +kernel
theorem dX10_readAct_203 : decode cX10_readAct 203 = .ok (.getfield 52, 3) := by decide +kernel
theorem dX10_readAct_206 : decode cX10_readAct 206 = .ok (.iload_n 1, 1) := by decide +kernel
theorem dX10_readAct_207 : decode cX10_readAct 207 = .ok (.iconst 1, 1) := by decide +kernel
theorem dX10_readAct_208 : decode cX10_readAct 208 = .ok (.iastore, 1) := by decide +kernel
theorem dX10_readAct_209 : decode cX10_readAct 209 = .ok (.aload_n 0, 1) := by decide +kernel
theorem dX10_readAct_210 : decode cX10_readAct 210 = .ok (.getfield 58, 3) := by decide +kernel
theorem dX10_readAct_213 : decode cX10_readAct 213 = .ok (.iload_n 1, 1) := by decide +kernel
theorem dX10_readAct_214 : decode cX10_readAct 214 = .ok (.aload_n 0, 1) := by decide +kernel
theorem dX10_readAct_215 : decode cX10_readAct 215 = .ok (.getfield 332, 3) := by decide +kernel
theorem dX10_readAct_218 : decode cX10_readAct 218 = .ok (.i2l, 1) := by decide +kernel
theorem dX10_readAct_219 : decode cX10_readAct 219 = .ok (.lastore, 1) := by decide +kernel
theorem dX10_readAct_220 : decode cX10_readAct 220 = .ok (.iconst 1, 1) := by decide +kernel
theorem dX10_readAct_221 : decode cX10_readAct 221 = .ok (.ireturn, 1) := by decide +kernel
theorem dX10_readAct_222 : decode cX10_readAct 222 = .ok (.aload_n 0, 1) := by decide +kernel
theorem dX10_readAct_223 : decode cX10_readAct 223 = .ok (.getfield 273, 3) := by decide +kernel
theorem dX10_readAct_226 : decode cX10_readAct 226 = .ok (.iconst 2, 1) := by decide +kernel
theorem dX10_readAct_227 : decode cX10_readAct 227 = .ok (.if_icmp .ne 13, 3) := by decide +kernel
theorem dX10_readAct_230 : decode cX10_readAct 230 = .ok (.aload_n 0, 1) := by decide +kernel
theorem dX10_readAct_231 : decode cX10_readAct 231 = .ok (.getfield 289, 3) := by decide +kernel
theorem dX10_readAct_234 : decode cX10_readAct 234 = .ok (.invokestatic 395, 3) := by decide +kernel
theorem dX10_readAct_237 : decode cX10_readAct 237 = .ok (.goto 4, 3) := by decide +kernel
theorem dX10_readAct_240 : decode cX10_readAct 240 = .ok (.iconst 0, 1) := by decide +kernel
theorem dX10_readAct_241 : decode cX10_readAct 241 = .ok (.istore_n 2, 1) := by decide +kernel
theorem dX10_readAct_242 : decode cX10_readAct 242 = .ok (.iload_n 2, 1) := by decide +kernel
theorem dX10_readAct_243 : decode cX10_readAct 243 = .ok (.ifCond .ne 9, 3) := by decide +kernel
theorem dX10_readAct_246 : decode cX10_readAct 246 = .ok (.aload_n 0, 1) := by decide +kernel
theorem dX10_readAct_247 : decode cX10_readAct 247 = .ok (.iconst 2, 1) := by decide +kernel
theorem dX10_readAct_248 : decode cX10_readAct 248 = .ok (.invokevirtual 319, 3) := by decide +kernel
theorem dX10_readAct_251 : decode cX10_readAct 251 = .ok (.ireturn, 1) := by decide +kernel
theorem dX10_readAct_252 : decode cX10_readAct 252 = .ok (.aload_n 0, 1) := by decide +kernel
theorem dX10_readAct_253 : decode cX10_readAct 253 = .ok (.getfield 16, 3) := by decide +kernel
theorem dX10_readAct_256 : decode cX10_readAct 256 = .ok (.iload_n 1, 1) := by decide +kernel
theorem dX10_readAct_257 : decode cX10_readAct 257 = .ok (.iload_n 2, 1) := by decide +kernel
theorem dX10_readAct_258 : decode cX10_readAct 258 = .ok (.iastore, 1) := by decide +kernel
theorem dX10_readAct_259 : decode cX10_readAct 259 = .ok (.aload_n 0, 1) := by decide +kernel
theorem dX10_readAct_260 : decode cX10_readAct 260 = .ok (.invokevirtual 322, 3) := by decide +kernel
theorem dX10_readAct_263 : decode cX10_readAct 263 = .ok (.iload_n 2, 1) := by decide +kernel
theorem dX10_readAct_264 : decode cX10_readAct 264 = .ok (.tableswitch 309 5 20 #[80, 309, 121, 309, 309, 309, 309, 309, 309, 309, 309, 309, 152, 230, 262, 303], 80) := by decide +kernel
theorem dX10_readAct_344 : decode cX10_readAct 344 = .ok (.aload_n 0, 1) := by decide +kernel
theorem dX10_readAct_345 : decode cX10_readAct 345 = .ok (.iload_n 1, 1) := by decide +kernel
theorem dX10_readAct_346 : decode cX10_readAct 346 = .ok (.bipush 8, 2) := by decide +kernel
theorem dX10_readAct_348 : decode cX10_readAct 348 = .ok (.invokevirtual 387, 3) := by decide +kernel
theorem dX10_readAct_351 : decode cX10_readAct 351 = .ok (.ifCond .eq 32, 3) := by decide +kernel
theorem dX10_readAct_354 : decode cX10_readAct 354 = .ok (.aload_n 0, 1) := by decide +kernel
theorem dX10_readAct_355 : decode cX10_readAct 355 = .ok (.iload_n 1, 1) := by decide +kernel
theorem dX10_readAct_356 : decode cX10_readAct 356 = .ok (.invokevirtual 416, 3) := by decide +kernel
theorem dX10_readAct_359 : decode cX10_readAct 359 = .ok (.ifCond .eq 24, 3) := by decide +kernel
theorem dX10_readAct_362 : decode cX10_readAct 362 = .ok (.aload_n 0, 1) := by decide +kernel
theorem dX10_readAct_363 : decode cX10_readAct 363 = .ok (.bipush 61, 2) := by decide +kernel
theorem dX10_readAct_365 : decode cX10_readAct 365 = .ok (.invokevirtual 365, 3) := by decide +kernel
theorem dX10_readAct_368 : decode cX10_readAct 368 = .ok (.ifCond .eq 15, 3) := by decide +kernel
theorem dX10_readAct_371 : decode cX10_readAct 371 = .ok (.aload_n 0, 1) := by decide +kernel
theorem dX10_readAct_372 : decode cX10_readAct 372 = .ok (.iload_n 1, 1) := by decide +kernel
theorem dX10_readAct_373 : decode cX10_readAct 373 = .ok (.invokevirtual 407, 3) := by decide +kernel
theorem dX10_readAct_376 : decode cX10_readAct 376 = .ok (.ifCond .eq 7, 3) := by decide +kernel
theorem dX10_readAct_379 : decode cX10_readAct 379 = .ok (.iconst 1, 1) := by decide +kernel
theorem dX10_readAct_380 : decode cX10_readAct 380 = .ok (.goto 4, 3) := by decide +kernel
theorem dX10_readAct_383 : decode cX10_readAct 383 = .ok (.iconst 0, 1) := by decide +kernel
theorem dX10_readAct_384 : decode cX10_readAct 384 = .ok (.ireturn, 1) := by decide +kernel
theorem dX10_readAct_385 : decode cX10_readAct 385 = .ok (.aload_n 0, 1) := by decide +kernel
theorem dX10_readAct_386 : decode cX10_readAct 386 = .ok (.iload_n 1, 1) := by decide +kernel
theorem dX10_readAct_387 : decode cX10_readAct 387 = .ok (.invokevirtual 416, 3) := by decide +kernel
theorem dX10_readAct_390 : decode cX10_readAct 390 = .ok (.ifCond .eq 24, 3) := by decide +kernel
theorem dX10_readAct_393 : decode cX10_readAct 393 = .ok (.aload_n 0, 1) := by decide +kernel
theorem dX10_readAct_394 : decode cX10_readAct 394 = .ok (.bipush 61, 2) := by decide +kernel
theorem dX10_readAct_396 : decode cX10_readAct 396 = .ok (.invokevirtual 365, 3) := by decide +kernel
theorem dX10_readAct_399 : decode cX10_readAct 399 = .ok (.ifCond .eq 15, 3) := by decide +kernel
theorem dX10_readAct_402 : decode cX10_readAct 402 = .ok (.aload_n 0, 1) := by decide +kernel
theorem dX10_readAct_403 : decode cX10_readAct 403 = .ok (.iload_n 1, 1) := by decide +kernel
theorem dX10_readAct_404 : decode cX10_readAct 404 = .ok (.invokevirtual 407, 3) := by decide +kernel
theorem dX10_readAct_407 : decode cX10_readAct 407 = .ok (.ifCond .eq 7, 3) := by decide +kernel
theorem dX10_readAct_410 : decode cX10_readAct 410 = .ok (.iconst 1, 1) := by decide +kernel
theorem dX10_readAct_411 : decode cX10_readAct 411 = .ok (.goto 4, 3) := by decide +kernel
theorem dX10_readAct_414 : decode cX10_readAct 414 = .ok (.iconst 0, 1) := by decide +kernel
theorem dX10_readAct_415 : decode cX10_readAct 415 = .ok (.ireturn, 1) := by decide +kernel
theorem dX10_readAct_416 : decode cX10_readAct 416 = .ok (.aload_n 0, 1) := by decide +kernel
theorem dX10_readAct_417 : decode cX10_readAct 417 = .ok (.iload_n 1, 1) := by decide +kernel
theorem dX10_readAct_418 : decode cX10_readAct 418 = .ok (.invokevirtual 419, 3) := by decide +kernel
theorem dX10_readAct_421 : decode cX10_readAct 421 = .ok (.ifCond .eq 71, 3) := by decide +kernel
theorem dX10_readAct_424 : decode cX10_readAct 424 = .ok (.aload_n 0, 1) := by decide +kernel
theorem dX10_readAct_425 : decode cX10_readAct 425 = .ok (.iload_n 1, 1) := by decide +kernel
theorem dX10_readAct_426 : decode cX10_readAct 426 = .ok (.iconst 0, 1) := by decide +kernel
theorem dX10_readAct_427 : decode cX10_readAct 427 = .ok (.invokevirtual 374, 3) := by decide +kernel
theorem dX10_readAct_430 : decode cX10_readAct 430 = .ok (.ifCond .eq 62, 3) := by decide +kernel
theorem dX10_readAct_433 : decode cX10_readAct 433 = .ok (.aload_n 0, 1) := by decide +kernel
theorem dX10_readAct_434 : decode cX10_readAct 434 = .ok (.ldc_w 422, 3) := by decide +kernel
theorem dX10_readAct_437 : decode cX10_readAct 437 = .ok (.invokevirtual 423, 3) := by decide +kernel
theorem dX10_readAct_440 : decode cX10_readAct 440 = .ok (.ifCond .eq 52, 3) := by decide +kernel
theorem dX10_readAct_443 : decode cX10_readAct 443 = .ok (.aload_n 0, 1) := by decide +kernel
theorem dX10_readAct_444 : decode cX10_readAct 444 = .ok (.iload_n 1, 1) := by decide +kernel
theorem dX10_readAct_445 : decode cX10_readAct 445 = .ok (.invokevirtual 426, 3) := by decide +kernel
theorem dX10_readAct_448 : decode cX10_readAct 448 = .ok (.ifCond .eq 44, 3) := by decide +kernel
theorem dX10_readAct_451 : decode cX10_readAct 451 = .ok (.aload_n 0, 1) := by decide +kernel
theorem dX10_readAct_452 : decode cX10_readAct 452 = .ok (.iload_n 1, 1) := by decide +kernel
theorem dX10_readAct_453 : decode cX10_readAct 453 = .ok (.iconst 1, 1) := by decide +kernel
theorem dX10_readAct_454 : decode cX10_readAct 454 = .ok (.invokevirtual 374, 3) := by decide +kernel
theorem dX10_readAct_457 : decode cX10_readAct 457 = .ok (.ifCond .eq 35, 3) := by decide +kernel
theorem dX10_readAct_460 : decode cX10_readAct 460 = .ok (.aload_n 0, 1) := by decide +kernel
theorem dX10_readAct_461 : decode cX10_readAct 461 = .ok (.ldc_w 429, 3) := by decide +kernel
theorem dX10_readAct_464 : decode cX10_readAct 464 = .ok (.invokevirtual 423, 3) := by decide +kernel
theorem dX10_readAct_467 : decode cX10_readAct 467 = .ok (.ifCond .eq 25, 3) := by decide +kernel
theorem dX10_readAct_470 : decode cX10_readAct 470 = .ok (.aload_n 0, 1) := by decide +kernel
theorem dX10_readAct_471 : decode cX10_readAct 471 = .ok (.iload_n 1, 1) := by decide +kernel
theorem dX10_readAct_472 : decode cX10_readAct 472 = .ok (.iconst 2, 1) := by decide +kernel
theorem dX10_readAct_473 : decode cX10_readAct 473 = .ok (.invokevirtual 368, 3) := by decide +kernel
theorem dX10_readAct_476 : decode cX10_readAct 476 = .ok (.ifCond .eq 16, 3) := by decide +kernel
theorem dX10_readAct_479 : decode cX10_readAct 479 = .ok (.aload_n 0, 1) := by decide +kernel
theorem dX10_readAct_480 : decode cX10_readAct 480 = .ok (.iload_n 1, 1) := by decide +kernel
theorem dX10_readAct_481 : decode cX10_readAct 481 = .ok (.iconst 3, 1) := by decide +kernel
theorem dX10_readAct_482 : decode cX10_readAct 482 = .ok (.invokevirtual 431, 3) := by decide +kernel
theorem dX10_readAct_485 : decode cX10_readAct 485 = .ok (.ifCond .eq 7, 3) := by decide +kernel
theorem dX10_readAct_488 : decode cX10_readAct 488 = .ok (.iconst 1, 1) := by decide +kernel
theorem dX10_readAct_489 : decode cX10_readAct 489 = .ok (.goto 4, 3) := by decide +kernel
theorem dX10_readAct_492 : decode cX10_readAct 492 = .ok (.iconst 0, 1) := by decide +kernel
theorem dX10_readAct_493 : decode cX10_readAct 493 = .ok (.ireturn, 1) := by decide +kernel
theorem dX10_readAct_494 : decode cX10_readAct 494 = .ok (.aload_n 0, 1) := by decide +kernel
theorem dX10_readAct_495 : decode cX10_readAct 495 = .ok (.iload_n 1, 1) := by decide +kernel
theorem dX10_readAct_496 : decode cX10_readAct 496 = .ok (.invokevirtual 419, 3) := by decide +kernel
theorem dX10_readAct_499 : decode cX10_readAct 499 = .ok (.ifCond .eq 25, 3) := by decide +kernel
theorem dX10_readAct_502 : decode cX10_readAct 502 = .ok (.aload_n 0, 1) := by decide +kernel
theorem dX10_readAct_503 : decode cX10_readAct 503 = .ok (.ldc_w 434, 3) := by decide +kernel
theorem dX10_readAct_506 : decode cX10_readAct 506 = .ok (.invokevirtual 423, 3) := by decide +kernel
theorem dX10_readAct_509 : decode cX10_readAct 509 = .ok (.ifCond .eq 15, 3) := by decide +kernel
theorem dX10_readAct_512 : decode cX10_readAct 512 = .ok (.aload_n 0, 1) := by decide +kernel
theorem dX10_readAct_513 : decode cX10_readAct 513 = .ok (.iload_n 1, 1) := by decide +kernel
theorem dX10_readAct_514 : decode cX10_readAct 514 = .ok (.invokevirtual 407, 3) := by decide +kernel
theorem dX10_readAct_517 : decode cX10_readAct 517 = .ok (.ifCond .eq 7, 3) := by decide +kernel
theorem dX10_readAct_520 : decode cX10_readAct 520 = .ok (.iconst 1, 1) := by decide +kernel
theorem dX10_readAct_521 : decode cX10_readAct 521 = .ok (.goto 4, 3) := by decide +kernel
theorem dX10_readAct_524 : decode cX10_readAct 524 = .ok (.iconst 0, 1) := by decide +kernel
theorem dX10_readAct_525 : decode cX10_readAct 525 = .ok (.ireturn, 1) := by decide +kernel
theorem dX10_readAct_526 : decode cX10_readAct 526 = .ok (.aload_n 0, 1) := by decide +kernel
theorem dX10_readAct_527 : decode cX10_readAct 527 = .ok (.iload_n 1, 1) := by decide +kernel
theorem dX10_readAct_528 : decode cX10_readAct 528 = .ok (.invokevirtual 419, 3) := by decide +kernel
theorem dX10_readAct_531 : decode cX10_readAct 531 = .ok (.ifCond .eq 34, 3) := by decide +kernel
theorem dX10_readAct_534 : decode cX10_readAct 534 = .ok (.aload_n 0, 1) := by decide +kernel
theorem dX10_readAct_535 : decode cX10_readAct 535 = .ok (.iload_n 1, 1) := by decide +kernel
theorem dX10_readAct_536 : decode cX10_readAct 536 = .ok (.iconst 0, 1) := by decide +kernel
theorem dX10_readAct_537 : decode cX10_readAct 537 = .ok (.invokevirtual 374, 3) := by decide +kernel
theorem dX10_readAct_540 : decode cX10_readAct 540 = .ok (.ifCond .eq 25, 3) := by decide +kernel
theorem dX10_readAct_543 : decode cX10_readAct 543 = .ok (.aload_n 0, 1) := by decide +kernel
theorem dX10_readAct_544 : decode cX10_readAct 544 = .ok (.iload_n 1, 1) := by decide +kernel
theorem dX10_readAct_545 : decode cX10_readAct 545 = .ok (.iconst 1, 1) := by decide +kernel
theorem dX10_readAct_546 : decode cX10_readAct 546 = .ok (.invokevirtual 374, 3) := by decide +kernel
theorem dX10_readAct_549 : decode cX10_readAct 549 = .ok (.ifCond .eq 16, 3) := by decide +kernel
theorem dX10_readAct_552 : decode cX10_readAct 552 = .ok (.aload_n 0, 1) := by decide +kernel
theorem dX10_readAct_553 : decode cX10_readAct 553 = .ok (.iload_n 1, 1) := by decide +kernel
theorem dX10_readAct_554 : decode cX10_readAct 554 = .ok (.iconst 2, 1) := by decide +kernel
theorem dX10_readAct_555 : decode cX10_readAct 555 = .ok (.invokevirtual 431, 3) := by decide +kernel
theorem dX10_readAct_558 : decode cX10_readAct 558 = .ok (.ifCond .eq 7, 3) := by decide +kernel
theorem dX10_readAct_561 : decode cX10_readAct 561 = .ok (.iconst 1, 1) := by decide +kernel
theorem dX10_readAct_562 : decode cX10_readAct 562 = .ok (.goto 4, 3) := by decide +kernel
theorem dX10_readAct_565 : decode cX10_readAct 565 = .ok (.iconst 0, 1) := by decide +kernel
theorem dX10_readAct_566 : decode cX10_readAct 566 = .ok (.ireturn, 1) := by decide +kernel
theorem dX10_readAct_567 : decode cX10_readAct 567 = .ok (.aload_n 0, 1) := by decide +kernel
theorem dX10_readAct_568 : decode cX10_readAct 568 = .ok (.iload_n 1, 1) := by decide +kernel
theorem dX10_readAct_569 : decode cX10_readAct 569 = .ok (.invokevirtual 419, 3) := by decide +kernel
theorem dX10_readAct_572 : decode cX10_readAct 572 = .ok (.ireturn, 1) := by decide +kernel
theorem dX10_readAct_573 : decode cX10_readAct 573 = .ok (.aload_n 0, 1) := by decide +kernel
theorem dX10_readAct_574 : decode cX10_readAct 574 = .ok (.iload_n 1, 1) := by decide +kernel
theorem dX10_readAct_575 : decode cX10_readAct 575 = .ok (.invokevirtual 407, 3) := by decide +kernel
theorem dX10_readAct_578 : decode cX10_readAct 578 = .ok (.ireturn, 1) := by decide +kernel

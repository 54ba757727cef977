theorem dX10_hash_0 : decode cX10_hash 0 = .ok (.aload_n 0, 1) := by decide +kernel
theorem dX10_hash_1 : decode cX10_hash 1 = .ok (.getfield 493, 3) := by decide +kernel
theorem dX10_hash_4 : decode cX10_hash 4 = .ok (.ifCond .ne 5, 3) := by decide +kernel
theorem dX10_hash_7 : decode cX10_hash 7 = .ok (.iconst 0, 1) := by decide +kernel
theorem dX10_hash_8 : decode cX10_hash 8 = .ok (.ireturn, 1) := by decide +kernel
theorem dX10_hash_9 : decode cX10_hash 9 = .ok (.aload_n 0, 1) := by decide +kernel
theorem dX10_hash_10 : decode cX10_hash 10 = .ok (.getfield 493, 3) := by decide +kernel
theorem dX10_hash_13 : decode cX10_hash 13 = .ok (.iconst 1, 1) := by decide +kernel
theorem dX10_hash_14 : decode cX10_hash 14 = .ok (.if_icmp .ne 23, 3) := by decide +kernel
theorem dX10_hash_17 : decode cX10_hash 17 = .ok (.aload_n 0, 1) := by decide +kernel
theorem dX10_hash_18 : decode cX10_hash 18 = .ok (.getfield 496, 3) := by decide +kernel
theorem dX10_hash_21 : decode cX10_hash 21 = .ok (.aload_n 0, 1) := by decide +kernel
theorem dX10_hash_22 : decode cX10_hash 22 = .ok (.getfield 499, 3) := by decide +kernel
theorem dX10_hash_25 : decode cX10_hash 25 = .ok (.invokestatic 554, 3) := by decide +kernel
theorem dX10_hash_28 : decode cX10_hash 28 = .ok (.lstore_n 1, 1) := by decide +kernel
theorem dX10_hash_29 : decode cX10_hash 29 = .ok (.lload_n 1, 1) := by decide +kernel
theorem dX10_hash_30 : decode cX10_hash 30 = .ok (.lload_n 1, 1) := by decide +kernel
theorem dX10_hash_31 : decode cX10_hash 31 = .ok (.bipush 32, 2) := by decide +kernel
theorem dX10_hash_33 : decode cX10_hash 33 = .ok (.lushr, 1) := by decide +kernel
theorem dX10_hash_34 : decode cX10_hash 34 = .ok (.lxor, 1) := by decide +kernel
theorem dX10_hash_35 : decode cX10_hash 35 = .ok (.l2i, 1) := by decide +kernel
theorem dX10_hash_36 : decode cX10_hash 36 = .ok (.ireturn, 1) := by decide +kernel
theorem dX10_hash_37 : decode cX10_hash 37 = .ok (.aload_n 0, 1) := by decide +kernel
theorem dX10_hash_38 : decode cX10_hash 38 = .ok (.getfield 493, 3) := by decide +kernel
theorem dX10_hash_41 : decode cX10_hash 41 = .ok (.iconst 2, 1) := by decide +kernel
theorem dX10_hash_42 : decode cX10_hash 42 = .ok (.if_icmp .ne 14, 3) := by decide +kernel
theorem dX10_hash_45 : decode cX10_hash 45 = .ok (.aload_n 0, 1) := by decide +kernel
theorem dX10_hash_46 : decode cX10_hash 46 = .ok (.getfield 74, 3) := by decide +kernel
theorem dX10_hash_49 : decode cX10_hash 49 = .ok (.aload_n 0, 1) := by decide +kernel
theorem dX10_hash_50 : decode cX10_hash 50 = .ok (.getfield 499, 3) := by decide +kernel
theorem dX10_hash_53 : decode cX10_hash 53 = .ok (.l2i, 1) := by decide +kernel
theorem dX10_hash_54 : decode cX10_hash 54 = .ok (.iaload, 1) := by decide +kernel
theorem dX10_hash_55 : decode cX10_hash 55 = .ok (.ireturn, 1) := by decide +kernel
theorem dX10_hash_56 : decode cX10_hash 56 = .ok (.aload_n 0, 1) := by decide +kernel
theorem dX10_hash_57 : decode cX10_hash 57 = .ok (.getfield 499, 3) := by decide +kernel
theorem dX10_hash_60 : decode cX10_hash 60 = .ok (.l2i, 1) := by decide +kernel
theorem dX10_hash_61 : decode cX10_hash 61 = .ok (.istore_n 1, 1) := by decide +kernel
theorem dX10_hash_62 : decode cX10_hash 62 = .ok (.aload_n 0, 1) := by decide +kernel
theorem dX10_hash_63 : decode cX10_hash 63 = .ok (.getfield 77, 3) := by decide +kernel
theorem dX10_hash_66 : decode cX10_hash 66 = .ok (.iload_n 1, 1) := by decide +kernel
theorem dX10_hash_67 : decode cX10_hash 67 = .ok (.iaload, 1) := by decide +kernel
theorem dX10_hash_68 : decode cX10_hash 68 = .ok (.istore_n 2, 1) := by decide +kernel
theorem dX10_hash_69 : decode cX10_hash 69 = .ok (.iconst 0, 1) := by decide +kernel
theorem dX10_hash_70 : decode cX10_hash 70 = .ok (.istore_n 3, 1) := by decide +kernel
theorem dX10_hash_71 : decode cX10_hash 71 = .ok (.iload_n 3, 1) := by decide +kernel
theorem dX10_hash_72 : decode cX10_hash 72 = .ok (.aload_n 0, 1) := by decide +kernel
theorem dX10_hash_73 : decode cX10_hash 73 = .ok (.getfield 83, 3) := by decide +kernel
theorem dX10_hash_76 : decode cX10_hash 76 = .ok (.iload_n 1, 1) := by decide +kernel
theorem dX10_hash_77 : decode cX10_hash 77 = .ok (.iaload, 1) := by decide +kernel
theorem dX10_hash_78 : decode cX10_hash 78 = .ok (.if_icmp .ge 47, 3) := by decide +kernel
theorem dX10_hash_81 : decode cX10_hash 81 = .ok (.aload_n 0, 1) := by decide +kernel
theorem dX10_hash_82 : decode cX10_hash 82 = .ok (.dup, 1) := by decide +kernel
theorem dX10_hash_83 : decode cX10_hash 83 = .ok (.getfield 558, 3) := by decide +kernel
theorem dX10_hash_86 : decode cX10_hash 86 = .ok (.iconst 1, 1) := by decide +kernel
theorem dX10_hash_87 : decode cX10_hash 87 = .ok (.iadd, 1) := by decide +kernel
theorem dX10_hash_88 : decode cX10_hash 88 = .ok (.putfield 558, 3) := by decide +kernel
theorem dX10_hash_91 : decode cX10_hash 91 = .ok (.aload_n 0, 1) := by decide +kernel
theorem dX10_hash_92 : decode cX10_hash 92 = .ok (.getfield 558, 3) := by decide +kernel
theorem dX10_hash_95 : decode cX10_hash 95 = .ok (.sipush 20000, 3) := by decide +kernel
theorem dX10_hash_98 : decode cX10_hash 98 = .ok (.if_icmp .le 5, 3) := by decide +kernel
theorem dX10_hash_101 : decode cX10_hash 101 = .ok (.iconst 0, 1) := by decide +kernel
theorem dX10_hash_102 : decode cX10_hash 102 = .ok (.ireturn, 1) := by decide +kernel
theorem dX10_hash_103 : decode cX10_hash 103 = .ok (.aload_n 0, 1) := by decide +kernel
theorem dX10_hash_104 : decode cX10_hash 104 = .ok (.iload_n 1, 1) := by decide +kernel
theorem dX10_hash_105 : decode cX10_hash 105 = .ok (.iload_n 3, 1) := by decide +kernel
theorem dX10_hash_106 : decode cX10_hash 106 = .ok (.invokevirtual 519, 3) := by decide +kernel
theorem dX10_hash_109 : decode cX10_hash 109 = .ok (.bipush 31, 2) := by decide +kernel
theorem dX10_hash_111 : decode cX10_hash 111 = .ok (.iload_n 2, 1) := by decide +kernel
theorem dX10_hash_112 : decode cX10_hash 112 = .ok (.imul, 1) := by decide +kernel
theorem dX10_hash_113 : decode cX10_hash 113 = .ok (.aload_n 0, 1) := by decide +kernel
theorem dX10_hash_114 : decode cX10_hash 114 = .ok (.invokevirtual 561, 3) := by decide +kernel
theorem dX10_hash_117 : decode cX10_hash 117 = .ok (.iadd, 1) := by decide +kernel
theorem dX10_hash_118 : decode cX10_hash 118 = .ok (.istore_n 2, 1) := by decide +kernel
theorem dX10_hash_119 : decode cX10_hash 119 = .ok (.iinc 3 1, 3) := by decide +kernel
theorem dX10_hash_122 : decode cX10_hash 122 = .ok (.goto (-51), 3) := by decide +kernel
theorem dX10_hash_125 : decode cX10_hash 125 = .ok (.iload_n 2, 1) := by decide +kernel
theorem dX10_hash_126 : decode cX10_hash 126 = .ok (.ireturn, 1) := by decide +kernel
theorem dX10_equal_0 : decode cX10_equal 0 = .ok (.iload_n 1, 1) := by decide +kernel
theorem dX10_equal_1 : decode cX10_equal 1 = .ok (.iload 5, 2) := by decide +kernel
theorem dX10_equal_3 : decode cX10_equal 3 = .ok (.if_icmp .eq 5, 3) := by decide +kernel
theorem dX10_equal_6 : decode cX10_equal 6 = .ok (.iconst 0, 1) := by decide +kernel
theorem dX10_equal_7 : decode cX10_equal 7 = .ok (.ireturn, 1) := by decide +kernel
theorem dX10_equal_8 : decode cX10_equal 8 = .ok (.iload_n 1, 1) := by decide +kernel
theorem dX10_equal_9 : decode cX10_equal 9 = .ok (.ifCond .ne 5, 3) := by decide +kernel
theorem dX10_equal_12 : decode cX10_equal 12 = .ok (.iconst 1, 1) := by decide +kernel
theorem dX10_equal_13 : decode cX10_equal 13 = .ok (.ireturn, 1) := by decide +kernel
theorem dX10_equal_14 : decode cX10_equal 14 = .ok (.iload_n 1, 1) := by decide +kernel
theorem dX10_equal_15 : decode cX10_equal 15 = .ok (.iconst 1, 1) := by decide +kernel
theorem dX10_equal_16 : decode cX10_equal 16 = .ok (.if_icmp .ne 22, 3) := by decide +kernel
theorem dX10_equal_19 : decode cX10_equal 19 = .ok (.iload_n 2, 1) := by decide +kernel
theorem dX10_equal_20 : decode cX10_equal 20 = .ok (.iload 6, 2) := by decide +kernel
theorem dX10_equal_22 : decode cX10_equal 22 = .ok (.if_icmp .ne 14, 3) := by decide +kernel
theorem dX10_equal_25 : decode cX10_equal 25 = .ok (.lload_n 3, 1) := by decide +kernel
theorem dX10_equal_26 : decode cX10_equal 26 = .ok (.lload 7, 2) := by decide +kernel
theorem dX10_equal_28 : decode cX10_equal 28 = .ok (.lcmp, 1) := by decide +kernel
theorem dX10_equal_29 : decode cX10_equal 29 = .ok (.ifCond .ne 7, 3) := by decide +kernel
theorem dX10_equal_32 : decode cX10_equal 32 = .ok (.iconst 1, 1) := by decide +kernel
theorem dX10_equal_33 : decode cX10_equal 33 = .ok (.goto 4, 3) := by decide +kernel
theorem dX10_equal_36 : decode cX10_equal 36 = .ok (.iconst 0, 1) := by decide +kernel
theorem dX10_equal_37 : decode cX10_equal 37 = .ok (.ireturn, 1) := by decide +kernel
theorem dX10_equal_38 : decode cX10_equal 38 = .ok (.iload_n 1, 1) := by decide +kernel
theorem dX10_equal_39 : decode cX10_equal 39 = .ok (.iconst 2, 1) := by decide +kernel
theorem dX10_equal_40 : decode cX10_equal 40 = .ok (.if_icmp .ne 16, 3) := by decide +kernel
theorem dX10_equal_43 : decode cX10_equal 43 = .ok (.lload_n 3, 1) := by decide +kernel
theorem dX10_equal_44 : decode cX10_equal 44 = .ok (.lload 7, 2) := by decide +kernel
theorem dX10_equal_46 : decode cX10_equal 46 = .ok (.lcmp, 1) := by decide +kernel
theorem dX10_equal_47 : decode cX10_equal 47 = .ok (.ifCond .ne 7, 3) := by decide +kernel
theorem dX10_equal_50 : decode cX10_equal 50 = .ok (.iconst 1, 1) := by decide +kernel
theorem dX10_equal_51 : decode cX10_equal 51 = .ok (.goto 4, 3) := by decide +kernel
theorem dX10_equal_54 : decode cX10_equal 54 = .ok (.iconst 0, 1) := by decide +kernel
theorem dX10_equal_55 : decode cX10_equal 55 = .ok (.ireturn, 1) := by decide +kernel
theorem dX10_equal_56 : decode cX10_equal 56 = .ok (.lload_n 3, 1) := by decide +kernel
theorem dX10_equal_57 : decode cX10_equal 57 = .ok (.l2i, 1) := by decide +kernel
theorem dX10_equal_58 : decode cX10_equal 58 = .ok (.istore 9, 2) := by decide +kernel
theorem dX10_equal_60 : decode cX10_equal 60 = .ok (.lload 7, 2) := by decide +kernel
theorem dX10_equal_62 : decode cX10_equal 62 = .ok (.l2i, 1) := by decide +kernel
theorem dX10_equal_63 : decode cX10_equal 63 = .ok (.istore 10, 2) := by decide +kernel
theorem dX10_equal_65 : decode cX10_equal 65 = .ok (.aload_n 0, 1) := by decide +kernel
theorem dX10_equal_66 : decode cX10_equal 66 = .ok (.getfield 77, 3) := by decide +kernel
theorem dX10_equal_69 : decode cX10_equal 69 = .ok (.iload 9, 2) := by decide +kernel
theorem dX10_equal_71 : decode cX10_equal 71 = .ok (.iaload, 1) := by decide +kernel
theorem dX10_equal_72 : decode cX10_equal 72 = .ok (.aload_n 0, 1) := by decide +kernel
theorem dX10_equal_73 : decode cX10_equal 73 = .ok (.getfield 77, 3) := by decide +kernel
theorem dX10_equal_76 : decode cX10_equal 76 = .ok (.iload 10, 2) := by decide +kernel
theorem dX10_equal_78 : decode cX10_equal 78 = .ok (.iaload, 1) := by decide +kernel
theorem dX10_equal_79 : decode cX10_equal 79 = .ok (.if_icmp .ne 20, 3) := by decide +kernel
theorem dX10_equal_82 : decode cX10_equal 82 = .ok (.aload_n 0, 1) := by decide +kernel
theorem dX10_equal_83 : decode cX10_equal 83 = .ok (.getfield 83, 3) := by decide +kernel
theorem dX10_equal_86 : decode cX10_equal 86 = .ok (.iload 9, 2) := by decide +kernel
theorem dX10_equal_88 : decode cX10_equal 88 = .ok (.iaload, 1) := by decide +kernel
theorem dX10_equal_89 : decode cX10_equal 89 = .ok (.aload_n 0, 1) := by decide +kernel
theorem dX10_equal_90 : decode cX10_equal 90 = .ok (.getfield 83, 3) := by decide +kernel
theorem dX10_equal_93 : decode cX10_equal 93 = .ok (.iload 10, 2) := by decide +kernel
theorem dX10_equal_95 : decode cX10_equal 95 = .ok (.iaload, 1) := by decide +kernel
theorem dX10_equal_96 : decode cX10_equal 96 = .ok (.if_icmp .eq 5, 3) := by decide +kernel
theorem dX10_equal_99 : decode cX10_equal 99 = .ok (.iconst 0, 1) := by decide +kernel
theorem dX10_equal_100 : decode cX10_equal 100 = .ok (.ireturn, 1) := by decide +kernel
theorem dX10_equal_101 : decode cX10_equal 101 = .ok (.iconst 0, 1) := by decide +kernel
theorem dX10_equal_102 : decode cX10_equal 102 = .ok (.istore 11, 2) := by decide +kernel
theorem dX10_equal_104 : decode cX10_equal 104 = .ok (.iload 11, 2) := by decide +kernel
theorem dX10_equal_106 : decode cX10_equal 106 = .ok (.aload_n 0, 1) := by decide +kernel
theorem dX10_equal_107 : decode cX10_equal 107 = .ok (.getfield 83, 3) := by decide +kernel
theorem dX10_equal_110 : decode cX10_equal 110 = .ok (.iload 9, 2) := by decide +kernel
theorem dX10_equal_112 : decode cX10_equal 112 = .ok (.iaload, 1) := by decide +kernel
theorem dX10_equal_113 : decode cX10_equal 113 = .ok (.if_icmp .ge 106, 3) := by decide +kernel
theorem dX10_equal_116 : decode cX10_equal 116 = .ok (.aload_n 0, 1) := by decide +kernel
theorem dX10_equal_117 : decode cX10_equal 117 = .ok (.dup, 1) := by decide +kernel
theorem dX10_equal_118 : decode cX10_equal 118 = .ok (.getfield 558, 3) := by decide +kernel
theorem dX10_equal_121 : decode cX10_equal 121 = .ok (.iconst 1, 1) := by decide +kernel
theorem dX10_equal_122 : decode cX10_equal 122 = .ok (.iadd, 1) := by decide +kernel
theorem dX10_equal_123 : decode cX10_equal 123 = .ok (.putfield 558, 3) := by decide +kernel
theorem dX10_equal_126 : decode cX10_equal 126 = .ok (.aload_n 0, 1) := by decide +kernel
theorem dX10_equal_127 : decode cX10_equal 127 = .ok (.getfield 558, 3) := by decide +kernel
theorem dX10_equal_130 : decode cX10_equal 130 = .ok (.sipush 20000, 3) := by decide +kernel
theorem dX10_equal_133 : decode cX10_equal 133 = .ok (.if_icmp .le 5, 3) := by decide +kernel
theorem dX10_equal_136 : decode cX10_equal 136 = .ok (.iconst 0, 1) := by decide +kernel
theorem dX10_equal_137 : decode cX10_equal 137 = .ok (.ireturn, 1) := by decide +kernel
theorem dX10_equal_138 : decode cX10_equal 138 = .ok (.aload_n 0, 1) := by decide +kernel
theorem dX10_equal_139 : decode cX10_equal 139 = .ok (.getfield 80, 3) := by decide +kernel
theorem dX10_equal_142 : decode cX10_equal 142 = .ok (.iload 9, 2) := by decide +kernel
theorem dX10_equal_144 : decode cX10_equal 144 = .ok (.iaload, 1) := by decide +kernel
theorem dX10_equal_145 : decode cX10_equal 145 = .ok (.iload 11, 2) := by decide +kernel
theorem dX10_equal_147 : decode cX10_equal 147 = .ok (.iadd, 1) := by decide +kernel
theorem dX10_equal_148 : decode cX10_equal 148 = .ok (.istore 12, 2) := by decide +kernel
theorem dX10_equal_150 : decode cX10_equal 150 = .ok (.aload_n 0, 1) := by decide +kernel
theorem dX10_equal_151 : decode cX10_equal 151 = .ok (.getfield 80, 3) := by decide +kernel
theorem dX10_equal_154 : decode cX10_equal 154 = .ok (.iload 10, 2) := by decide +kernel
theorem dX10_equal_156 : decode cX10_equal 156 = .ok (.iaload, 1) := by decide +kernel
theorem dX10_equal_157 : decode cX10_equal 157 = .ok (.iload 11, 2) := by decide +kernel
theorem dX10_equal_159 : decode cX10_equal 159 = .ok (.iadd, 1) := by decide +kernel
theorem dX10_equal_160 : decode cX10_equal 160 = .ok (.istore 13, 2) := by decide +kernel
theorem dX10_equal_162 : decode cX10_equal 162 = .ok (.aload_n 0, 1) := by decide +kernel
theorem dX10_equal_163 : decode cX10_equal 163 = .ok (.aload_n 0, 1) := by decide +kernel
theorem dX10_equal_164 : decode cX10_equal 164 = .ok (.getfield 86, 3) := by decide +kernel
theorem dX10_equal_167 : decode cX10_equal 167 = .ok (.iload 12, 2) := by decide +kernel
theorem dX10_equal_169 : decode cX10_equal 169 = .ok (.iaload, 1) := by decide +kernel
theorem dX10_equal_170 : decode cX10_equal 170 = .ok (.aload_n 0, 1) := by decide +kernel
theorem dX10_equal_171 : decode cX10_equal 171 = .ok (.getfield 89, 3) := by decide +kernel
theorem dX10_equal_174 : decode cX10_equal 174 = .ok (.iload 12, 2) := by decide +kernel
theorem dX10_equal_176 : decode cX10_equal 176 = .ok (.iaload, 1) := by decide +kernel
theorem dX10_equal_177 : decode cX10_equal 177 = .ok (.aload_n 0, 1) := by decide +kernel
theorem dX10_equal_178 : decode cX10_equal 178 = .ok (.getfield 92, 3) := by decide +kernel
theorem dX10_equal_181 : decode cX10_equal 181 = .ok (.iload 12, 2) := by decide +kernel
theorem dX10_equal_183 : decode cX10_equal 183 = .ok (.laload, 1) := by decide +kernel
theorem dX10_equal_184 : decode cX10_equal 184 = .ok (.aload_n 0, 1) := by decide +kernel
theorem dX10_equal_185 : decode cX10_equal 185 = .ok (.getfield 86, 3) := by decide +kernel
theorem dX10_equal_188 : decode cX10_equal 188 = .ok (.iload 13, 2) := by decide +kernel
theorem dX10_equal_190 : decode cX10_equal 190 = .ok (.iaload, 1) := by decide +kernel
theorem dX10_equal_191 : decode cX10_equal 191 = .ok (.aload_n 0, 1) := by decide +kernel
theorem dX10_equal_192 : decode cX10_equal 192 = .ok (.getfield 89, 3) := by decide +kernel
theorem dX10_equal_195 : decode cX10_equal 195 = .ok (.iload 13, 2) := by decide +kernel
theorem dX10_equal_197 : decode cX10_equal 197 = .ok (.iaload, 1) := by decide +kernel
theorem dX10_equal_198 : decode cX10_equal 198 = .ok (.aload_n 0, 1) := by decide +kernel
theorem dX10_equal_199 : decode cX10_equal 199 = .ok (.getfield 92, 3) := by decide +kernel
theorem dX10_equal_202 : decode cX10_equal 202 = .ok (.iload 13, 2) := by decide +kernel
theorem dX10_equal_204 : decode cX10_equal 204 = .ok (.laload, 1) := by decide +kernel
theorem dX10_equal_205 : decode cX10_equal 205 = .ok (.invokevirtual 563, 3) := by decide +kernel
theorem dX10_equal_208 : decode cX10_equal 208 = .ok (.ifCond .ne 5, 3) := by decide +kernel
theorem dX10_equal_211 : decode cX10_equal 211 = .ok (.iconst 0, 1) := by decide +kernel
theorem dX10_equal_212 : decode cX10_equal 212 = .ok (.ireturn, 1) := by decide +kernel
theorem dX10_equal_213 : decode cX10_equal 213 = .ok (.iinc 11 1, 3) := by decide +kernel
theorem dX10_equal_216 : decode cX10_equal 216 = .ok (.goto (-112), 3) := by decide +kernel
theorem dX10_equal_219 : decode cX10_equal 219 = .ok (.iconst 1, 1) := by decide +kernel
theorem dX10_equal_220 : decode cX10_equal 220 = .ok (.ireturn, 1) := by decide +kernel

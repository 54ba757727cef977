theorem dX10_spell_0 : decode cX10_spell 0 = .ok (.aload_n 0, 1) := by decide +kernel
theorem dX10_spell_1 : decode cX10_spell 1 = .ok (.iload_n 1, 1) := by decide +kernel
theorem dX10_spell_2 : decode cX10_spell 2 = .ok (.ifCond .lt 11, 3) := by decide +kernel
theorem dX10_spell_5 : decode cX10_spell 5 = .ok (.iload_n 1, 1) := by decide +kernel
theorem dX10_spell_6 : decode cX10_spell 6 = .ok (.aload_n 0, 1) := by decide +kernel
theorem dX10_spell_7 : decode cX10_spell 7 = .ok (.getfield 455, 3) := by decide +kernel
theorem dX10_spell_10 : decode cX10_spell 10 = .ok (.if_icmp .lt 7, 3) := by decide +kernel
theorem dX10_spell_13 : decode cX10_spell 13 = .ok (.iconst 1, 1) := by decide +kernel
theorem dX10_spell_14 : decode cX10_spell 14 = .ok (.goto 4, 3) := by decide +kernel
theorem dX10_spell_17 : decode cX10_spell 17 = .ok (.iconst 0, 1) := by decide +kernel
theorem dX10_spell_18 : decode cX10_spell 18 = .ok (.putfield 122, 3) := by decide +kernel
theorem dX10_spell_21 : decode cX10_spell 21 = .ok (.aload_n 0, 1) := by decide +kernel
theorem dX10_spell_22 : decode cX10_spell 22 = .ok (.getfield 122, 3) := by decide +kernel
theorem dX10_spell_25 : decode cX10_spell 25 = .ok (.ifCond .le 5, 3) := by decide +kernel
theorem dX10_spell_28 : decode cX10_spell 28 = .ok (.iconst 0, 1) := by decide +kernel
theorem dX10_spell_29 : decode cX10_spell 29 = .ok (.ireturn, 1) := by decide +kernel
theorem dX10_spell_30 : decode cX10_spell 30 = .ok (.aload_n 0, 1) := by decide +kernel
theorem dX10_spell_31 : decode cX10_spell 31 = .ok (.iconst 0, 1) := by decide +kernel
theorem dX10_spell_32 : decode cX10_spell 32 = .ok (.putfield 464, 3) := by decide +kernel
theorem dX10_spell_35 : decode cX10_spell 35 = .ok (.aload_n 0, 1) := by decide +kernel
theorem dX10_spell_36 : decode cX10_spell 36 = .ok (.getfield 25, 3) := by decide +kernel
theorem dX10_spell_39 : decode cX10_spell 39 = .ok (.iload_n 1, 1) := by decide +kernel
theorem dX10_spell_40 : decode cX10_spell 40 = .ok (.iaload, 1) := by decide +kernel
theorem dX10_spell_41 : decode cX10_spell 41 = .ok (.istore_n 2, 1) := by decide +kernel
theorem dX10_spell_42 : decode cX10_spell 42 = .ok (.iconst 0, 1) := by decide +kernel
theorem dX10_spell_43 : decode cX10_spell 43 = .ok (.istore_n 3, 1) := by decide +kernel
theorem dX10_spell_44 : decode cX10_spell 44 = .ok (.iload_n 2, 1) := by decide +kernel
theorem dX10_spell_45 : decode cX10_spell 45 = .ok (.aload_n 0, 1) := by decide +kernel
theorem dX10_spell_46 : decode cX10_spell 46 = .ok (.getfield 28, 3) := by decide +kernel
theorem dX10_spell_49 : decode cX10_spell 49 = .ok (.iload_n 1, 1) := by decide +kernel
theorem dX10_spell_50 : decode cX10_spell 50 = .ok (.iaload, 1) := by decide +kernel
theorem dX10_spell_51 : decode cX10_spell 51 = .ok (.if_icmp .ge 190, 3) := by decide +kernel
theorem dX10_spell_54 : decode cX10_spell 54 = .ok (.aload_n 0, 1) := by decide +kernel
theorem dX10_spell_55 : decode cX10_spell 55 = .ok (.getfield 13, 3) := by decide +kernel
theorem dX10_spell_58 : decode cX10_spell 58 = .ok (.iload_n 2, 1) := by decide +kernel
theorem dX10_spell_59 : decode cX10_spell 59 = .ok (.iaload, 1) := by decide +kernel
theorem dX10_spell_60 : decode cX10_spell 60 = .ok (.istore 4, 2) := by decide +kernel
theorem dX10_spell_62 : decode cX10_spell 62 = .ok (.iload 4, 2) := by decide +kernel
theorem dX10_spell_64 : decode cX10_spell 64 = .ok (.bipush 32, 2) := by decide +kernel
theorem dX10_spell_66 : decode cX10_spell 66 = .ok (.if_icmp .eq 10, 3) := by decide +kernel
theorem dX10_spell_69 : decode cX10_spell 69 = .ok (.iload 4, 2) := by decide +kernel
theorem dX10_spell_71 : decode cX10_spell 71 = .ok (.bipush 10, 2) := by decide +kernel
theorem dX10_spell_73 : decode cX10_spell 73 = .ok (.if_icmp .ne 9, 3) := by decide +kernel
theorem dX10_spell_76 : decode cX10_spell 76 = .ok (.iinc 2 1, 3) := by decide +kernel
theorem dX10_spell_79 : decode cX10_spell 79 = .ok (.goto (-35), 3) := by decide +kernel
theorem dX10_spell_82 : decode cX10_spell 82 = .ok (.aload_n 0, 1) := by decide +kernel
theorem dX10_spell_83 : decode cX10_spell 83 = .ok (.getfield 464, 3) := by decide +kernel
theorem dX10_spell_86 : decode cX10_spell 86 = .ok (.ifCond .le 42, 3) := by decide +kernel
theorem dX10_spell_89 : decode cX10_spell 89 = .ok (.iload 4, 2) := by decide +kernel
theorem dX10_spell_91 : decode cX10_spell 91 = .ok (.bipush 91, 2) := by decide +kernel
theorem dX10_spell_93 : decode cX10_spell 93 = .ok (.if_icmp .eq 35, 3) := by decide +kernel
theorem dX10_spell_96 : decode cX10_spell 96 = .ok (.iload 4, 2) := by decide +kernel
theorem dX10_spell_98 : decode cX10_spell 98 = .ok (.bipush 93, 2) := by decide +kernel
theorem dX10_spell_100 : decode cX10_spell 100 = .ok (.if_icmp .eq 28, 3) := by decide +kernel
theorem dX10_spell_103 : decode cX10_spell 103 = .ok (.iload 4, 2) := by decide +kernel
theorem dX10_spell_105 : decode cX10_spell 105 = .ok (.bipush 59, 2) := by decide +kernel
theorem dX10_spell_107 : decode cX10_spell 107 = .ok (.if_icmp .eq 21, 3) := by decide +kernel
theorem dX10_spell_110 : decode cX10_spell 110 = .ok (.iload_n 3, 1) := by decide +kernel
theorem dX10_spell_111 : decode cX10_spell 111 = .ok (.bipush 91, 2) := by decide +kernel
theorem dX10_spell_113 : decode cX10_spell 113 = .ok (.if_icmp .eq 15, 3) := by decide +kernel
theorem dX10_spell_116 : decode cX10_spell 116 = .ok (.iload_n 3, 1) := by decide +kernel
theorem dX10_spell_117 : decode cX10_spell 117 = .ok (.bipush 45, 2) := by decide +kernel
theorem dX10_spell_119 : decode cX10_spell 119 = .ok (.if_icmp .eq 9, 3) := by decide +kernel
theorem dX10_spell_122 : decode cX10_spell 122 = .ok (.aload_n 0, 1) := by decide +kernel
theorem dX10_spell_123 : decode cX10_spell 123 = .ok (.bipush 32, 2) := by decide +kernel
theorem dX10_spell_125 : decode cX10_spell 125 = .ok (.invokevirtual 467, 3) := by decide +kernel
theorem dX10_spell_128 : decode cX10_spell 128 = .ok (.iload 4, 2) := by decide +kernel
theorem dX10_spell_130 : decode cX10_spell 130 = .ok (.istore_n 3, 1) := by decide +kernel
theorem dX10_spell_131 : decode cX10_spell 131 = .ok (.iload 4, 2) := by decide +kernel
theorem dX10_spell_133 : decode cX10_spell 133 = .ok (.invokestatic 276, 3) := by decide +kernel
theorem dX10_spell_136 : decode cX10_spell 136 = .ok (.ifCond .ne 23, 3) := by decide +kernel
theorem dX10_spell_139 : decode cX10_spell 139 = .ok (.iload 4, 2) := by decide +kernel
theorem dX10_spell_141 : decode cX10_spell 141 = .ok (.invokestatic 280, 3) := by decide +kernel
theorem dX10_spell_144 : decode cX10_spell 144 = .ok (.ifCond .ne 15, 3) := by decide +kernel
theorem dX10_spell_147 : decode cX10_spell 147 = .ok (.aload_n 0, 1) := by decide +kernel
theorem dX10_spell_148 : decode cX10_spell 148 = .ok (.iload 4, 2) := by decide +kernel
theorem dX10_spell_150 : decode cX10_spell 150 = .ok (.invokevirtual 467, 3) := by decide +kernel
theorem dX10_spell_153 : decode cX10_spell 153 = .ok (.iinc 2 1, 3) := by decide +kernel
theorem dX10_spell_156 : decode cX10_spell 156 = .ok (.goto (-112), 3) := by decide +kernel
theorem dX10_spell_159 : decode cX10_spell 159 = .ok (.iload 4, 2) := by decide +kernel
theorem dX10_spell_161 : decode cX10_spell 161 = .ok (.invokestatic 280, 3) := by decide +kernel
theorem dX10_spell_164 : decode cX10_spell 164 = .ok (.ifCond .eq 34, 3) := by decide +kernel
theorem dX10_spell_167 : decode cX10_spell 167 = .ok (.aload_n 0, 1) := by decide +kernel
theorem dX10_spell_168 : decode cX10_spell 168 = .ok (.getfield 13, 3) := by decide +kernel
theorem dX10_spell_171 : decode cX10_spell 171 = .ok (.iload_n 2, 1) := by decide +kernel
theorem dX10_spell_172 : decode cX10_spell 172 = .ok (.iaload, 1) := by decide +kernel
theorem dX10_spell_173 : decode cX10_spell 173 = .ok (.bipush 48, 2) := by decide +kernel
theorem dX10_spell_175 : decode cX10_spell 175 = .ok (.if_icmp .ne 23, 3) := by decide +kernel
theorem dX10_spell_178 : decode cX10_spell 178 = .ok (.aload_n 0, 1) := by decide +kernel
theorem dX10_spell_179 : decode cX10_spell 179 = .ok (.getfield 13, 3) := by decide +kernel
theorem dX10_spell_182 : decode cX10_spell 182 = .ok (.iload_n 2, 1) := by decide +kernel
theorem dX10_spell_183 : decode cX10_spell 183 = .ok (.iconst 1, 1) := by decide +kernel
theorem dX10_spell_184 : decode cX10_spell 184 = .ok (.iadd, 1) := by decide +kernel
theorem dX10_spell_185 : decode cX10_spell 185 = .ok (.iaload, 1) := by decide +kernel
theorem dX10_spell_186 : decode cX10_spell 186 = .ok (.invokestatic 280, 3) := by decide +kernel
theorem dX10_spell_189 : decode cX10_spell 189 = .ok (.ifCond .eq 9, 3) := by decide +kernel
theorem dX10_spell_192 : decode cX10_spell 192 = .ok (.iinc 2 1, 3) := by decide +kernel
theorem dX10_spell_195 : decode cX10_spell 195 = .ok (.goto (-28), 3) := by decide +kernel
theorem dX10_spell_198 : decode cX10_spell 198 = .ok (.aload_n 0, 1) := by decide +kernel
theorem dX10_spell_199 : decode cX10_spell 199 = .ok (.getfield 13, 3) := by decide +kernel
theorem dX10_spell_202 : decode cX10_spell 202 = .ok (.iload_n 2, 1) := by decide +kernel
theorem dX10_spell_203 : decode cX10_spell 203 = .ok (.iaload, 1) := by decide +kernel
theorem dX10_spell_204 : decode cX10_spell 204 = .ok (.invokestatic 276, 3) := by decide +kernel
theorem dX10_spell_207 : decode cX10_spell 207 = .ok (.ifCond .ne 15, 3) := by decide +kernel
theorem dX10_spell_210 : decode cX10_spell 210 = .ok (.aload_n 0, 1) := by decide +kernel
theorem dX10_spell_211 : decode cX10_spell 211 = .ok (.getfield 13, 3) := by decide +kernel
theorem dX10_spell_214 : decode cX10_spell 214 = .ok (.iload_n 2, 1) := by decide +kernel
theorem dX10_spell_215 : decode cX10_spell 215 = .ok (.iaload, 1) := by decide +kernel
theorem dX10_spell_216 : decode cX10_spell 216 = .ok (.invokestatic 280, 3) := by decide +kernel
theorem dX10_spell_219 : decode cX10_spell 219 = .ok (.ifCond .eq 19, 3) := by decide +kernel
theorem dX10_spell_222 : decode cX10_spell 222 = .ok (.aload_n 0, 1) := by decide +kernel
theorem dX10_spell_223 : decode cX10_spell 223 = .ok (.aload_n 0, 1) := by decide +kernel
theorem dX10_spell_224 : decode cX10_spell 224 = .ok (.getfield 13, 3) := by decide +kernel
theorem dX10_spell_227 : decode cX10_spell 227 = .ok (.iload_n 2, 1) := by decide +kernel
theorem dX10_spell_228 : decode cX10_spell 228 = .ok (.iaload, 1) := by decide +kernel
theorem dX10_spell_229 : decode cX10_spell 229 = .ok (.invokevirtual 467, 3) := by decide +kernel
theorem dX10_spell_232 : decode cX10_spell 232 = .ok (.iinc 2 1, 3) := by decide +kernel
theorem dX10_spell_235 : decode cX10_spell 235 = .ok (.goto (-37), 3) := by decide +kernel
theorem dX10_spell_238 : decode cX10_spell 238 = .ok (.goto (-194), 3) := by decide +kernel
theorem dX10_spell_241 : decode cX10_spell 241 = .ok (.aload_n 0, 1) := by decide +kernel
theorem dX10_spell_242 : decode cX10_spell 242 = .ok (.getfield 464, 3) := by decide +kernel
theorem dX10_spell_245 : decode cX10_spell 245 = .ok (.ireturn, 1) := by decide +kernel

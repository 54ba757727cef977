theorem dX10_forget_0 : decode cX10_forget 0 = .ok (.iconst 0, 1) := by decide +kernel
theorem dX10_forget_1 : decode cX10_forget 1 = .ok (.istore_n 1, 1) := by decide +kernel
theorem dX10_forget_2 : decode cX10_forget 2 = .ok (.iload_n 1, 1) := by decide +kernel
theorem dX10_forget_3 : decode cX10_forget 3 = .ok (.bipush 26, 2) := by decide +kernel
theorem dX10_forget_5 : decode cX10_forget 5 = .ok (.if_icmp .ge 16, 3) := by decide +kernel
theorem dX10_forget_8 : decode cX10_forget 8 = .ok (.aload_n 0, 1) := by decide +kernel
theorem dX10_forget_9 : decode cX10_forget 9 = .ok (.getfield 65, 3) := by decide +kernel
theorem dX10_forget_12 : decode cX10_forget 12 = .ok (.iload_n 1, 1) := by decide +kernel
theorem dX10_forget_13 : decode cX10_forget 13 = .ok (.iconst 0, 1) := by decide +kernel
theorem dX10_forget_14 : decode cX10_forget 14 = .ok (.iastore, 1) := by decide +kernel
theorem dX10_forget_15 : decode cX10_forget 15 = .ok (.iinc 1 1, 3) := by decide +kernel
theorem dX10_forget_18 : decode cX10_forget 18 = .ok (.goto (-16), 3) := by decide +kernel
theorem dX10_forget_21 : decode cX10_forget 21 = .ok (.aload_n 0, 1) := by decide +kernel
theorem dX10_forget_22 : decode cX10_forget 22 = .ok (.iconst 0, 1) := by decide +kernel
theorem dX10_forget_23 : decode cX10_forget 23 = .ok (.putfield 469, 3) := by decide +kernel
theorem dX10_forget_26 : decode cX10_forget 26 = .ok (.aload_n 0, 1) := by decide +kernel
theorem dX10_forget_27 : decode cX10_forget 27 = .ok (.iconst 0, 1) := by decide +kernel
theorem dX10_forget_28 : decode cX10_forget 28 = .ok (.putfield 472, 3) := by decide +kernel
theorem dX10_forget_31 : decode cX10_forget 31 = .ok (.aload_n 0, 1) := by decide +kernel
theorem dX10_forget_32 : decode cX10_forget 32 = .ok (.iconst 0, 1) := by decide +kernel
theorem dX10_forget_33 : decode cX10_forget 33 = .ok (.putfield 475, 3) := by decide +kernel
theorem dX10_forget_36 : decode cX10_forget 36 = .ok (.aload_n 0, 1) := by decide +kernel
theorem dX10_forget_37 : decode cX10_forget 37 = .ok (.iconst 0, 1) := by decide +kernel
theorem dX10_forget_38 : decode cX10_forget 38 = .ok (.putfield 478, 3) := by decide +kernel
theorem dX10_forget_41 : decode cX10_forget 41 = .ok (.aload_n 0, 1) := by decide +kernel
theorem dX10_forget_42 : decode cX10_forget 42 = .ok (.iconst 0, 1) := by decide +kernel
theorem dX10_forget_43 : decode cX10_forget 43 = .ok (.putfield 481, 3) := by decide +kernel
theorem dX10_forget_46 : decode cX10_forget 46 = .ok (.aload_n 0, 1) := by decide +kernel
theorem dX10_forget_47 : decode cX10_forget 47 = .ok (.iconst 0, 1) := by decide +kernel
theorem dX10_forget_48 : decode cX10_forget 48 = .ok (.putfield 484, 3) := by decide +kernel
theorem dX10_forget_51 : decode cX10_forget 51 = .ok (.aload_n 0, 1) := by decide +kernel
theorem dX10_forget_52 : decode cX10_forget 52 = .ok (.iconst 0, 1) := by decide +kernel
theorem dX10_forget_53 : decode cX10_forget 53 = .ok (.putfield 487, 3) := by decide +kernel
theorem dX10_forget_56 : decode cX10_forget 56 = .ok (.aload_n 0, 1) := by decide +kernel
theorem dX10_forget_57 : decode cX10_forget 57 = .ok (.iconst 0, 1) := by decide +kernel
theorem dX10_forget_58 : decode cX10_forget 58 = .ok (.putfield 490, 3) := by decide +kernel
theorem dX10_forget_61 : decode cX10_forget 61 = .ok (.return_, 1) := by decide +kernel
theorem dX10_compile_0 : decode cX10_compile 0 = .ok (.aload_n 0, 1) := by decide +kernel
theorem dX10_compile_1 : decode cX10_compile 1 = .ok (.iconst 0, 1) := by decide +kernel
theorem dX10_compile_2 : decode cX10_compile 2 = .ok (.putfield 122, 3) := by decide +kernel
theorem dX10_compile_5 : decode cX10_compile 5 = .ok (.aload_n 0, 1) := by decide +kernel
theorem dX10_compile_6 : decode cX10_compile 6 = .ok (.aload_n 0, 1) := by decide +kernel
theorem dX10_compile_7 : decode cX10_compile 7 = .ok (.getfield 126, 3) := by decide +kernel
theorem dX10_compile_10 : decode cX10_compile 10 = .ok (.putfield 261, 3) := by decide +kernel
theorem dX10_compile_13 : decode cX10_compile 13 = .ok (.aload_n 0, 1) := by decide +kernel
theorem dX10_compile_14 : decode cX10_compile 14 = .ok (.iconst 0, 1) := by decide +kernel
theorem dX10_compile_15 : decode cX10_compile 15 = .ok (.putfield 126, 3) := by decide +kernel
theorem dX10_compile_18 : decode cX10_compile 18 = .ok (.aload_n 0, 1) := by decide +kernel
theorem dX10_compile_19 : decode cX10_compile 19 = .ok (.iconst 0, 1) := by decide +kernel
theorem dX10_compile_20 : decode cX10_compile 20 = .ok (.putfield 263, 3) := by decide +kernel
theorem dX10_compile_23 : decode cX10_compile 23 = .ok (.aload_n 0, 1) := by decide +kernel
theorem dX10_compile_24 : decode cX10_compile 24 = .ok (.iconst 0, 1) := by decide +kernel
theorem dX10_compile_25 : decode cX10_compile 25 = .ok (.putfield 442, 3) := by decide +kernel
theorem dX10_compile_28 : decode cX10_compile 28 = .ok (.aload_n 0, 1) := by decide +kernel
theorem dX10_compile_29 : decode cX10_compile 29 = .ok (.iconst 0, 1) := by decide +kernel
theorem dX10_compile_30 : decode cX10_compile 30 = .ok (.putfield 401, 3) := by decide +kernel
theorem dX10_compile_33 : decode cX10_compile 33 = .ok (.iconst 0, 1) := by decide +kernel
theorem dX10_compile_34 : decode cX10_compile 34 = .ok (.istore_n 1, 1) := by decide +kernel
theorem dX10_compile_35 : decode cX10_compile 35 = .ok (.iconst 1, 1) := by decide +kernel
theorem dX10_compile_36 : decode cX10_compile 36 = .ok (.istore_n 2, 1) := by decide +kernel
theorem dX10_compile_37 : decode cX10_compile 37 = .ok (.aload_n 0, 1) := by decide +kernel
theorem dX10_compile_38 : decode cX10_compile 38 = .ok (.invokevirtual 322, 3) := by decide +kernel
theorem dX10_compile_41 : decode cX10_compile 41 = .ok (.aload_n 0, 1) := by decide +kernel
theorem dX10_compile_42 : decode cX10_compile 42 = .ok (.invokevirtual 445, 3) := by decide +kernel
theorem dX10_compile_45 : decode cX10_compile 45 = .ok (.ifCond .ne 12, 3) := by decide +kernel
theorem dX10_compile_48 : decode cX10_compile 48 = .ok (.aload_n 0, 1) := by decide +kernel
theorem dX10_compile_49 : decode cX10_compile 49 = .ok (.iconst 2, 1) := by decide +kernel
theorem dX10_compile_50 : decode cX10_compile 50 = .ok (.invokevirtual 319, 3) := by decide +kernel
theorem dX10_compile_53 : decode cX10_compile 53 = .ok (.istore_n 2, 1) := by decide +kernel
theorem dX10_compile_54 : decode cX10_compile 54 = .ok (.goto 27, 3) := by decide +kernel
theorem dX10_compile_57 : decode cX10_compile 57 = .ok (.iload_n 1, 1) := by decide +kernel
theorem dX10_compile_58 : decode cX10_compile 58 = .ok (.bipush 100, 2) := by decide +kernel
theorem dX10_compile_60 : decode cX10_compile 60 = .ok (.if_icmp .ne 12, 3) := by decide +kernel
theorem dX10_compile_63 : decode cX10_compile 63 = .ok (.aload_n 0, 1) := by decide +kernel
theorem dX10_compile_64 : decode cX10_compile 64 = .ok (.iconst 4, 1) := by decide +kernel
theorem dX10_compile_65 : decode cX10_compile 65 = .ok (.invokevirtual 319, 3) := by decide +kernel
theorem dX10_compile_68 : decode cX10_compile 68 = .ok (.istore_n 2, 1) := by decide +kernel
theorem dX10_compile_69 : decode cX10_compile 69 = .ok (.goto 12, 3) := by decide +kernel
theorem dX10_compile_72 : decode cX10_compile 72 = .ok (.aload_n 0, 1) := by decide +kernel
theorem dX10_compile_73 : decode cX10_compile 73 = .ok (.bipush 101, 2) := by decide +kernel
theorem dX10_compile_75 : decode cX10_compile 75 = .ok (.iload_n 1, 1) := by decide +kernel
theorem dX10_compile_76 : decode cX10_compile 76 = .ok (.iadd, 1) := by decide +kernel
theorem dX10_compile_77 : decode cX10_compile 77 = .ok (.invokevirtual 448, 3) := by decide +kernel
theorem dX10_compile_80 : decode cX10_compile 80 = .ok (.istore_n 2, 1) := by decide +kernel
theorem dX10_compile_81 : decode cX10_compile 81 = .ok (.iinc 1 1, 3) := by decide +kernel
theorem dX10_compile_84 : decode cX10_compile 84 = .ok (.iload_n 2, 1) := by decide +kernel
theorem dX10_compile_85 : decode cX10_compile 85 = .ok (.ifCond .eq 10, 3) := by decide +kernel
theorem dX10_compile_88 : decode cX10_compile 88 = .ok (.aload_n 0, 1) := by decide +kernel
theorem dX10_compile_89 : decode cX10_compile 89 = .ok (.getfield 273, 3) := by decide +kernel
theorem dX10_compile_92 : decode cX10_compile 92 = .ok (.ifCond .ne (-51), 3) := by decide +kernel
theorem dX10_compile_95 : decode cX10_compile 95 = .ok (.iload_n 2, 1) := by decide +kernel
theorem dX10_compile_96 : decode cX10_compile 96 = .ok (.ifCond .ne 18, 3) := by decide +kernel
theorem dX10_compile_99 : decode cX10_compile 99 = .ok (.aload_n 0, 1) := by decide +kernel
theorem dX10_compile_100 : decode cX10_compile 100 = .ok (.aload_n 0, 1) := by decide +kernel
theorem dX10_compile_101 : decode cX10_compile 101 = .ok (.getfield 310, 3) := by decide +kernel
theorem dX10_compile_104 : decode cX10_compile 104 = .ok (.putfield 442, 3) := by decide +kernel
theorem dX10_compile_107 : decode cX10_compile 107 = .ok (.iconst (-1), 1) := by decide +kernel
theorem dX10_compile_108 : decode cX10_compile 108 = .ok (.aload_n 0, 1) := by decide +kernel
theorem dX10_compile_109 : decode cX10_compile 109 = .ok (.getfield 313, 3) := by decide +kernel
theorem dX10_compile_112 : decode cX10_compile 112 = .ok (.isub, 1) := by decide +kernel
theorem dX10_compile_113 : decode cX10_compile 113 = .ok (.ireturn, 1) := by decide +kernel
theorem dX10_compile_114 : decode cX10_compile 114 = .ok (.iconst 0, 1) := by decide +kernel
theorem dX10_compile_115 : decode cX10_compile 115 = .ok (.istore_n 3, 1) := by decide +kernel
theorem dX10_compile_116 : decode cX10_compile 116 = .ok (.iload_n 3, 1) := by decide +kernel
theorem dX10_compile_117 : decode cX10_compile 117 = .ok (.iload_n 1, 1) := by decide +kernel
theorem dX10_compile_118 : decode cX10_compile 118 = .ok (.if_icmp .ge 18, 3) := by decide +kernel
theorem dX10_compile_121 : decode cX10_compile 121 = .ok (.aload_n 0, 1) := by decide +kernel
theorem dX10_compile_122 : decode cX10_compile 122 = .ok (.bipush 101, 2) := by decide +kernel
theorem dX10_compile_124 : decode cX10_compile 124 = .ok (.iload_n 3, 1) := by decide +kernel
theorem dX10_compile_125 : decode cX10_compile 125 = .ok (.iadd, 1) := by decide +kernel
theorem dX10_compile_126 : decode cX10_compile 126 = .ok (.iload_n 3, 1) := by decide +kernel
theorem dX10_compile_127 : decode cX10_compile 127 = .ok (.invokevirtual 451, 3) := by decide +kernel
theorem dX10_compile_130 : decode cX10_compile 130 = .ok (.iinc 3 1, 3) := by decide +kernel
theorem dX10_compile_133 : decode cX10_compile 133 = .ok (.goto (-17), 3) := by decide +kernel
theorem dX10_compile_136 : decode cX10_compile 136 = .ok (.iconst 0, 1) := by decide +kernel
theorem dX10_compile_137 : decode cX10_compile 137 = .ok (.istore_n 3, 1) := by decide +kernel
theorem dX10_compile_138 : decode cX10_compile 138 = .ok (.iload_n 3, 1) := by decide +kernel
theorem dX10_compile_139 : decode cX10_compile 139 = .ok (.aload_n 0, 1) := by decide +kernel
theorem dX10_compile_140 : decode cX10_compile 140 = .ok (.getfield 261, 3) := by decide +kernel
theorem dX10_compile_143 : decode cX10_compile 143 = .ok (.if_icmp .ge 21, 3) := by decide +kernel
theorem dX10_compile_146 : decode cX10_compile 146 = .ok (.aload_n 0, 1) := by decide +kernel
theorem dX10_compile_147 : decode cX10_compile 147 = .ok (.getfield 13, 3) := by decide +kernel
theorem dX10_compile_150 : decode cX10_compile 150 = .ok (.iload_n 3, 1) := by decide +kernel
theorem dX10_compile_151 : decode cX10_compile 151 = .ok (.aload_n 0, 1) := by decide +kernel
theorem dX10_compile_152 : decode cX10_compile 152 = .ok (.getfield 9, 3) := by decide +kernel
theorem dX10_compile_155 : decode cX10_compile 155 = .ok (.iload_n 3, 1) := by decide +kernel
theorem dX10_compile_156 : decode cX10_compile 156 = .ok (.iaload, 1) := by decide +kernel
theorem dX10_compile_157 : decode cX10_compile 157 = .ok (.iastore, 1) := by decide +kernel
theorem dX10_compile_158 : decode cX10_compile 158 = .ok (.iinc 3 1, 3) := by decide +kernel
theorem dX10_compile_161 : decode cX10_compile 161 = .ok (.goto (-23), 3) := by decide +kernel
theorem dX10_compile_164 : decode cX10_compile 164 = .ok (.aload_n 0, 1) := by decide +kernel
theorem dX10_compile_165 : decode cX10_compile 165 = .ok (.iload_n 1, 1) := by decide +kernel
theorem dX10_compile_166 : decode cX10_compile 166 = .ok (.putfield 455, 3) := by decide +kernel
theorem dX10_compile_169 : decode cX10_compile 169 = .ok (.aload_n 0, 1) := by decide +kernel
theorem dX10_compile_170 : decode cX10_compile 170 = .ok (.iconst 1, 1) := by decide +kernel
theorem dX10_compile_171 : decode cX10_compile 171 = .ok (.putfield 458, 3) := by decide +kernel
theorem dX10_compile_174 : decode cX10_compile 174 = .ok (.aload_n 0, 1) := by decide +kernel
theorem dX10_compile_175 : decode cX10_compile 175 = .ok (.invokevirtual 461, 3) := by decide +kernel
theorem dX10_compile_178 : decode cX10_compile 178 = .ok (.iconst 0, 1) := by decide +kernel
theorem dX10_compile_179 : decode cX10_compile 179 = .ok (.istore_n 3, 1) := by decide +kernel
theorem dX10_compile_180 : decode cX10_compile 180 = .ok (.iload_n 3, 1) := by decide +kernel
theorem dX10_compile_181 : decode cX10_compile 181 = .ok (.bipush 100, 2) := by decide +kernel
theorem dX10_compile_183 : decode cX10_compile 183 = .ok (.if_icmp .ge 16, 3) := by decide +kernel
theorem dX10_compile_186 : decode cX10_compile 186 = .ok (.aload_n 0, 1) := by decide +kernel
theorem dX10_compile_187 : decode cX10_compile 187 = .ok (.getfield 104, 3) := by decide +kernel
theorem dX10_compile_190 : decode cX10_compile 190 = .ok (.iload_n 3, 1) := by decide +kernel
theorem dX10_compile_191 : decode cX10_compile 191 = .ok (.iconst (-1), 1) := by decide +kernel
theorem dX10_compile_192 : decode cX10_compile 192 = .ok (.iastore, 1) := by decide +kernel
theorem dX10_compile_193 : decode cX10_compile 193 = .ok (.iinc 3 1, 3) := by decide +kernel
theorem dX10_compile_196 : decode cX10_compile 196 = .ok (.goto (-16), 3) := by decide +kernel
theorem dX10_compile_199 : decode cX10_compile 199 = .ok (.iload_n 1, 1) := by decide +kernel
theorem dX10_compile_200 : decode cX10_compile 200 = .ok (.ireturn, 1) := by decide +kernel
theorem dX10_fault_0 : decode cX10_fault 0 = .ok (.aload_n 0, 1) := by decide +kernel
theorem dX10_fault_1 : decode cX10_fault 1 = .ok (.iconst 0, 1) := by decide +kernel
theorem dX10_fault_2 : decode cX10_fault 2 = .ok (.putfield 122, 3) := by decide +kernel
theorem dX10_fault_5 : decode cX10_fault 5 = .ok (.aload_n 0, 1) := by decide +kernel
theorem dX10_fault_6 : decode cX10_fault 6 = .ok (.getfield 442, 3) := by decide +kernel
theorem dX10_fault_9 : decode cX10_fault 9 = .ok (.ireturn, 1) := by decide +kernel
theorem dX10_step_0 : decode cX10_step 0 = .ok (.aload_n 0, 1) := by decide +kernel
theorem dX10_step_1 : decode cX10_step 1 = .ok (.iload_n 1, 1) := by decide +kernel
theorem dX10_step_2 : decode cX10_step 2 = .ok (.ifCond .lt 20, 3) := by decide +kernel
theorem dX10_step_5 : decode cX10_step 5 = .ok (.iload_n 1, 1) := by decide +kernel
theorem dX10_step_6 : decode cX10_step 6 = .ok (.aload_n 0, 1) := by decide +kernel
theorem dX10_step_7 : decode cX10_step 7 = .ok (.getfield 455, 3) := by decide +kernel
theorem dX10_step_10 : decode cX10_step 10 = .ok (.if_icmp .ge 12, 3) := by decide +kernel
theorem dX10_step_13 : decode cX10_step 13 = .ok (.iload_n 2, 1) := by decide +kernel
theorem dX10_step_14 : decode cX10_step 14 = .ok (.ifCond .lt 8, 3) := by decide +kernel
theorem dX10_step_17 : decode cX10_step 17 = .ok (.iload_n 2, 1) := by decide +kernel
theorem dX10_step_18 : decode cX10_step 18 = .ok (.iconst 3, 1) := by decide +kernel
theorem dX10_step_19 : decode cX10_step 19 = .ok (.if_icmp .le 7, 3) := by decide +kernel
theorem dX10_step_22 : decode cX10_step 22 = .ok (.iconst 1, 1) := by decide +kernel
theorem dX10_step_23 : decode cX10_step 23 = .ok (.goto 4, 3) := by decide +kernel
theorem dX10_step_26 : decode cX10_step 26 = .ok (.iconst 0, 1) := by decide +kernel
theorem dX10_step_27 : decode cX10_step 27 = .ok (.putfield 122, 3) := by decide +kernel
theorem dX10_step_30 : decode cX10_step 30 = .ok (.aload_n 0, 1) := by decide +kernel
theorem dX10_step_31 : decode cX10_step 31 = .ok (.getfield 122, 3) := by decide +kernel
theorem dX10_step_34 : decode cX10_step 34 = .ok (.ifCond .le 5, 3) := by decide +kernel
theorem dX10_step_37 : decode cX10_step 37 = .ok (.iconst 0, 1) := by decide +kernel
theorem dX10_step_38 : decode cX10_step 38 = .ok (.ireturn, 1) := by decide +kernel
theorem dX10_step_39 : decode cX10_step 39 = .ok (.iload_n 2, 1) := by decide +kernel
theorem dX10_step_40 : decode cX10_step 40 = .ok (.ifCond .ne 12, 3) := by decide +kernel
theorem dX10_step_43 : decode cX10_step 43 = .ok (.aload_n 0, 1) := by decide +kernel
theorem dX10_step_44 : decode cX10_step 44 = .ok (.getfield 16, 3) := by decide +kernel
theorem dX10_step_47 : decode cX10_step 47 = .ok (.iload_n 1, 1) := by decide +kernel
theorem dX10_step_48 : decode cX10_step 48 = .ok (.iaload, 1) := by decide +kernel
theorem dX10_step_49 : decode cX10_step 49 = .ok (.goto 37, 3) := by decide +kernel
theorem dX10_step_52 : decode cX10_step 52 = .ok (.iload_n 2, 1) := by decide +kernel
theorem dX10_step_53 : decode cX10_step 53 = .ok (.iconst 1, 1) := by decide +kernel
theorem dX10_step_54 : decode cX10_step 54 = .ok (.if_icmp .ne 12, 3) := by decide +kernel
theorem dX10_step_57 : decode cX10_step 57 = .ok (.aload_n 0, 1) := by decide +kernel
theorem dX10_step_58 : decode cX10_step 58 = .ok (.getfield 19, 3) := by decide +kernel
theorem dX10_step_61 : decode cX10_step 61 = .ok (.iload_n 1, 1) := by decide +kernel
theorem dX10_step_62 : decode cX10_step 62 = .ok (.iaload, 1) := by decide +kernel
theorem dX10_step_63 : decode cX10_step 63 = .ok (.goto 23, 3) := by decide +kernel
theorem dX10_step_66 : decode cX10_step 66 = .ok (.iload_n 2, 1) := by decide +kernel
theorem dX10_step_67 : decode cX10_step 67 = .ok (.iconst 2, 1) := by decide +kernel
theorem dX10_step_68 : decode cX10_step 68 = .ok (.if_icmp .ne 12, 3) := by decide +kernel
theorem dX10_step_71 : decode cX10_step 71 = .ok (.aload_n 0, 1) := by decide +kernel
theorem dX10_step_72 : decode cX10_step 72 = .ok (.getfield 22, 3) := by decide +kernel
theorem dX10_step_75 : decode cX10_step 75 = .ok (.iload_n 1, 1) := by decide +kernel
theorem dX10_step_76 : decode cX10_step 76 = .ok (.iaload, 1) := by decide +kernel
theorem dX10_step_77 : decode cX10_step 77 = .ok (.goto 9, 3) := by decide +kernel
theorem dX10_step_80 : decode cX10_step 80 = .ok (.aload_n 0, 1) := by decide +kernel
theorem dX10_step_81 : decode cX10_step 81 = .ok (.getfield 25, 3) := by decide +kernel
theorem dX10_step_84 : decode cX10_step 84 = .ok (.iload_n 1, 1) := by decide +kernel
theorem dX10_step_85 : decode cX10_step 85 = .ok (.iaload, 1) := by decide +kernel
theorem dX10_step_86 : decode cX10_step 86 = .ok (.ireturn, 1) := by decide +kernel
theorem dX10_put_0 : decode cX10_put 0 = .ok (.aload_n 0, 1) := by decide +kernel
theorem dX10_put_1 : decode cX10_put 1 = .ok (.getfield 62, 3) := by decide +kernel
theorem dX10_put_4 : decode cX10_put 4 = .ok (.aload_n 0, 1) := by decide +kernel
theorem dX10_put_5 : decode cX10_put 5 = .ok (.getfield 464, 3) := by decide +kernel
theorem dX10_put_8 : decode cX10_put 8 = .ok (.iload_n 1, 1) := by decide +kernel
theorem dX10_put_9 : decode cX10_put 9 = .ok (.iastore, 1) := by decide +kernel
theorem dX10_put_10 : decode cX10_put 10 = .ok (.aload_n 0, 1) := by decide +kernel
theorem dX10_put_11 : decode cX10_put 11 = .ok (.dup, 1) := by decide +kernel
theorem dX10_put_12 : decode cX10_put 12 = .ok (.getfield 464, 3) := by decide +kernel
theorem dX10_put_15 : decode cX10_put 15 = .ok (.iconst 1, 1) := by decide +kernel
theorem dX10_put_16 : decode cX10_put 16 = .ok (.iadd, 1) := by decide +kernel
theorem dX10_put_17 : decode cX10_put 17 = .ok (.putfield 464, 3) := by decide +kernel
theorem dX10_put_20 : decode cX10_put 20 = .ok (.return_, 1) := by decide +kernel
theorem dX10_octet_0 : decode cX10_octet 0 = .ok (.aload_n 0, 1) := by decide +kernel
theorem dX10_octet_1 : decode cX10_octet 1 = .ok (.iload_n 1, 1) := by decide +kernel
theorem dX10_octet_2 : decode cX10_octet 2 = .ok (.ifCond .lt 11, 3) := by decide +kernel
theorem dX10_octet_5 : decode cX10_octet 5 = .ok (.iload_n 1, 1) := by decide +kernel
theorem dX10_octet_6 : decode cX10_octet 6 = .ok (.aload_n 0, 1) := by decide +kernel
theorem dX10_octet_7 : decode cX10_octet 7 = .ok (.getfield 464, 3) := by decide +kernel
theorem dX10_octet_10 : decode cX10_octet 10 = .ok (.if_icmp .lt 7, 3) := by decide +kernel
theorem dX10_octet_13 : decode cX10_octet 13 = .ok (.iconst 1, 1) := by decide +kernel
theorem dX10_octet_14 : decode cX10_octet 14 = .ok (.goto 4, 3) := by decide +kernel
theorem dX10_octet_17 : decode cX10_octet 17 = .ok (.iconst 0, 1) := by decide +kernel
theorem dX10_octet_18 : decode cX10_octet 18 = .ok (.putfield 122, 3) := by decide +kernel
theorem dX10_octet_21 : decode cX10_octet 21 = .ok (.aload_n 0, 1) := by decide +kernel
theorem dX10_octet_22 : decode cX10_octet 22 = .ok (.getfield 122, 3) := by decide +kernel
theorem dX10_octet_25 : decode cX10_octet 25 = .ok (.ifCond .le 7, 3) := by decide +kernel
theorem dX10_octet_28 : decode cX10_octet 28 = .ok (.iconst 0, 1) := by decide +kernel
theorem dX10_octet_29 : decode cX10_octet 29 = .ok (.goto 9, 3) := by decide +kernel
theorem dX10_octet_32 : decode cX10_octet 32 = .ok (.aload_n 0, 1) := by decide +kernel
theorem dX10_octet_33 : decode cX10_octet 33 = .ok (.getfield 62, 3) := by decide +kernel
theorem dX10_octet_36 : decode cX10_octet 36 = .ok (.iload_n 1, 1) := by decide +kernel
theorem dX10_octet_37 : decode cX10_octet 37 = .ok (.iaload, 1) := by decide +kernel
theorem dX10_octet_38 : decode cX10_octet 38 = .ok (.ireturn, 1) := by decide +kernel
theorem dX10_outcome_0 : decode cX10_outcome 0 = .ok (.aload_n 0, 1) := by decide +kernel
theorem dX10_outcome_1 : decode cX10_outcome 1 = .ok (.iload_n 1, 1) := by decide +kernel
theorem dX10_outcome_2 : decode cX10_outcome 2 = .ok (.ifCond .lt 11, 3) := by decide +kernel
theorem dX10_outcome_5 : decode cX10_outcome 5 = .ok (.iload_n 1, 1) := by decide +kernel
theorem dX10_outcome_6 : decode cX10_outcome 6 = .ok (.aload_n 0, 1) := by decide +kernel
theorem dX10_outcome_7 : decode cX10_outcome 7 = .ok (.getfield 455, 3) := by decide +kernel
theorem dX10_outcome_10 : decode cX10_outcome 10 = .ok (.if_icmp .lt 7, 3) := by decide +kernel
theorem dX10_outcome_13 : decode cX10_outcome 13 = .ok (.iconst 1, 1) := by decide +kernel
theorem dX10_outcome_14 : decode cX10_outcome 14 = .ok (.goto 4, 3) := by decide +kernel
theorem dX10_outcome_17 : decode cX10_outcome 17 = .ok (.iconst 0, 1) := by decide +kernel
theorem dX10_outcome_18 : decode cX10_outcome 18 = .ok (.putfield 122, 3) := by decide +kernel
theorem dX10_outcome_21 : decode cX10_outcome 21 = .ok (.aload_n 0, 1) := by decide +kernel
theorem dX10_outcome_22 : decode cX10_outcome 22 = .ok (.getfield 122, 3) := by decide +kernel
theorem dX10_outcome_25 : decode cX10_outcome 25 = .ok (.ifCond .le 7, 3) := by decide +kernel
theorem dX10_outcome_28 : decode cX10_outcome 28 = .ok (.iconst 0, 1) := by decide +kernel
theorem dX10_outcome_29 : decode cX10_outcome 29 = .ok (.goto 9, 3) := by decide +kernel
theorem dX10_outcome_32 : decode cX10_outcome 32 = .ok (.aload_n 0, 1) := by decide +kernel
theorem dX10_outcome_33 : decode cX10_outcome 33 = .ok (.getfield 104, 3) := by decide +kernel
theorem dX10_outcome_36 : decode cX10_outcome 36 = .ok (.iload_n 1, 1) := by decide +kernel
theorem dX10_outcome_37 : decode cX10_outcome 37 = .ok (.iaload, 1) := by decide +kernel
theorem dX10_outcome_38 : decode cX10_outcome 38 = .ok (.ireturn, 1) := by decide +kernel
theorem dX10_count_0 : decode cX10_count 0 = .ok (.aload_n 0, 1) := by decide +kernel
theorem dX10_count_1 : decode cX10_count 1 = .ok (.iconst 0, 1) := by decide +kernel
theorem dX10_count_2 : decode cX10_count 2 = .ok (.putfield 122, 3) := by decide +kernel
theorem dX10_count_5 : decode cX10_count 5 = .ok (.iload_n 1, 1) := by decide +kernel
theorem dX10_count_6 : decode cX10_count 6 = .ok (.tableswitch 104 0 9 #[54, 59, 64, 69, 74, 79, 84, 89, 94, 99], 54) := by decide +kernel
theorem dX10_count_60 : decode cX10_count 60 = .ok (.aload_n 0, 1) := by decide +kernel
theorem dX10_count_61 : decode cX10_count 61 = .ok (.getfield 455, 3) := by decide +kernel
theorem dX10_count_64 : decode cX10_count 64 = .ok (.ireturn, 1) := by decide +kernel
theorem dX10_count_65 : decode cX10_count 65 = .ok (.aload_n 0, 1) := by decide +kernel
theorem dX10_count_66 : decode cX10_count 66 = .ok (.getfield 126, 3) := by decide +kernel
theorem dX10_count_69 : decode cX10_count 69 = .ok (.ireturn, 1) := by decide +kernel
theorem dX10_count_70 : decode cX10_count 70 = .ok (.aload_n 0, 1) := by decide +kernel
theorem dX10_count_71 : decode cX10_count 71 = .ok (.getfield 464, 3) := by decide +kernel
theorem dX10_count_74 : decode cX10_count 74 = .ok (.ireturn, 1) := by decide +kernel
theorem dX10_count_75 : decode cX10_count 75 = .ok (.aload_n 0, 1) := by decide +kernel
theorem dX10_count_76 : decode cX10_count 76 = .ok (.getfield 478, 3) := by decide +kernel
theorem dX10_count_79 : decode cX10_count 79 = .ok (.ireturn, 1) := by decide +kernel
theorem dX10_count_80 : decode cX10_count 80 = .ok (.aload_n 0, 1) := by decide +kernel
theorem dX10_count_81 : decode cX10_count 81 = .ok (.getfield 472, 3) := by decide +kernel
theorem dX10_count_84 : decode cX10_count 84 = .ok (.ireturn, 1) := by decide +kernel
theorem dX10_count_85 : decode cX10_count 85 = .ok (.aload_n 0, 1) := by decide +kernel
theorem dX10_count_86 : decode cX10_count 86 = .ok (.getfield 475, 3) := by decide +kernel
theorem dX10_count_89 : decode cX10_count 89 = .ok (.ireturn, 1) := by decide +kernel
theorem dX10_count_90 : decode cX10_count 90 = .ok (.aload_n 0, 1) := by decide +kernel
theorem dX10_count_91 : decode cX10_count 91 = .ok (.getfield 481, 3) := by decide +kernel
theorem dX10_count_94 : decode cX10_count 94 = .ok (.ireturn, 1) := by decide +kernel
theorem dX10_count_95 : decode cX10_count 95 = .ok (.aload_n 0, 1) := by decide +kernel
theorem dX10_count_96 : decode cX10_count 96 = .ok (.getfield 484, 3) := by decide +kernel
theorem dX10_count_99 : decode cX10_count 99 = .ok (.ireturn, 1) := by decide +kernel
theorem dX10_count_100 : decode cX10_count 100 = .ok (.aload_n 0, 1) := by decide +kernel
theorem dX10_count_101 : decode cX10_count 101 = .ok (.getfield 487, 3) := by decide +kernel
theorem dX10_count_104 : decode cX10_count 104 = .ok (.ireturn, 1) := by decide +kernel
theorem dX10_count_105 : decode cX10_count 105 = .ok (.aload_n 0, 1) := by decide +kernel
theorem dX10_count_106 : decode cX10_count 106 = .ok (.getfield 490, 3) := by decide +kernel
theorem dX10_count_109 : decode cX10_count 109 = .ok (.ireturn, 1) := by decide +kernel
theorem dX10_count_110 : decode cX10_count 110 = .ok (.iconst (-1), 1) := by decide +kernel
theorem dX10_count_111 : decode cX10_count 111 = .ok (.ireturn, 1) := by decide +kernel
theorem dX10_mark_0 : decode cX10_mark 0 = .ok (.aload_n 0, 1) := by decide +kernel
theorem dX10_mark_1 : decode cX10_mark 1 = .ok (.iconst 0, 1) := by decide +kernel
theorem dX10_mark_2 : decode cX10_mark 2 = .ok (.putfield 122, 3) := by decide +kernel
theorem dX10_mark_5 : decode cX10_mark 5 = .ok (.iload_n 2, 1) := by decide +kernel
theorem dX10_mark_6 : decode cX10_mark 6 = .ok (.ifCond .ne 21, 3) := by decide +kernel
theorem dX10_mark_9 : decode cX10_mark 9 = .ok (.iload_n 1, 1) := by decide +kernel
theorem dX10_mark_10 : decode cX10_mark 10 = .ok (.ifCond .lt 17, 3) := by decide +kernel
theorem dX10_mark_13 : decode cX10_mark 13 = .ok (.iload_n 1, 1) := by decide +kernel
theorem dX10_mark_14 : decode cX10_mark 14 = .ok (.aload_n 0, 1) := by decide +kernel
theorem dX10_mark_15 : decode cX10_mark 15 = .ok (.getfield 478, 3) := by decide +kernel
theorem dX10_mark_18 : decode cX10_mark 18 = .ok (.if_icmp .ge 9, 3) := by decide +kernel
theorem dX10_mark_21 : decode cX10_mark 21 = .ok (.iload_n 1, 1) := by decide +kernel
theorem dX10_mark_22 : decode cX10_mark 22 = .ok (.bipush 50, 2) := by decide +kernel
theorem dX10_mark_24 : decode cX10_mark 24 = .ok (.if_icmp .lt 7, 3) := by decide +kernel
theorem dX10_mark_27 : decode cX10_mark 27 = .ok (.iconst (-1), 1) := by decide +kernel
theorem dX10_mark_28 : decode cX10_mark 28 = .ok (.goto 9, 3) := by decide +kernel
theorem dX10_mark_31 : decode cX10_mark 31 = .ok (.aload_n 0, 1) := by decide +kernel
theorem dX10_mark_32 : decode cX10_mark 32 = .ok (.getfield 113, 3) := by decide +kernel
theorem dX10_mark_35 : decode cX10_mark 35 = .ok (.iload_n 1, 1) := by decide +kernel
theorem dX10_mark_36 : decode cX10_mark 36 = .ok (.iaload, 1) := by decide +kernel
theorem dX10_mark_37 : decode cX10_mark 37 = .ok (.ireturn, 1) := by decide +kernel

theorem dX10_bad_0 : decode cX10_bad 0 = .ok (.aload_n 0, 1) := by decide +kernel
theorem dX10_bad_1 : decode cX10_bad 1 = .ok (.aload_n 0, 1) := by decide +kernel
theorem dX10_bad_2 : decode cX10_bad 2 = .ok (.getfield 273, 3) := by decide +kernel
theorem dX10_bad_5 : decode cX10_bad 5 = .ok (.iconst 1, 1) := by decide +kernel
theorem dX10_bad_6 : decode cX10_bad 6 = .ok (.if_icmp .ne 7, 3) := by decide +kernel
theorem dX10_bad_9 : decode cX10_bad 9 = .ok (.iconst 1, 1) := by decide +kernel
theorem dX10_bad_10 : decode cX10_bad 10 = .ok (.goto 4, 3) := by decide +kernel
theorem dX10_bad_13 : decode cX10_bad 13 = .ok (.iload_n 1, 1) := by decide +kernel
theorem dX10_bad_14 : decode cX10_bad 14 = .ok (.putfield 310, 3) := by decide +kernel
theorem dX10_bad_17 : decode cX10_bad 17 = .ok (.aload_n 0, 1) := by decide +kernel
theorem dX10_bad_18 : decode cX10_bad 18 = .ok (.aload_n 0, 1) := by decide +kernel
theorem dX10_bad_19 : decode cX10_bad 19 = .ok (.getfield 270, 3) := by decide +kernel
theorem dX10_bad_22 : decode cX10_bad 22 = .ok (.putfield 313, 3) := by decide +kernel
theorem dX10_bad_25 : decode cX10_bad 25 = .ok (.iconst 0, 1) := by decide +kernel
theorem dX10_bad_26 : decode cX10_bad 26 = .ok (.ireturn, 1) := by decide +kernel
theorem dX10_is_0 : decode cX10_is 0 = .ok (.aload_n 0, 1) := by decide +kernel
theorem dX10_is_1 : decode cX10_is 1 = .ok (.getfield 273, 3) := by decide +kernel
theorem dX10_is_4 : decode cX10_is 4 = .ok (.iconst 2, 1) := by decide +kernel
theorem dX10_is_5 : decode cX10_is 5 = .ok (.if_icmp .ne 19, 3) := by decide +kernel
theorem dX10_is_8 : decode cX10_is 8 = .ok (.aload_n 0, 1) := by decide +kernel
theorem dX10_is_9 : decode cX10_is 9 = .ok (.getfield 289, 3) := by decide +kernel
theorem dX10_is_12 : decode cX10_is 12 = .ok (.aload_n 1, 1) := by decide +kernel
theorem dX10_is_13 : decode cX10_is 13 = .ok (.invokestatic 185, 3) := by decide +kernel
theorem dX10_is_16 : decode cX10_is 16 = .ok (.lcmp, 1) := by decide +kernel
theorem dX10_is_17 : decode cX10_is 17 = .ok (.ifCond .ne 7, 3) := by decide +kernel
theorem dX10_is_20 : decode cX10_is 20 = .ok (.iconst 1, 1) := by decide +kernel
theorem dX10_is_21 : decode cX10_is 21 = .ok (.goto 4, 3) := by decide +kernel
theorem dX10_is_24 : decode cX10_is 24 = .ok (.iconst 0, 1) := by decide +kernel
theorem dX10_is_25 : decode cX10_is 25 = .ok (.ireturn, 1) := by decide +kernel
theorem dX10_isSign_0 : decode cX10_isSign 0 = .ok (.aload_n 0, 1) := by decide +kernel
theorem dX10_isSign_1 : decode cX10_isSign 1 = .ok (.getfield 273, 3) := by decide +kernel
theorem dX10_isSign_4 : decode cX10_isSign 4 = .ok (.iconst 4, 1) := by decide +kernel
theorem dX10_isSign_5 : decode cX10_isSign 5 = .ok (.if_icmp .ne 17, 3) := by decide +kernel
theorem dX10_isSign_8 : decode cX10_isSign 8 = .ok (.aload_n 0, 1) := by decide +kernel
theorem dX10_isSign_9 : decode cX10_isSign 9 = .ok (.getfield 289, 3) := by decide +kernel
theorem dX10_isSign_12 : decode cX10_isSign 12 = .ok (.iload_n 1, 1) := by decide +kernel
theorem dX10_isSign_13 : decode cX10_isSign 13 = .ok (.i2l, 1) := by decide +kernel
theorem dX10_isSign_14 : decode cX10_isSign 14 = .ok (.lcmp, 1) := by decide +kernel
theorem dX10_isSign_15 : decode cX10_isSign 15 = .ok (.ifCond .ne 7, 3) := by decide +kernel
theorem dX10_isSign_18 : decode cX10_isSign 18 = .ok (.iconst 1, 1) := by decide +kernel
theorem dX10_isSign_19 : decode cX10_isSign 19 = .ok (.goto 4, 3) := by decide +kernel
theorem dX10_isSign_22 : decode cX10_isSign 22 = .ok (.iconst 0, 1) := by decide +kernel
theorem dX10_isSign_23 : decode cX10_isSign 23 = .ok (.ireturn, 1) := by decide +kernel
theorem dX10_sign_0 : decode cX10_sign 0 = .ok (.aload_n 0, 1) := by decide +kernel
theorem dX10_sign_1 : decode cX10_sign 1 = .ok (.iload_n 1, 1) := by decide +kernel
theorem dX10_sign_2 : decode cX10_sign 2 = .ok (.invokevirtual 316, 3) := by decide +kernel
theorem dX10_sign_5 : decode cX10_sign 5 = .ok (.ifCond .ne 9, 3) := by decide +kernel
theorem dX10_sign_8 : decode cX10_sign 8 = .ok (.aload_n 0, 1) := by decide +kernel
theorem dX10_sign_9 : decode cX10_sign 9 = .ok (.iconst 2, 1) := by decide +kernel
theorem dX10_sign_10 : decode cX10_sign 10 = .ok (.invokevirtual 319, 3) := by decide +kernel
theorem dX10_sign_13 : decode cX10_sign 13 = .ok (.ireturn, 1) := by decide +kernel
theorem dX10_sign_14 : decode cX10_sign 14 = .ok (.aload_n 0, 1) := by decide +kernel
theorem dX10_sign_15 : decode cX10_sign 15 = .ok (.invokevirtual 322, 3) := by decide +kernel
theorem dX10_sign_18 : decode cX10_sign 18 = .ok (.iconst 1, 1) := by decide +kernel
theorem dX10_sign_19 : decode cX10_sign 19 = .ok (.ireturn, 1) := by decide +kernel
theorem dX10_key_0 : decode cX10_key 0 = .ok (.aload_n 0, 1) := by decide +kernel
theorem dX10_key_1 : decode cX10_key 1 = .ok (.aload_n 1, 1) := by decide +kernel
theorem dX10_key_2 : decode cX10_key 2 = .ok (.invokevirtual 325, 3) := by decide +kernel
theorem dX10_key_5 : decode cX10_key 5 = .ok (.ifCond .ne 9, 3) := by decide +kernel
theorem dX10_key_8 : decode cX10_key 8 = .ok (.aload_n 0, 1) := by decide +kernel
theorem dX10_key_9 : decode cX10_key 9 = .ok (.iconst 2, 1) := by decide +kernel
theorem dX10_key_10 : decode cX10_key 10 = .ok (.invokevirtual 319, 3) := by decide +kernel
theorem dX10_key_13 : decode cX10_key 13 = .ok (.ireturn, 1) := by decide +kernel
theorem dX10_key_14 : decode cX10_key 14 = .ok (.aload_n 0, 1) := by decide +kernel
theorem dX10_key_15 : decode cX10_key 15 = .ok (.invokevirtual 322, 3) := by decide +kernel
theorem dX10_key_18 : decode cX10_key 18 = .ok (.iconst 1, 1) := by decide +kernel
theorem dX10_key_19 : decode cX10_key 19 = .ok (.ireturn, 1) := by decide +kernel
theorem dX10_isVar_0 : decode cX10_isVar 0 = .ok (.aload_n 0, 1) := by decide +kernel
theorem dX10_isVar_1 : decode cX10_isVar 1 = .ok (.getfield 273, 3) := by decide +kernel
theorem dX10_isVar_4 : decode cX10_isVar 4 = .ok (.iconst 2, 1) := by decide +kernel
theorem dX10_isVar_5 : decode cX10_isVar 5 = .ok (.if_icmp .ne 15, 3) := by decide +kernel
theorem dX10_isVar_8 : decode cX10_isVar 8 = .ok (.aload_n 0, 1) := by decide +kernel
theorem dX10_isVar_9 : decode cX10_isVar 9 = .ok (.getfield 293, 3) := by decide +kernel
theorem dX10_isVar_12 : decode cX10_isVar 12 = .ok (.iconst 1, 1) := by decide +kernel
theorem dX10_isVar_13 : decode cX10_isVar 13 = .ok (.if_icmp .ne 7, 3) := by decide +kernel
theorem dX10_isVar_16 : decode cX10_isVar 16 = .ok (.iconst 1, 1) := by decide +kernel
theorem dX10_isVar_17 : decode cX10_isVar 17 = .ok (.goto 4, 3) := by decide +kernel
theorem dX10_isVar_20 : decode cX10_isVar 20 = .ok (.iconst 0, 1) := by decide +kernel
theorem dX10_isVar_21 : decode cX10_isVar 21 = .ok (.ireturn, 1) := by decide +kernel
theorem dX10_readVar_0 : decode cX10_readVar 0 = .ok (.aload_n 0, 1) := by decide +kernel
theorem dX10_readVar_1 : decode cX10_readVar 1 = .ok (.invokevirtual 328, 3) := by decide +kernel
theorem dX10_readVar_4 : decode cX10_readVar 4 = .ok (.ifCond .ne 9, 3) := by decide +kernel
theorem dX10_readVar_7 : decode cX10_readVar 7 = .ok (.aload_n 0, 1) := by decide +kernel
theorem dX10_readVar_8 : decode cX10_readVar 8 = .ok (.iconst 2, 1) := by decide +kernel
theorem dX10_readVar_9 : decode cX10_readVar 9 = .ok (.invokevirtual 319, 3) := by decide +kernel
theorem dX10_readVar_12 : decode cX10_readVar 12 = .ok (.ireturn, 1) := by decide +kernel
theorem dX10_readVar_13 : decode cX10_readVar 13 = .ok (.aload_n 0, 1) := by decide +kernel
theorem dX10_readVar_14 : decode cX10_readVar 14 = .ok (.aload_n 0, 1) := by decide +kernel
theorem dX10_readVar_15 : decode cX10_readVar 15 = .ok (.getfield 289, 3) := by decide +kernel
theorem dX10_readVar_18 : decode cX10_readVar 18 = .ok (.l2i, 1) := by decide +kernel
theorem dX10_readVar_19 : decode cX10_readVar 19 = .ok (.iconst 1, 1) := by decide +kernel
theorem dX10_readVar_20 : decode cX10_readVar 20 = .ok (.isub, 1) := by decide +kernel
theorem dX10_readVar_21 : decode cX10_readVar 21 = .ok (.putfield 332, 3) := by decide +kernel
theorem dX10_readVar_24 : decode cX10_readVar 24 = .ok (.aload_n 0, 1) := by decide +kernel
theorem dX10_readVar_25 : decode cX10_readVar 25 = .ok (.invokevirtual 322, 3) := by decide +kernel
theorem dX10_readVar_28 : decode cX10_readVar 28 = .ok (.iconst 1, 1) := by decide +kernel
theorem dX10_readVar_29 : decode cX10_readVar 29 = .ok (.ireturn, 1) := by decide +kernel
theorem dX10_readNumber__0 : decode cX10_readNumber_ 0 = .ok (.aload_n 0, 1) := by decide +kernel
theorem dX10_readNumber__1 : decode cX10_readNumber_ 1 = .ok (.bipush 45, 2) := by decide +kernel
theorem dX10_readNumber__3 : decode cX10_readNumber_ 3 = .ok (.invokevirtual 316, 3) := by decide +kernel
theorem dX10_readNumber__6 : decode cX10_readNumber_ 6 = .ok (.istore_n 2, 1) := by decide +kernel
theorem dX10_readNumber__7 : decode cX10_readNumber_ 7 = .ok (.iload_n 2, 1) := by decide +kernel
theorem dX10_readNumber__8 : decode cX10_readNumber_ 8 = .ok (.ifCond .eq 7, 3) := by decide +kernel
theorem dX10_readNumber__11 : decode cX10_readNumber_ 11 = .ok (.aload_n 0, 1) := by decide +kernel
theorem dX10_readNumber__12 : decode cX10_readNumber_ 12 = .ok (.invokevirtual 322, 3) := by decide +kernel
theorem dX10_readNumber__15 : decode cX10_readNumber_ 15 = .ok (.aload_n 0, 1) := by decide +kernel
theorem dX10_readNumber__16 : decode cX10_readNumber_ 16 = .ok (.getfield 273, 3) := by decide +kernel
theorem dX10_readNumber__19 : decode cX10_readNumber_ 19 = .ok (.iconst 3, 1) := by decide +kernel
theorem dX10_readNumber__20 : decode cX10_readNumber_ 20 = .ok (.if_icmp .eq 9, 3) := by decide +kernel
theorem dX10_readNumber__23 : decode cX10_readNumber_ 23 = .ok (.aload_n 0, 1) := by decide +kernel
theorem dX10_readNumber__24 : decode cX10_readNumber_ 24 = .ok (.iconst 2, 1) := by decide +kernel
theorem dX10_readNumber__25 : decode cX10_readNumber_ 25 = .ok (.invokevirtual 319, 3) := by decide +kernel
theorem dX10_readNumber__28 : decode cX10_readNumber_ 28 = .ok (.ireturn, 1) := by decide +kernel
theorem dX10_readNumber__29 : decode cX10_readNumber_ 29 = .ok (.iload_n 1, 1) := by decide +kernel
theorem dX10_readNumber__30 : decode cX10_readNumber_ 30 = .ok (.ifCond .eq 16, 3) := by decide +kernel
theorem dX10_readNumber__33 : decode cX10_readNumber_ 33 = .ok (.aload_n 0, 1) := by decide +kernel
theorem dX10_readNumber__34 : decode cX10_readNumber_ 34 = .ok (.getfield 296, 3) := by decide +kernel
theorem dX10_readNumber__37 : decode cX10_readNumber_ 37 = .ok (.ifCond .eq 9, 3) := by decide +kernel
theorem dX10_readNumber__40 : decode cX10_readNumber_ 40 = .ok (.aload_n 0, 1) := by decide +kernel
theorem dX10_readNumber__41 : decode cX10_readNumber_ 41 = .ok (.iconst 3, 1) := by decide +kernel
theorem dX10_readNumber__42 : decode cX10_readNumber_ 42 = .ok (.invokevirtual 319, 3) := by decide +kernel
theorem dX10_readNumber__45 : decode cX10_readNumber_ 45 = .ok (.ireturn, 1) := by decide +kernel
theorem dX10_readNumber__46 : decode cX10_readNumber_ 46 = .ok (.aload_n 0, 1) := by decide +kernel
theorem dX10_readNumber__47 : decode cX10_readNumber_ 47 = .ok (.getfield 296, 3) := by decide +kernel
theorem dX10_readNumber__50 : decode cX10_readNumber_ 50 = .ok (.ifCond .ne 7, 3) := by decide +kernel
theorem dX10_readNumber__53 : decode cX10_readNumber_ 53 = .ok (.iconst 4, 1) := by decide +kernel
theorem dX10_readNumber__54 : decode cX10_readNumber_ 54 = .ok (.goto 71, 3) := by decide +kernel
theorem dX10_readNumber__57 : decode cX10_readNumber_ 57 = .ok (.aload_n 0, 1) := by decide +kernel
theorem dX10_readNumber__58 : decode cX10_readNumber_ 58 = .ok (.getfield 296, 3) := by decide +kernel
theorem dX10_readNumber__61 : decode cX10_readNumber_ 61 = .ok (.bipush 98, 2) := by decide +kernel
theorem dX10_readNumber__63 : decode cX10_readNumber_ 63 = .ok (.if_icmp .ne 7, 3) := by decide +kernel
theorem dX10_readNumber__66 : decode cX10_readNumber_ 66 = .ok (.iconst 1, 1) := by decide +kernel
theorem dX10_readNumber__67 : decode cX10_readNumber_ 67 = .ok (.goto 58, 3) := by decide +kernel
theorem dX10_readNumber__70 : decode cX10_readNumber_ 70 = .ok (.aload_n 0, 1) := by decide +kernel
theorem dX10_readNumber__71 : decode cX10_readNumber_ 71 = .ok (.getfield 296, 3) := by decide +kernel
theorem dX10_readNumber__74 : decode cX10_readNumber_ 74 = .ok (.bipush 115, 2) := by decide +kernel
theorem dX10_readNumber__76 : decode cX10_readNumber_ 76 = .ok (.if_icmp .ne 7, 3) := by decide +kernel
theorem dX10_readNumber__79 : decode cX10_readNumber_ 79 = .ok (.iconst 2, 1) := by decide +kernel
theorem dX10_readNumber__80 : decode cX10_readNumber_ 80 = .ok (.goto 45, 3) := by decide +kernel
theorem dX10_readNumber__83 : decode cX10_readNumber_ 83 = .ok (.aload_n 0, 1) := by decide +kernel
theorem dX10_readNumber__84 : decode cX10_readNumber_ 84 = .ok (.getfield 296, 3) := by decide +kernel
theorem dX10_readNumber__87 : decode cX10_readNumber_ 87 = .ok (.bipush 99, 2) := by decide +kernel
theorem dX10_readNumber__89 : decode cX10_readNumber_ 89 = .ok (.if_icmp .ne 7, 3) := by decide +kernel
theorem dX10_readNumber__92 : decode cX10_readNumber_ 92 = .ok (.iconst 3, 1) := by decide +kernel
theorem dX10_readNumber__93 : decode cX10_readNumber_ 93 = .ok (.goto 32, 3) := by decide +kernel
theorem dX10_readNumber__96 : decode cX10_readNumber_ 96 = .ok (.aload_n 0, 1) := by decide +kernel
theorem dX10_readNumber__97 : decode cX10_readNumber_ 97 = .ok (.getfield 296, 3) := by decide +kernel
theorem dX10_readNumber__100 : decode cX10_readNumber_ 100 = .ok (.bipush 108, 2) := by decide +kernel
theorem dX10_readNumber__102 : decode cX10_readNumber_ 102 = .ok (.if_icmp .ne 7, 3) := by decide +kernel
theorem dX10_readNumber__105 : decode cX10_readNumber_ 105 = .ok (.iconst 5, 1) := by decide +kernel
theorem dX10_readNumber__106 : decode cX10_readNumber_ 106 = .ok (.goto 19, 3) := by decide +kernel
theorem dX10_readNumber__109 : decode cX10_readNumber_ 109 = .ok (.aload_n 0, 1) := by decide +kernel
theorem dX10_readNumber__110 : decode cX10_readNumber_ 110 = .ok (.getfield 296, 3) := by decide +kernel
theorem dX10_readNumber__113 : decode cX10_readNumber_ 113 = .ok (.bipush 102, 2) := by decide +kernel
theorem dX10_readNumber__115 : decode cX10_readNumber_ 115 = .ok (.if_icmp .ne 8, 3) := by decide +kernel
theorem dX10_readNumber__118 : decode cX10_readNumber_ 118 = .ok (.bipush 6, 2) := by decide +kernel
theorem dX10_readNumber__120 : decode cX10_readNumber_ 120 = .ok (.goto 5, 3) := by decide +kernel
theorem dX10_readNumber__123 : decode cX10_readNumber_ 123 = .ok (.bipush 7, 2) := by decide +kernel
theorem dX10_readNumber__125 : decode cX10_readNumber_ 125 = .ok (.istore_n 3, 1) := by decide +kernel
theorem dX10_readNumber__126 : decode cX10_readNumber_ 126 = .ok (.aload_n 0, 1) := by decide +kernel
theorem dX10_readNumber__127 : decode cX10_readNumber_ 127 = .ok (.getfield 299, 3) := by decide +kernel
theorem dX10_readNumber__130 : decode cX10_readNumber_ 130 = .ok (.lconst 0, 1) := by decide +kernel
theorem dX10_readNumber__131 : decode cX10_readNumber_ 131 = .ok (.lcmp, 1) := by decide +kernel
theorem dX10_readNumber__132 : decode cX10_readNumber_ 132 = .ok (.ifCond .ge 7, 3) := by decide +kernel
theorem dX10_readNumber__135 : decode cX10_readNumber_ 135 = .ok (.iconst 1, 1) := by decide +kernel
theorem dX10_readNumber__136 : decode cX10_readNumber_ 136 = .ok (.goto 4, 3) := by decide +kernel
theorem dX10_readNumber__139 : decode cX10_readNumber_ 139 = .ok (.iconst 0, 1) := by decide +kernel
theorem dX10_readNumber__140 : decode cX10_readNumber_ 140 = .ok (.istore 4, 2) := by decide +kernel
theorem dX10_readNumber__142 : decode cX10_readNumber_ 142 = .ok (.aload_n 0, 1) := by decide +kernel
theorem dX10_readNumber__143 : decode cX10_readNumber_ 143 = .ok (.getfield 302, 3) := by decide +kernel
theorem dX10_readNumber__146 : decode cX10_readNumber_ 146 = .ok (.ifCond .ne 16, 3) := by decide +kernel
theorem dX10_readNumber__149 : decode cX10_readNumber_ 149 = .ok (.iload 4, 2) := by decide +kernel
theorem dX10_readNumber__151 : decode cX10_readNumber_ 151 = .ok (.ifCond .eq 7, 3) := by decide +kernel
theorem dX10_readNumber__154 : decode cX10_readNumber_ 154 = .ok (.iload_n 2, 1) := by decide +kernel
theorem dX10_readNumber__155 : decode cX10_readNumber_ 155 = .ok (.ifCond .eq 7, 3) := by decide +kernel
theorem dX10_readNumber__158 : decode cX10_readNumber_ 158 = .ok (.iconst 1, 1) := by decide +kernel
theorem dX10_readNumber__159 : decode cX10_readNumber_ 159 = .ok (.goto 4, 3) := by decide +kernel
theorem dX10_readNumber__162 : decode cX10_readNumber_ 162 = .ok (.iconst 0, 1) := by decide +kernel
theorem dX10_readNumber__163 : decode cX10_readNumber_ 163 = .ok (.istore 5, 2) := by decide +kernel
theorem dX10_readNumber__165 : decode cX10_readNumber_ 165 = .ok (.iload_n 2, 1) := by decide +kernel
theorem dX10_readNumber__166 : decode cX10_readNumber_ 166 = .ok (.ifCond .eq 11, 3) := by decide +kernel
theorem dX10_readNumber__169 : decode cX10_readNumber_ 169 = .ok (.aload_n 0, 1) := by decide +kernel
theorem dX10_readNumber__170 : decode cX10_readNumber_ 170 = .ok (.getfield 299, 3) := by decide +kernel
theorem dX10_readNumber__173 : decode cX10_readNumber_ 173 = .ok (.lneg, 1) := by decide +kernel
theorem dX10_readNumber__174 : decode cX10_readNumber_ 174 = .ok (.goto 7, 3) := by decide +kernel
theorem dX10_readNumber__177 : decode cX10_readNumber_ 177 = .ok (.aload_n 0, 1) := by decide +kernel
theorem dX10_readNumber__178 : decode cX10_readNumber_ 178 = .ok (.getfield 299, 3) := by decide +kernel
theorem dX10_readNumber__181 : decode cX10_readNumber_ 181 = .ok (.lstore 6, 2) := by decide +kernel
theorem dX10_readNumber__183 : decode cX10_readNumber_ 183 = .ok (.iload_n 3, 1) := by decide +kernel
theorem dX10_readNumber__184 : decode cX10_readNumber_ 184 = .ok (.iconst 1, 1) := by decide +kernel
theorem dX10_readNumber__185 : decode cX10_readNumber_ 185 = .ok (.if_icmp .ne 33, 3) := by decide +kernel
theorem dX10_readNumber__188 : decode cX10_readNumber_ 188 = .ok (.iload 5, 2) := by decide +kernel
theorem dX10_readNumber__190 : decode cX10_readNumber_ 190 = .ok (.ifCond .eq 25, 3) := by decide +kernel
theorem dX10_readNumber__193 : decode cX10_readNumber_ 193 = .ok (.lload 6, 2) := by decide +kernel
theorem dX10_readNumber__195 : decode cX10_readNumber_ 195 = .ok (.ldc2_w 335, 3) := by decide +kernel
theorem dX10_readNumber__198 : decode cX10_readNumber_ 198 = .ok (.lcmp, 1) := by decide +kernel
theorem dX10_readNumber__199 : decode cX10_readNumber_ 199 = .ok (.ifCond .lt 16, 3) := by decide +kernel
theorem dX10_readNumber__202 : decode cX10_readNumber_ 202 = .ok (.lload 6, 2) := by decide +kernel
theorem dX10_readNumber__204 : decode cX10_readNumber_ 204 = .ok (.ldc2_w 337, 3) := by decide +kernel
theorem dX10_readNumber__207 : decode cX10_readNumber_ 207 = .ok (.lcmp, 1) := by decide +kernel
theorem dX10_readNumber__208 : decode cX10_readNumber_ 208 = .ok (.ifCond .gt 7, 3) := by decide +kernel
theorem dX10_readNumber__211 : decode cX10_readNumber_ 211 = .ok (.iconst 1, 1) := by decide +kernel
theorem dX10_readNumber__212 : decode cX10_readNumber_ 212 = .ok (.goto 4, 3) := by decide +kernel
theorem dX10_readNumber__215 : decode cX10_readNumber_ 215 = .ok (.iconst 0, 1) := by decide +kernel
theorem dX10_readNumber__216 : decode cX10_readNumber_ 216 = .ok (.istore 5, 2) := by decide +kernel
theorem dX10_readNumber__218 : decode cX10_readNumber_ 218 = .ok (.iload_n 3, 1) := by decide +kernel
theorem dX10_readNumber__219 : decode cX10_readNumber_ 219 = .ok (.iconst 2, 1) := by decide +kernel
theorem dX10_readNumber__220 : decode cX10_readNumber_ 220 = .ok (.if_icmp .ne 33, 3) := by decide +kernel
theorem dX10_readNumber__223 : decode cX10_readNumber_ 223 = .ok (.iload 5, 2) := by decide +kernel
theorem dX10_readNumber__225 : decode cX10_readNumber_ 225 = .ok (.ifCond .eq 25, 3) := by decide +kernel
theorem dX10_readNumber__228 : decode cX10_readNumber_ 228 = .ok (.lload 6, 2) := by decide +kernel
theorem dX10_readNumber__230 : decode cX10_readNumber_ 230 = .ok (.ldc2_w 339, 3) := by decide +kernel
theorem dX10_readNumber__233 : decode cX10_readNumber_ 233 = .ok (.lcmp, 1) := by decide +kernel
theorem dX10_readNumber__234 : decode cX10_readNumber_ 234 = .ok (.ifCond .lt 16, 3) := by decide +kernel
theorem dX10_readNumber__237 : decode cX10_readNumber_ 237 = .ok (.lload 6, 2) := by decide +kernel
theorem dX10_readNumber__239 : decode cX10_readNumber_ 239 = .ok (.ldc2_w 341, 3) := by decide +kernel
theorem dX10_readNumber__242 : decode cX10_readNumber_ 242 = .ok (.lcmp, 1) := by decide +kernel
theorem dX10_readNumber__243 : decode cX10_readNumber_ 243 = .ok (.ifCond .gt 7, 3) := by decide +kernel
theorem dX10_readNumber__246 : decode cX10_readNumber_ 246 = .ok (.iconst 1, 1) := by decide +kernel
theorem dX10_readNumber__247 : decode cX10_readNumber_ 247 = .ok (.goto 4, 3) := by decide +kernel
theorem dX10_readNumber__250 : decode cX10_readNumber_ 250 = .ok (.iconst 0, 1) := by decide +kernel
theorem dX10_readNumber__251 : decode cX10_readNumber_ 251 = .ok (.istore 5, 2) := by decide +kernel
theorem dX10_readNumber__253 : decode cX10_readNumber_ 253 = .ok (.iload_n 3, 1) := by decide +kernel
theorem dX10_readNumber__254 : decode cX10_readNumber_ 254 = .ok (.iconst 3, 1) := by decide +kernel
theorem dX10_readNumber__255 : decode cX10_readNumber_ 255 = .ok (.if_icmp .ne 31, 3) := by decide +kernel
theorem dX10_readNumber__258 : decode cX10_readNumber_ 258 = .ok (.iload 5, 2) := by decide +kernel
theorem dX10_readNumber__260 : decode cX10_readNumber_ 260 = .ok (.ifCond .eq 23, 3) := by decide +kernel
theorem dX10_readNumber__263 : decode cX10_readNumber_ 263 = .ok (.lload 6, 2) := by decide +kernel
theorem dX10_readNumber__265 : decode cX10_readNumber_ 265 = .ok (.lconst 0, 1) := by decide +kernel
theorem dX10_readNumber__266 : decode cX10_readNumber_ 266 = .ok (.lcmp, 1) := by decide +kernel
theorem dX10_readNumber__267 : decode cX10_readNumber_ 267 = .ok (.ifCond .lt 16, 3) := by decide +kernel
theorem dX10_readNumber__270 : decode cX10_readNumber_ 270 = .ok (.lload 6, 2) := by decide +kernel
theorem dX10_readNumber__272 : decode cX10_readNumber_ 272 = .ok (.ldc2_w 343, 3) := by decide +kernel
theorem dX10_readNumber__275 : decode cX10_readNumber_ 275 = .ok (.lcmp, 1) := by decide +kernel
theorem dX10_readNumber__276 : decode cX10_readNumber_ 276 = .ok (.ifCond .gt 7, 3) := by decide +kernel
theorem dX10_readNumber__279 : decode cX10_readNumber_ 279 = .ok (.iconst 1, 1) := by decide +kernel
theorem dX10_readNumber__280 : decode cX10_readNumber_ 280 = .ok (.goto 4, 3) := by decide +kernel
theorem dX10_readNumber__283 : decode cX10_readNumber_ 283 = .ok (.iconst 0, 1) := by decide +kernel
theorem dX10_readNumber__284 : decode cX10_readNumber_ 284 = .ok (.istore 5, 2) := by decide +kernel
theorem dX10_readNumber__286 : decode cX10_readNumber_ 286 = .ok (.iload_n 3, 1) := by decide +kernel
theorem dX10_readNumber__287 : decode cX10_readNumber_ 287 = .ok (.iconst 4, 1) := by decide +kernel
theorem dX10_readNumber__288 : decode cX10_readNumber_ 288 = .ok (.if_icmp .ne 33, 3) := by decide +kernel
theorem dX10_readNumber__291 : decode cX10_readNumber_ 291 = .ok (.iload 5, 2) := by decide +kernel
theorem dX10_readNumber__293 : decode cX10_readNumber_ 293 = .ok (.ifCond .eq 25, 3) := by decide +kernel
theorem dX10_readNumber__296 : decode cX10_readNumber_ 296 = .ok (.lload 6, 2) := by decide +kernel
theorem dX10_readNumber__298 : decode cX10_readNumber_ 298 = .ok (.ldc2_w 345, 3) := by decide +kernel
theorem dX10_readNumber__301 : decode cX10_readNumber_ 301 = .ok (.lcmp, 1) := by decide +kernel
theorem dX10_readNumber__302 : decode cX10_readNumber_ 302 = .ok (.ifCond .lt 16, 3) := by decide +kernel
theorem dX10_readNumber__305 : decode cX10_readNumber_ 305 = .ok (.lload 6, 2) := by decide +kernel
theorem dX10_readNumber__307 : decode cX10_readNumber_ 307 = .ok (.ldc2_w 347, 3) := by decide +kernel
theorem dX10_readNumber__310 : decode cX10_readNumber_ 310 = .ok (.lcmp, 1) := by decide +kernel
theorem dX10_readNumber__311 : decode cX10_readNumber_ 311 = .ok (.ifCond .gt 7, 3) := by decide +kernel
theorem dX10_readNumber__314 : decode cX10_readNumber_ 314 = .ok (.iconst 1, 1) := by decide +kernel
theorem dX10_readNumber__315 : decode cX10_readNumber_ 315 = .ok (.goto 4, 3) := by decide +kernel
theorem dX10_readNumber__318 : decode cX10_readNumber_ 318 = .ok (.iconst 0, 1) := by decide +kernel
theorem dX10_readNumber__319 : decode cX10_readNumber_ 319 = .ok (.istore 5, 2) := by decide +kernel
theorem dX10_readNumber__321 : decode cX10_readNumber_ 321 = .ok (.iload 5, 2) := by decide +kernel
theorem dX10_readNumber__323 : decode cX10_readNumber_ 323 = .ok (.ifCond .ne 9, 3) := by decide +kernel
theorem dX10_readNumber__326 : decode cX10_readNumber_ 326 = .ok (.aload_n 0, 1) := by decide +kernel
theorem dX10_readNumber__327 : decode cX10_readNumber_ 327 = .ok (.iconst 3, 1) := by decide +kernel
theorem dX10_readNumber__328 : decode cX10_readNumber_ 328 = .ok (.invokevirtual 319, 3) := by decide +kernel
theorem dX10_readNumber__331 : decode cX10_readNumber_ 331 = .ok (.ireturn, 1) := by decide +kernel
theorem dX10_readNumber__332 : decode cX10_readNumber_ 332 = .ok (.aload_n 0, 1) := by decide +kernel
theorem dX10_readNumber__333 : decode cX10_readNumber_ 333 = .ok (.iload_n 3, 1) := by decide +kernel
theorem dX10_readNumber__334 : decode cX10_readNumber_ 334 = .ok (.bipush 6, 2) := by decide +kernel
theorem dX10_readNumber__336 : decode cX10_readNumber_ 336 = .ok (.if_icmp .ge 8, 3) := by decide +kernel
theorem dX10_readNumber__339 : decode cX10_readNumber_ 339 = .ok (.lload 6, 2) := by decide +kernel
theorem dX10_readNumber__341 : decode cX10_readNumber_ 341 = .ok (.goto 10, 3) := by decide +kernel
theorem dX10_readNumber__344 : decode cX10_readNumber_ 344 = .ok (.iconst 5, 1) := by decide +kernel
theorem dX10_readNumber__345 : decode cX10_readNumber_ 345 = .ok (.lload 6, 2) := by decide +kernel
theorem dX10_readNumber__347 : decode cX10_readNumber_ 347 = .ok (.iload_n 3, 1) := by decide +kernel
theorem dX10_readNumber__348 : decode cX10_readNumber_ 348 = .ok (.invokestatic 349, 3) := by decide +kernel
theorem dX10_readNumber__351 : decode cX10_readNumber_ 351 = .ok (.putfield 353, 3) := by decide +kernel
theorem dX10_readNumber__354 : decode cX10_readNumber_ 354 = .ok (.aload_n 0, 1) := by decide +kernel
theorem dX10_readNumber__355 : decode cX10_readNumber_ 355 = .ok (.iload_n 3, 1) := by decide +kernel
theorem dX10_readNumber__356 : decode cX10_readNumber_ 356 = .ok (.putfield 356, 3) := by decide +kernel
theorem dX10_readNumber__359 : decode cX10_readNumber_ 359 = .ok (.aload_n 0, 1) := by decide +kernel
theorem dX10_readNumber__360 : decode cX10_readNumber_ 360 = .ok (.invokevirtual 322, 3) := by decide +kernel
theorem dX10_readNumber__363 : decode cX10_readNumber_ 363 = .ok (.iconst 1, 1) := by decide +kernel
theorem dX10_readNumber__364 : decode cX10_readNumber_ 364 = .ok (.ireturn, 1) := by decide +kernel
theorem dX10_readIndex_0 : decode cX10_readIndex 0 = .ok (.aload_n 0, 1) := by decide +kernel
theorem dX10_readIndex_1 : decode cX10_readIndex 1 = .ok (.getfield 46, 3) := by decide +kernel
theorem dX10_readIndex_4 : decode cX10_readIndex 4 = .ok (.iconst 4, 1) := by decide +kernel
theorem dX10_readIndex_5 : decode cX10_readIndex 5 = .ok (.iload_n 1, 1) := by decide +kernel
theorem dX10_readIndex_6 : decode cX10_readIndex 6 = .ok (.imul, 1) := by decide +kernel
theorem dX10_readIndex_7 : decode cX10_readIndex 7 = .ok (.iload_n 2, 1) := by decide +kernel
theorem dX10_readIndex_8 : decode cX10_readIndex 8 = .ok (.iadd, 1) := by decide +kernel
theorem dX10_readIndex_9 : decode cX10_readIndex 9 = .ok (.iconst (-1), 1) := by decide +kernel
theorem dX10_readIndex_10 : decode cX10_readIndex 10 = .ok (.iastore, 1) := by decide +kernel
theorem dX10_readIndex_11 : decode cX10_readIndex 11 = .ok (.aload_n 0, 1) := by decide +kernel
theorem dX10_readIndex_12 : decode cX10_readIndex 12 = .ok (.invokevirtual 328, 3) := by decide +kernel
theorem dX10_readIndex_15 : decode cX10_readIndex 15 = .ok (.ifCond .eq 24, 3) := by decide +kernel
theorem dX10_readIndex_18 : decode cX10_readIndex 18 = .ok (.aload_n 0, 1) := by decide +kernel
theorem dX10_readIndex_19 : decode cX10_readIndex 19 = .ok (.invokevirtual 359, 3) := by decide +kernel
theorem dX10_readIndex_22 : decode cX10_readIndex 22 = .ok (.pop, 1) := by decide +kernel
theorem dX10_readIndex_23 : decode cX10_readIndex 23 = .ok (.aload_n 0, 1) := by decide +kernel
theorem dX10_readIndex_24 : decode cX10_readIndex 24 = .ok (.getfield 46, 3) := by decide +kernel
theorem dX10_readIndex_27 : decode cX10_readIndex 27 = .ok (.iconst 4, 1) := by decide +kernel
theorem dX10_readIndex_28 : decode cX10_readIndex 28 = .ok (.iload_n 1, 1) := by decide +kernel
theorem dX10_readIndex_29 : decode cX10_readIndex 29 = .ok (.imul, 1) := by decide +kernel
theorem dX10_readIndex_30 : decode cX10_readIndex 30 = .ok (.iload_n 2, 1) := by decide +kernel
theorem dX10_readIndex_31 : decode cX10_readIndex 31 = .ok (.iadd, 1) := by decide +kernel
theorem dX10_readIndex_32 : decode cX10_readIndex 32 = .ok (.aload_n 0, 1) := by decide +kernel
theorem dX10_readIndex_33 : decode cX10_readIndex 33 = .ok (.getfield 332, 3) := by decide +kernel
theorem dX10_readIndex_36 : decode cX10_readIndex 36 = .ok (.iastore, 1) := by decide +kernel
theorem dX10_readIndex_37 : decode cX10_readIndex 37 = .ok (.iconst 1, 1) := by decide +kernel
theorem dX10_readIndex_38 : decode cX10_readIndex 38 = .ok (.ireturn, 1) := by decide +kernel
theorem dX10_readIndex_39 : decode cX10_readIndex 39 = .ok (.aload_n 0, 1) := by decide +kernel
theorem dX10_readIndex_40 : decode cX10_readIndex 40 = .ok (.getfield 273, 3) := by decide +kernel
theorem dX10_readIndex_43 : decode cX10_readIndex 43 = .ok (.iconst 3, 1) := by decide +kernel
theorem dX10_readIndex_44 : decode cX10_readIndex 44 = .ok (.if_icmp .eq 18, 3) := by decide +kernel
theorem dX10_readIndex_47 : decode cX10_readIndex 47 = .ok (.aload_n 0, 1) := by decide +kernel
theorem dX10_readIndex_48 : decode cX10_readIndex 48 = .ok (.bipush 45, 2) := by decide +kernel
theorem dX10_readIndex_50 : decode cX10_readIndex 50 = .ok (.invokevirtual 316, 3) := by decide +kernel
theorem dX10_readIndex_53 : decode cX10_readIndex 53 = .ok (.ifCond .ne 9, 3) := by decide +kernel
theorem dX10_readIndex_56 : decode cX10_readIndex 56 = .ok (.aload_n 0, 1) := by decide +kernel
theorem dX10_readIndex_57 : decode cX10_readIndex 57 = .ok (.iconst 2, 1) := by decide +kernel
theorem dX10_readIndex_58 : decode cX10_readIndex 58 = .ok (.invokevirtual 319, 3) := by decide +kernel
theorem dX10_readIndex_61 : decode cX10_readIndex 61 = .ok (.ireturn, 1) := by decide +kernel
theorem dX10_readIndex_62 : decode cX10_readIndex 62 = .ok (.aload_n 0, 1) := by decide +kernel
theorem dX10_readIndex_63 : decode cX10_readIndex 63 = .ok (.iconst 1, 1) := by decide +kernel
theorem dX10_readIndex_64 : decode cX10_readIndex 64 = .ok (.invokevirtual 362, 3) := by decide +kernel
theorem dX10_readIndex_67 : decode cX10_readIndex 67 = .ok (.ifCond .ne 5, 3) := by decide +kernel
theorem dX10_readIndex_70 : decode cX10_readIndex 70 = .ok (.iconst 0, 1) := by decide +kernel
theorem dX10_readIndex_71 : decode cX10_readIndex 71 = .ok (.ireturn, 1) := by decide +kernel
theorem dX10_readIndex_72 : decode cX10_readIndex 72 = .ok (.aload_n 0, 1) := by decide +kernel
theorem dX10_readIndex_73 : decode cX10_readIndex 73 = .ok (.getfield 49, 3) := by decide +kernel
theorem dX10_readIndex_76 : decode cX10_readIndex 76 = .ok (.iconst 4, 1) := by decide +kernel
theorem dX10_readIndex_77 : decode cX10_readIndex 77 = .ok (.iload_n 1, 1) := by decide +kernel
theorem dX10_readIndex_78 : decode cX10_readIndex 78 = .ok (.imul, 1) := by decide +kernel
theorem dX10_readIndex_79 : decode cX10_readIndex 79 = .ok (.iload_n 2, 1) := by decide +kernel
theorem dX10_readIndex_80 : decode cX10_readIndex 80 = .ok (.iadd, 1) := by decide +kernel
theorem dX10_readIndex_81 : decode cX10_readIndex 81 = .ok (.aload_n 0, 1) := by decide +kernel
theorem dX10_readIndex_82 : decode cX10_readIndex 82 = .ok (.getfield 353, 3) := by decide +kernel
theorem dX10_readIndex_85 : decode cX10_readIndex 85 = .ok (.l2i, 1) := by decide +kernel
theorem dX10_readIndex_86 : decode cX10_readIndex 86 = .ok (.iastore, 1) := by decide +kernel
theorem dX10_readIndex_87 : decode cX10_readIndex 87 = .ok (.iconst 1, 1) := by decide +kernel
theorem dX10_readIndex_88 : decode cX10_readIndex 88 = .ok (.ireturn, 1) := by decide +kernel
theorem dX10_readAt_0 : decode cX10_readAt 0 = .ok (.aload_n 0, 1) := by decide +kernel
theorem dX10_readAt_1 : decode cX10_readAt 1 = .ok (.bipush 91, 2) := by decide +kernel
theorem dX10_readAt_3 : decode cX10_readAt 3 = .ok (.invokevirtual 365, 3) := by decide +kernel
theorem dX10_readAt_6 : decode cX10_readAt 6 = .ok (.ifCond .eq 25, 3) := by decide +kernel
theorem dX10_readAt_9 : decode cX10_readAt 9 = .ok (.aload_n 0, 1) := by decide +kernel
theorem dX10_readAt_10 : decode cX10_readAt 10 = .ok (.iload_n 1, 1) := by decide +kernel
theorem dX10_readAt_11 : decode cX10_readAt 11 = .ok (.iload_n 2, 1) := by decide +kernel
theorem dX10_readAt_12 : decode cX10_readAt 12 = .ok (.invokevirtual 368, 3) := by decide +kernel
theorem dX10_readAt_15 : decode cX10_readAt 15 = .ok (.ifCond .eq 16, 3) := by decide +kernel
theorem dX10_readAt_18 : decode cX10_readAt 18 = .ok (.aload_n 0, 1) := by decide +kernel
theorem dX10_readAt_19 : decode cX10_readAt 19 = .ok (.bipush 93, 2) := by decide +kernel
theorem dX10_readAt_21 : decode cX10_readAt 21 = .ok (.invokevirtual 365, 3) := by decide +kernel
theorem dX10_readAt_24 : decode cX10_readAt 24 = .ok (.ifCond .eq 7, 3) := by decide +kernel
theorem dX10_readAt_27 : decode cX10_readAt 27 = .ok (.iconst 1, 1) := by decide +kernel
theorem dX10_readAt_28 : decode cX10_readAt 28 = .ok (.goto 4, 3) := by decide +kernel
theorem dX10_readAt_31 : decode cX10_readAt 31 = .ok (.iconst 0, 1) := by decide +kernel
theorem dX10_readAt_32 : decode cX10_readAt 32 = .ok (.ireturn, 1) := by decide +kernel
theorem dX10_readAts_0 : decode cX10_readAts 0 = .ok (.iconst 0, 1) := by decide +kernel
theorem dX10_readAts_1 : decode cX10_readAts 1 = .ok (.istore_n 2, 1) := by decide +kernel
theorem dX10_readAts_2 : decode cX10_readAts 2 = .ok (.iload_n 2, 1) := by decide +kernel
theorem dX10_readAts_3 : decode cX10_readAts 3 = .ok (.iconst 3, 1) := by decide +kernel
theorem dX10_readAts_4 : decode cX10_readAts 4 = .ok (.if_icmp .ne 9, 3) := by decide +kernel
theorem dX10_readAts_7 : decode cX10_readAts 7 = .ok (.aload_n 0, 1) := by decide +kernel
theorem dX10_readAts_8 : decode cX10_readAts 8 = .ok (.iconst 4, 1) := by decide +kernel
theorem dX10_readAts_9 : decode cX10_readAts 9 = .ok (.invokevirtual 319, 3) := by decide +kernel
theorem dX10_readAts_12 : decode cX10_readAts 12 = .ok (.ireturn, 1) := by decide +kernel
theorem dX10_readAts_13 : decode cX10_readAts 13 = .ok (.aload_n 0, 1) := by decide +kernel
theorem dX10_readAts_14 : decode cX10_readAts 14 = .ok (.iload_n 1, 1) := by decide +kernel
theorem dX10_readAts_15 : decode cX10_readAts 15 = .ok (.iload_n 2, 1) := by decide +kernel
theorem dX10_readAts_16 : decode cX10_readAts 16 = .ok (.invokevirtual 374, 3) := by decide +kernel
theorem dX10_readAts_19 : decode cX10_readAts 19 = .ok (.ifCond .ne 5, 3) := by decide +kernel
theorem dX10_readAts_22 : decode cX10_readAts 22 = .ok (.iconst 0, 1) := by decide +kernel
theorem dX10_readAts_23 : decode cX10_readAts 23 = .ok (.ireturn, 1) := by decide +kernel
theorem dX10_readAts_24 : decode cX10_readAts 24 = .ok (.iinc 2 1, 3) := by decide +kernel
theorem dX10_readAts_27 : decode cX10_readAts 27 = .ok (.aload_n 0, 1) := by decide +kernel
theorem dX10_readAts_28 : decode cX10_readAts 28 = .ok (.bipush 91, 2) := by decide +kernel
theorem dX10_readAts_30 : decode cX10_readAts 30 = .ok (.invokevirtual 316, 3) := by decide +kernel
theorem dX10_readAts_33 : decode cX10_readAts 33 = .ok (.ifCond .ne (-31), 3) := by decide +kernel
theorem dX10_readAts_36 : decode cX10_readAts 36 = .ok (.aload_n 0, 1) := by decide +kernel
theorem dX10_readAts_37 : decode cX10_readAts 37 = .ok (.getfield 43, 3) := by decide +kernel
theorem dX10_readAts_40 : decode cX10_readAts 40 = .ok (.iload_n 1, 1) := by decide +kernel
theorem dX10_readAts_41 : decode cX10_readAts 41 = .ok (.iload_n 2, 1) := by decide +kernel
theorem dX10_readAts_42 : decode cX10_readAts 42 = .ok (.iastore, 1) := by decide +kernel
theorem dX10_readAts_43 : decode cX10_readAts 43 = .ok (.iconst 1, 1) := by decide +kernel
theorem dX10_readAts_44 : decode cX10_readAts 44 = .ok (.ireturn, 1) := by decide +kernel
theorem dX10_readPlace_0 : decode cX10_readPlace 0 = .ok (.aload_n 0, 1) := by decide +kernel
theorem dX10_readPlace_1 : decode cX10_readPlace 1 = .ok (.invokevirtual 359, 3) := by decide +kernel
theorem dX10_readPlace_4 : decode cX10_readPlace 4 = .ok (.ifCond .ne 5, 3) := by decide +kernel
theorem dX10_readPlace_7 : decode cX10_readPlace 7 = .ok (.iconst 0, 1) := by decide +kernel
theorem dX10_readPlace_8 : decode cX10_readPlace 8 = .ok (.ireturn, 1) := by decide +kernel
theorem dX10_readPlace_9 : decode cX10_readPlace 9 = .ok (.aload_n 0, 1) := by decide +kernel
theorem dX10_readPlace_10 : decode cX10_readPlace 10 = .ok (.getfield 34, 3) := by decide +kernel
theorem dX10_readPlace_13 : decode cX10_readPlace 13 = .ok (.iload_n 1, 1) := by decide +kernel
theorem dX10_readPlace_14 : decode cX10_readPlace 14 = .ok (.aload_n 0, 1) := by decide +kernel
theorem dX10_readPlace_15 : decode cX10_readPlace 15 = .ok (.getfield 332, 3) := by decide +kernel
theorem dX10_readPlace_18 : decode cX10_readPlace 18 = .ok (.iastore, 1) := by decide +kernel
theorem dX10_readPlace_19 : decode cX10_readPlace 19 = .ok (.aload_n 0, 1) := by decide +kernel
theorem dX10_readPlace_20 : decode cX10_readPlace 20 = .ok (.iload_n 1, 1) := by decide +kernel
theorem dX10_readPlace_21 : decode cX10_readPlace 21 = .ok (.invokevirtual 371, 3) := by decide +kernel
theorem dX10_readPlace_24 : decode cX10_readPlace 24 = .ok (.ireturn, 1) := by decide +kernel

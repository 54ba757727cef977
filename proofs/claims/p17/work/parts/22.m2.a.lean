theorem dX10_word_0 : decode cX10_word 0 = .ok (.lconst 0, 1) := by decide +kernel
theorem dX10_word_1 : decode cX10_word 1 = .ok (.lstore_n 1, 1) := by decide +kernel
theorem dX10_word_2 : decode cX10_word 2 = .ok (.iconst 0, 1) := by decide +kernel
theorem dX10_word_3 : decode cX10_word 3 = .ok (.istore_n 3, 1) := by decide +kernel
theorem dX10_word_4 : decode cX10_word 4 = .ok (.iload_n 3, 1) := by decide +kernel
theorem dX10_word_5 : decode cX10_word 5 = .ok (.aload_n 0, 1) := by decide +kernel
theorem dX10_word_6 : decode cX10_word 6 = .ok (.invokevirtual 133, 3) := by decide +kernel
theorem dX10_word_9 : decode cX10_word 9 = .ok (.if_icmp .ge 26, 3) := by decide +kernel
theorem dX10_word_12 : decode cX10_word 12 = .ok (.lload_n 1, 1) := by decide +kernel
theorem dX10_word_13 : decode cX10_word 13 = .ok (.ldc2_w 139, 3) := by decide +kernel
theorem dX10_word_16 : decode cX10_word 16 = .ok (.lmul, 1) := by decide +kernel
theorem dX10_word_17 : decode cX10_word 17 = .ok (.aload_n 0, 1) := by decide +kernel
theorem dX10_word_18 : decode cX10_word 18 = .ok (.iload_n 3, 1) := by decide +kernel
theorem dX10_word_19 : decode cX10_word 19 = .ok (.invokevirtual 141, 3) := by decide +kernel
theorem dX10_word_22 : decode cX10_word 22 = .ok (.i2l, 1) := by decide +kernel
theorem dX10_word_23 : decode cX10_word 23 = .ok (.ladd, 1) := by decide +kernel
theorem dX10_word_24 : decode cX10_word 24 = .ok (.ldc2_w 145, 3) := by decide +kernel
theorem dX10_word_27 : decode cX10_word 27 = .ok (.lsub, 1) := by decide +kernel
theorem dX10_word_28 : decode cX10_word 28 = .ok (.lstore_n 1, 1) := by decide +kernel
theorem dX10_word_29 : decode cX10_word 29 = .ok (.iinc 3 1, 3) := by decide +kernel
theorem dX10_word_32 : decode cX10_word 32 = .ok (.goto (-28), 3) := by decide +kernel
theorem dX10_word_35 : decode cX10_word 35 = .ok (.lload_n 1, 1) := by decide +kernel
theorem dX10_word_36 : decode cX10_word 36 = .ok (.lreturn, 1) := by decide +kernel
theorem dX10_kindWord_0 : decode cX10_kindWord 0 = .ok (.iload_n 0, 1) := by decide +kernel
theorem dX10_kindWord_1 : decode cX10_kindWord 1 = .ok (.tableswitch 127 0 15 #[79, 82, 85, 88, 91, 94, 97, 100, 103, 106, 109, 112, 115, 118, 121, 124], 79) := by decide +kernel
theorem dX10_kindWord_80 : decode cX10_kindWord 80 = .ok (.ldc 147, 2) := by decide +kernel
theorem dX10_kindWord_82 : decode cX10_kindWord 82 = .ok (.areturn, 1) := by decide +kernel
theorem dX10_kindWord_83 : decode cX10_kindWord 83 = .ok (.ldc 149, 2) := by decide +kernel
theorem dX10_kindWord_85 : decode cX10_kindWord 85 = .ok (.areturn, 1) := by decide +kernel
theorem dX10_kindWord_86 : decode cX10_kindWord 86 = .ok (.ldc 151, 2) := by decide +kernel
theorem dX10_kindWord_88 : decode cX10_kindWord 88 = .ok (.areturn, 1) := by decide +kernel
theorem dX10_kindWord_89 : decode cX10_kindWord 89 = .ok (.ldc 153, 2) := by decide +kernel
theorem dX10_kindWord_91 : decode cX10_kindWord 91 = .ok (.areturn, 1) := by decide +kernel
theorem dX10_kindWord_92 : decode cX10_kindWord 92 = .ok (.ldc 155, 2) := by decide +kernel
theorem dX10_kindWord_94 : decode cX10_kindWord 94 = .ok (.areturn, 1) := by decide +kernel
theorem dX10_kindWord_95 : decode cX10_kindWord 95 = .ok (.ldc 157, 2) := by decide +kernel
theorem dX10_kindWord_97 : decode cX10_kindWord 97 = .ok (.areturn, 1) := by decide +kernel
theorem dX10_kindWord_98 : decode cX10_kindWord 98 = .ok (.ldc 159, 2) := by decide +kernel
theorem dX10_kindWord_100 : decode cX10_kindWord 100 = .ok (.areturn, 1) := by decide +kernel
theorem dX10_kindWord_101 : decode cX10_kindWord 101 = .ok (.ldc 161, 2) := by decide +kernel
theorem dX10_kindWord_103 : decode cX10_kindWord 103 = .ok (.areturn, 1) := by decide +kernel
theorem dX10_kindWord_104 : decode cX10_kindWord 104 = .ok (.ldc 163, 2) := by decide +kernel
theorem dX10_kindWord_106 : decode cX10_kindWord 106 = .ok (.areturn, 1) := by decide +kernel
theorem dX10_kindWord_107 : decode cX10_kindWord 107 = .ok (.ldc 165, 2) := by decide +kernel
theorem dX10_kindWord_109 : decode cX10_kindWord 109 = .ok (.areturn, 1) := by decide +kernel
theorem dX10_kindWord_110 : decode cX10_kindWord 110 = .ok (.ldc 167, 2) := by decide +kernel
theorem dX10_kindWord_112 : decode cX10_kindWord 112 = .ok (.areturn, 1) := by decide +kernel
theorem dX10_kindWord_113 : decode cX10_kindWord 113 = .ok (.ldc 169, 2) := by decide +kernel
theorem dX10_kindWord_115 : decode cX10_kindWord 115 = .ok (.areturn, 1) := by decide +kernel
theorem dX10_kindWord_116 : decode cX10_kindWord 116 = .ok (.ldc 171, 2) := by decide +kernel
theorem dX10_kindWord_118 : decode cX10_kindWord 118 = .ok (.areturn, 1) := by decide +kernel
theorem dX10_kindWord_119 : decode cX10_kindWord 119 = .ok (.ldc 173, 2) := by decide +kernel
theorem dX10_kindWord_121 : decode cX10_kindWord 121 = .ok (.areturn, 1) := by decide +kernel
theorem dX10_kindWord_122 : decode cX10_kindWord 122 = .ok (.ldc 175, 2) := by decide +kernel
theorem dX10_kindWord_124 : decode cX10_kindWord 124 = .ok (.areturn, 1) := by decide +kernel
theorem dX10_kindWord_125 : decode cX10_kindWord 125 = .ok (.ldc 177, 2) := by decide +kernel
theorem dX10_kindWord_127 : decode cX10_kindWord 127 = .ok (.areturn, 1) := by decide +kernel
theorem dX10_kindWord_128 : decode cX10_kindWord 128 = .ok (.ldc 179, 2) := by decide +kernel
theorem dX10_kindWord_130 : decode cX10_kindWord 130 = .ok (.areturn, 1) := by decide +kernel
theorem dX10_kindOf_0 : decode cX10_kindOf 0 = .ok (.iconst 0, 1) := by decide +kernel
theorem dX10_kindOf_1 : decode cX10_kindOf 1 = .ok (.istore_n 2, 1) := by decide +kernel
theorem dX10_kindOf_2 : decode cX10_kindOf 2 = .ok (.iload_n 2, 1) := by decide +kernel
theorem dX10_kindOf_3 : decode cX10_kindOf 3 = .ok (.bipush 17, 2) := by decide +kernel
theorem dX10_kindOf_5 : decode cX10_kindOf 5 = .ok (.if_icmp .ge 23, 3) := by decide +kernel
theorem dX10_kindOf_8 : decode cX10_kindOf 8 = .ok (.iload_n 2, 1) := by decide +kernel
theorem dX10_kindOf_9 : decode cX10_kindOf 9 = .ok (.invokestatic 181, 3) := by decide +kernel
theorem dX10_kindOf_12 : decode cX10_kindOf 12 = .ok (.invokestatic 185, 3) := by decide +kernel
theorem dX10_kindOf_15 : decode cX10_kindOf 15 = .ok (.lload_n 0, 1) := by decide +kernel
theorem dX10_kindOf_16 : decode cX10_kindOf 16 = .ok (.lcmp, 1) := by decide +kernel
theorem dX10_kindOf_17 : decode cX10_kindOf 17 = .ok (.ifCond .ne 5, 3) := by decide +kernel
theorem dX10_kindOf_20 : decode cX10_kindOf 20 = .ok (.iload_n 2, 1) := by decide +kernel
theorem dX10_kindOf_21 : decode cX10_kindOf 21 = .ok (.ireturn, 1) := by decide +kernel
theorem dX10_kindOf_22 : decode cX10_kindOf 22 = .ok (.iinc 2 1, 3) := by decide +kernel
theorem dX10_kindOf_25 : decode cX10_kindOf 25 = .ok (.goto (-23), 3) := by decide +kernel
theorem dX10_kindOf_28 : decode cX10_kindOf 28 = .ok (.iconst (-1), 1) := by decide +kernel
theorem dX10_kindOf_29 : decode cX10_kindOf 29 = .ok (.ireturn, 1) := by decide +kernel
theorem dX10_refusalWord_0 : decode cX10_refusalWord 0 = .ok (.iload_n 0, 1) := by decide +kernel
theorem dX10_refusalWord_1 : decode cX10_refusalWord 1 = .ok (.tableswitch 57 1 6 #[39, 42, 45, 48, 51, 54], 39) := by decide +kernel
theorem dX10_refusalWord_40 : decode cX10_refusalWord 40 = .ok (.ldc 189, 2) := by decide +kernel
theorem dX10_refusalWord_42 : decode cX10_refusalWord 42 = .ok (.areturn, 1) := by decide +kernel
theorem dX10_refusalWord_43 : decode cX10_refusalWord 43 = .ok (.ldc 191, 2) := by decide +kernel
theorem dX10_refusalWord_45 : decode cX10_refusalWord 45 = .ok (.areturn, 1) := by decide +kernel
theorem dX10_refusalWord_46 : decode cX10_refusalWord 46 = .ok (.ldc 192, 2) := by decide +kernel
theorem dX10_refusalWord_48 : decode cX10_refusalWord 48 = .ok (.areturn, 1) := by decide +kernel
theorem dX10_refusalWord_49 : decode cX10_refusalWord 49 = .ok (.ldc 194, 2) := by decide +kernel
theorem dX10_refusalWord_51 : decode cX10_refusalWord 51 = .ok (.areturn, 1) := by decide +kernel
theorem dX10_refusalWord_52 : decode cX10_refusalWord 52 = .ok (.ldc 196, 2) := by decide +kernel
theorem dX10_refusalWord_54 : decode cX10_refusalWord 54 = .ok (.areturn, 1) := by decide +kernel
theorem dX10_refusalWord_55 : decode cX10_refusalWord 55 = .ok (.ldc 198, 2) := by decide +kernel
theorem dX10_refusalWord_57 : decode cX10_refusalWord 57 = .ok (.areturn, 1) := by decide +kernel
theorem dX10_refusalWord_58 : decode cX10_refusalWord 58 = .ok (.ldc 200, 2) := by decide +kernel
theorem dX10_refusalWord_60 : decode cX10_refusalWord 60 = .ok (.areturn, 1) := by decide +kernel
theorem dX10_refusalOf_0 : decode cX10_refusalOf 0 = .ok (.iconst 1, 1) := by decide +kernel
theorem dX10_refusalOf_1 : decode cX10_refusalOf 1 = .ok (.istore_n 2, 1) := by decide +kernel
theorem dX10_refusalOf_2 : decode cX10_refusalOf 2 = .ok (.iload_n 2, 1) := by decide +kernel
theorem dX10_refusalOf_3 : decode cX10_refusalOf 3 = .ok (.bipush 7, 2) := by decide +kernel
theorem dX10_refusalOf_5 : decode cX10_refusalOf 5 = .ok (.if_icmp .gt 23, 3) := by decide +kernel
theorem dX10_refusalOf_8 : decode cX10_refusalOf 8 = .ok (.iload_n 2, 1) := by decide +kernel
theorem dX10_refusalOf_9 : decode cX10_refusalOf 9 = .ok (.invokestatic 202, 3) := by decide +kernel
theorem dX10_refusalOf_12 : decode cX10_refusalOf 12 = .ok (.invokestatic 185, 3) := by decide +kernel
theorem dX10_refusalOf_15 : decode cX10_refusalOf 15 = .ok (.lload_n 0, 1) := by decide +kernel
theorem dX10_refusalOf_16 : decode cX10_refusalOf 16 = .ok (.lcmp, 1) := by decide +kernel
theorem dX10_refusalOf_17 : decode cX10_refusalOf 17 = .ok (.ifCond .ne 5, 3) := by decide +kernel
theorem dX10_refusalOf_20 : decode cX10_refusalOf 20 = .ok (.iload_n 2, 1) := by decide +kernel
theorem dX10_refusalOf_21 : decode cX10_refusalOf 21 = .ok (.ireturn, 1) := by decide +kernel
theorem dX10_refusalOf_22 : decode cX10_refusalOf 22 = .ok (.iinc 2 1, 3) := by decide +kernel
theorem dX10_refusalOf_25 : decode cX10_refusalOf 25 = .ok (.goto (-23), 3) := by decide +kernel
theorem dX10_refusalOf_28 : decode cX10_refusalOf 28 = .ok (.iconst 0, 1) := by decide +kernel
theorem dX10_refusalOf_29 : decode cX10_refusalOf 29 = .ok (.ireturn, 1) := by decide +kernel
theorem dX10_actOf_0 : decode cX10_actOf 0 = .ok (.lload_n 0, 1) := by decide +kernel
theorem dX10_actOf_1 : decode cX10_actOf 1 = .ok (.ldc 205, 2) := by decide +kernel
theorem dX10_actOf_3 : decode cX10_actOf 3 = .ok (.invokestatic 185, 3) := by decide +kernel
theorem dX10_actOf_6 : decode cX10_actOf 6 = .ok (.lcmp, 1) := by decide +kernel
theorem dX10_actOf_7 : decode cX10_actOf 7 = .ok (.ifCond .ne 5, 3) := by decide +kernel
theorem dX10_actOf_10 : decode cX10_actOf 10 = .ok (.iconst 4, 1) := by decide +kernel
theorem dX10_actOf_11 : decode cX10_actOf 11 = .ok (.ireturn, 1) := by decide +kernel
theorem dX10_actOf_12 : decode cX10_actOf 12 = .ok (.lload_n 0, 1) := by decide +kernel
theorem dX10_actOf_13 : decode cX10_actOf 13 = .ok (.ldc 207, 2) := by decide +kernel
theorem dX10_actOf_15 : decode cX10_actOf 15 = .ok (.invokestatic 185, 3) := by decide +kernel
theorem dX10_actOf_18 : decode cX10_actOf 18 = .ok (.lcmp, 1) := by decide +kernel
theorem dX10_actOf_19 : decode cX10_actOf 19 = .ok (.ifCond .ne 6, 3) := by decide +kernel
theorem dX10_actOf_22 : decode cX10_actOf 22 = .ok (.bipush 6, 2) := by decide +kernel
theorem dX10_actOf_24 : decode cX10_actOf 24 = .ok (.ireturn, 1) := by decide +kernel
theorem dX10_actOf_25 : decode cX10_actOf 25 = .ok (.lload_n 0, 1) := by decide +kernel
theorem dX10_actOf_26 : decode cX10_actOf 26 = .ok (.ldc 209, 2) := by decide +kernel
theorem dX10_actOf_28 : decode cX10_actOf 28 = .ok (.invokestatic 185, 3) := by decide +kernel
theorem dX10_actOf_31 : decode cX10_actOf 31 = .ok (.lcmp, 1) := by decide +kernel
theorem dX10_actOf_32 : decode cX10_actOf 32 = .ok (.ifCond .ne 6, 3) := by decide +kernel
theorem dX10_actOf_35 : decode cX10_actOf 35 = .ok (.bipush 8, 2) := by decide +kernel
theorem dX10_actOf_37 : decode cX10_actOf 37 = .ok (.ireturn, 1) := by decide +kernel
theorem dX10_actOf_38 : decode cX10_actOf 38 = .ok (.lload_n 0, 1) := by decide +kernel
theorem dX10_actOf_39 : decode cX10_actOf 39 = .ok (.ldc 211, 2) := by decide +kernel
theorem dX10_actOf_41 : decode cX10_actOf 41 = .ok (.invokestatic 185, 3) := by decide +kernel
theorem dX10_actOf_44 : decode cX10_actOf 44 = .ok (.lcmp, 1) := by decide +kernel
theorem dX10_actOf_45 : decode cX10_actOf 45 = .ok (.ifCond .ne 6, 3) := by decide +kernel
theorem dX10_actOf_48 : decode cX10_actOf 48 = .ok (.bipush 9, 2) := by decide +kernel
theorem dX10_actOf_50 : decode cX10_actOf 50 = .ok (.ireturn, 1) := by decide +kernel
theorem dX10_actOf_51 : decode cX10_actOf 51 = .ok (.lload_n 0, 1) := by decide +kernel
theorem dX10_actOf_52 : decode cX10_actOf 52 = .ok (.ldc 196, 2) := by decide +kernel
theorem dX10_actOf_54 : decode cX10_actOf 54 = .ok (.invokestatic 185, 3) := by decide +kernel
theorem dX10_actOf_57 : decode cX10_actOf 57 = .ok (.lcmp, 1) := by decide +kernel
theorem dX10_actOf_58 : decode cX10_actOf 58 = .ok (.ifCond .ne 6, 3) := by decide +kernel
theorem dX10_actOf_61 : decode cX10_actOf 61 = .ok (.bipush 10, 2) := by decide +kernel
theorem dX10_actOf_63 : decode cX10_actOf 63 = .ok (.ireturn, 1) := by decide +kernel
theorem dX10_actOf_64 : decode cX10_actOf 64 = .ok (.lload_n 0, 1) := by decide +kernel
theorem dX10_actOf_65 : decode cX10_actOf 65 = .ok (.ldc 213, 2) := by decide +kernel
theorem dX10_actOf_67 : decode cX10_actOf 67 = .ok (.invokestatic 185, 3) := by decide +kernel
theorem dX10_actOf_70 : decode cX10_actOf 70 = .ok (.lcmp, 1) := by decide +kernel
theorem dX10_actOf_71 : decode cX10_actOf 71 = .ok (.ifCond .ne 6, 3) := by decide +kernel
theorem dX10_actOf_74 : decode cX10_actOf 74 = .ok (.bipush 11, 2) := by decide +kernel
theorem dX10_actOf_76 : decode cX10_actOf 76 = .ok (.ireturn, 1) := by decide +kernel
theorem dX10_actOf_77 : decode cX10_actOf 77 = .ok (.lload_n 0, 1) := by decide +kernel
theorem dX10_actOf_78 : decode cX10_actOf 78 = .ok (.ldc 215, 2) := by decide +kernel
theorem dX10_actOf_80 : decode cX10_actOf 80 = .ok (.invokestatic 185, 3) := by decide +kernel
theorem dX10_actOf_83 : decode cX10_actOf 83 = .ok (.lcmp, 1) := by decide +kernel
theorem dX10_actOf_84 : decode cX10_actOf 84 = .ok (.ifCond .ne 6, 3) := by decide +kernel
theorem dX10_actOf_87 : decode cX10_actOf 87 = .ok (.bipush 12, 2) := by decide +kernel
theorem dX10_actOf_89 : decode cX10_actOf 89 = .ok (.ireturn, 1) := by decide +kernel
theorem dX10_actOf_90 : decode cX10_actOf 90 = .ok (.lload_n 0, 1) := by decide +kernel
theorem dX10_actOf_91 : decode cX10_actOf 91 = .ok (.ldc 192, 2) := by decide +kernel
theorem dX10_actOf_93 : decode cX10_actOf 93 = .ok (.invokestatic 185, 3) := by decide +kernel
theorem dX10_actOf_96 : decode cX10_actOf 96 = .ok (.lcmp, 1) := by decide +kernel
theorem dX10_actOf_97 : decode cX10_actOf 97 = .ok (.ifCond .ne 6, 3) := by decide +kernel
theorem dX10_actOf_100 : decode cX10_actOf 100 = .ok (.bipush 13, 2) := by decide +kernel
theorem dX10_actOf_102 : decode cX10_actOf 102 = .ok (.ireturn, 1) := by decide +kernel
theorem dX10_actOf_103 : decode cX10_actOf 103 = .ok (.lload_n 0, 1) := by decide +kernel
theorem dX10_actOf_104 : decode cX10_actOf 104 = .ok (.ldc 217, 2) := by decide +kernel
theorem dX10_actOf_106 : decode cX10_actOf 106 = .ok (.invokestatic 185, 3) := by decide +kernel
theorem dX10_actOf_109 : decode cX10_actOf 109 = .ok (.lcmp, 1) := by decide +kernel
theorem dX10_actOf_110 : decode cX10_actOf 110 = .ok (.ifCond .ne 6, 3) := by decide +kernel
theorem dX10_actOf_113 : decode cX10_actOf 113 = .ok (.bipush 14, 2) := by decide +kernel
theorem dX10_actOf_115 : decode cX10_actOf 115 = .ok (.ireturn, 1) := by decide +kernel
theorem dX10_actOf_116 : decode cX10_actOf 116 = .ok (.lload_n 0, 1) := by decide +kernel
theorem dX10_actOf_117 : decode cX10_actOf 117 = .ok (.ldc 219, 2) := by decide +kernel
theorem dX10_actOf_119 : decode cX10_actOf 119 = .ok (.invokestatic 185, 3) := by decide +kernel
theorem dX10_actOf_122 : decode cX10_actOf 122 = .ok (.lcmp, 1) := by decide +kernel
theorem dX10_actOf_123 : decode cX10_actOf 123 = .ok (.ifCond .ne 6, 3) := by decide +kernel
theorem dX10_actOf_126 : decode cX10_actOf 126 = .ok (.bipush 15, 2) := by decide +kernel
theorem dX10_actOf_128 : decode cX10_actOf 128 = .ok (.ireturn, 1) := by decide +kernel
theorem dX10_actOf_129 : decode cX10_actOf 129 = .ok (.lload_n 0, 1) := by decide +kernel
theorem dX10_actOf_130 : decode cX10_actOf 130 = .ok (.ldc 221, 2) := by decide +kernel
theorem dX10_actOf_132 : decode cX10_actOf 132 = .ok (.invokestatic 185, 3) := by decide +kernel
theorem dX10_actOf_135 : decode cX10_actOf 135 = .ok (.lcmp, 1) := by decide +kernel
theorem dX10_actOf_136 : decode cX10_actOf 136 = .ok (.ifCond .ne 8, 3) := by decide +kernel
theorem dX10_actOf_139 : decode cX10_actOf 139 = .ok (.bipush 16, 2) := by decide +kernel
theorem dX10_actOf_141 : decode cX10_actOf 141 = .ok (.goto 4, 3) := by decide +kernel
theorem dX10_actOf_144 : decode cX10_actOf 144 = .ok (.iconst 0, 1) := by decide +kernel
theorem dX10_actOf_145 : decode cX10_actOf 145 = .ok (.ireturn, 1) := by decide +kernel
theorem dX10_firstOf_0 : decode cX10_firstOf 0 = .ok (.lload_n 0, 1) := by decide +kernel
theorem dX10_firstOf_1 : decode cX10_firstOf 1 = .ok (.ldc 223, 2) := by decide +kernel
theorem dX10_firstOf_3 : decode cX10_firstOf 3 = .ok (.invokestatic 185, 3) := by decide +kernel
theorem dX10_firstOf_6 : decode cX10_firstOf 6 = .ok (.lcmp, 1) := by decide +kernel
theorem dX10_firstOf_7 : decode cX10_firstOf 7 = .ok (.ifCond .ne 5, 3) := by decide +kernel
theorem dX10_firstOf_10 : decode cX10_firstOf 10 = .ok (.iconst 5, 1) := by decide +kernel
theorem dX10_firstOf_11 : decode cX10_firstOf 11 = .ok (.ireturn, 1) := by decide +kernel
theorem dX10_firstOf_12 : decode cX10_firstOf 12 = .ok (.lload_n 0, 1) := by decide +kernel
theorem dX10_firstOf_13 : decode cX10_firstOf 13 = .ok (.ldc 225, 2) := by decide +kernel
theorem dX10_firstOf_15 : decode cX10_firstOf 15 = .ok (.invokestatic 185, 3) := by decide +kernel
theorem dX10_firstOf_18 : decode cX10_firstOf 18 = .ok (.lcmp, 1) := by decide +kernel
theorem dX10_firstOf_19 : decode cX10_firstOf 19 = .ok (.ifCond .ne 6, 3) := by decide +kernel
theorem dX10_firstOf_22 : decode cX10_firstOf 22 = .ok (.bipush 7, 2) := by decide +kernel
theorem dX10_firstOf_24 : decode cX10_firstOf 24 = .ok (.ireturn, 1) := by decide +kernel
theorem dX10_firstOf_25 : decode cX10_firstOf 25 = .ok (.lload_n 0, 1) := by decide +kernel
theorem dX10_firstOf_26 : decode cX10_firstOf 26 = .ok (.ldc 227, 2) := by decide +kernel
theorem dX10_firstOf_28 : decode cX10_firstOf 28 = .ok (.invokestatic 185, 3) := by decide +kernel
theorem dX10_firstOf_31 : decode cX10_firstOf 31 = .ok (.lcmp, 1) := by decide +kernel
theorem dX10_firstOf_32 : decode cX10_firstOf 32 = .ok (.ifCond .ne 6, 3) := by decide +kernel
theorem dX10_firstOf_35 : decode cX10_firstOf 35 = .ok (.bipush 17, 2) := by decide +kernel
theorem dX10_firstOf_37 : decode cX10_firstOf 37 = .ok (.ireturn, 1) := by decide +kernel
theorem dX10_firstOf_38 : decode cX10_firstOf 38 = .ok (.lload_n 0, 1) := by decide +kernel
theorem dX10_firstOf_39 : decode cX10_firstOf 39 = .ok (.ldc 229, 2) := by decide +kernel
theorem dX10_firstOf_41 : decode cX10_firstOf 41 = .ok (.invokestatic 185, 3) := by decide +kernel
theorem dX10_firstOf_44 : decode cX10_firstOf 44 = .ok (.lcmp, 1) := by decide +kernel
theorem dX10_firstOf_45 : decode cX10_firstOf 45 = .ok (.ifCond .ne 6, 3) := by decide +kernel
theorem dX10_firstOf_48 : decode cX10_firstOf 48 = .ok (.bipush 18, 2) := by decide +kernel
theorem dX10_firstOf_50 : decode cX10_firstOf 50 = .ok (.ireturn, 1) := by decide +kernel
theorem dX10_firstOf_51 : decode cX10_firstOf 51 = .ok (.lload_n 0, 1) := by decide +kernel
theorem dX10_firstOf_52 : decode cX10_firstOf 52 = .ok (.ldc 231, 2) := by decide +kernel
theorem dX10_firstOf_54 : decode cX10_firstOf 54 = .ok (.invokestatic 185, 3) := by decide +kernel
theorem dX10_firstOf_57 : decode cX10_firstOf 57 = .ok (.lcmp, 1) := by decide +kernel
theorem dX10_firstOf_58 : decode cX10_firstOf 58 = .ok (.ifCond .ne 6, 3) := by decide +kernel
theorem dX10_firstOf_61 : decode cX10_firstOf 61 = .ok (.bipush 19, 2) := by decide +kernel
theorem dX10_firstOf_63 : decode cX10_firstOf 63 = .ok (.ireturn, 1) := by decide +kernel
theorem dX10_firstOf_64 : decode cX10_firstOf 64 = .ok (.lload_n 0, 1) := by decide +kernel
theorem dX10_firstOf_65 : decode cX10_firstOf 65 = .ok (.ldc 233, 2) := by decide +kernel
theorem dX10_firstOf_67 : decode cX10_firstOf 67 = .ok (.invokestatic 185, 3) := by decide +kernel
theorem dX10_firstOf_70 : decode cX10_firstOf 70 = .ok (.lcmp, 1) := by decide +kernel
theorem dX10_firstOf_71 : decode cX10_firstOf 71 = .ok (.ifCond .ne 6, 3) := by decide +kernel
theorem dX10_firstOf_74 : decode cX10_firstOf 74 = .ok (.bipush 20, 2) := by decide +kernel
theorem dX10_firstOf_76 : decode cX10_firstOf 76 = .ok (.ireturn, 1) := by decide +kernel
theorem dX10_firstOf_77 : decode cX10_firstOf 77 = .ok (.lload_n 0, 1) := by decide +kernel
theorem dX10_firstOf_78 : decode cX10_firstOf 78 = .ok (.ldc 235, 2) := by decide +kernel
theorem dX10_firstOf_80 : decode cX10_firstOf 80 = .ok (.invokestatic 185, 3) := by decide +kernel
theorem dX10_firstOf_83 : decode cX10_firstOf 83 = .ok (.lcmp, 1) := by decide +kernel
theorem dX10_firstOf_84 : decode cX10_firstOf 84 = .ok (.ifCond .ne 8, 3) := by decide +kernel
theorem dX10_firstOf_87 : decode cX10_firstOf 87 = .ok (.bipush 21, 2) := by decide +kernel
theorem dX10_firstOf_89 : decode cX10_firstOf 89 = .ok (.goto 4, 3) := by decide +kernel
theorem dX10_firstOf_92 : decode cX10_firstOf 92 = .ok (.iconst 0, 1) := by decide +kernel
theorem dX10_firstOf_93 : decode cX10_firstOf 93 = .ok (.ireturn, 1) := by decide +kernel
theorem dX10_isClass_0 : decode cX10_isClass 0 = .ok (.iload_n 0, 1) := by decide +kernel
theorem dX10_isClass_1 : decode cX10_isClass 1 = .ok (.ifCond .lt 34, 3) := by decide +kernel
theorem dX10_isClass_4 : decode cX10_isClass 4 = .ok (.iload_n 0, 1) := by decide +kernel
theorem dX10_isClass_5 : decode cX10_isClass 5 = .ok (.bipush 80, 2) := by decide +kernel
theorem dX10_isClass_7 : decode cX10_isClass 7 = .ok (.if_icmp .ge 28, 3) := by decide +kernel
theorem dX10_isClass_10 : decode cX10_isClass 10 = .ok (.iload_n 0, 1) := by decide +kernel
theorem dX10_isClass_11 : decode cX10_isClass 11 = .ok (.bipush 20, 2) := by decide +kernel
theorem dX10_isClass_13 : decode cX10_isClass 13 = .ok (.irem, 1) := by decide +kernel
theorem dX10_isClass_14 : decode cX10_isClass 14 = .ok (.bipush 17, 2) := by decide +kernel
theorem dX10_isClass_16 : decode cX10_isClass 16 = .ok (.if_icmp .ge 19, 3) := by decide +kernel
theorem dX10_isClass_19 : decode cX10_isClass 19 = .ok (.iload_n 0, 1) := by decide +kernel
theorem dX10_isClass_20 : decode cX10_isClass 20 = .ok (.bipush 20, 2) := by decide +kernel
theorem dX10_isClass_22 : decode cX10_isClass 22 = .ok (.if_icmp .ge 9, 3) := by decide +kernel
theorem dX10_isClass_25 : decode cX10_isClass 25 = .ok (.iload_n 0, 1) := by decide +kernel
theorem dX10_isClass_26 : decode cX10_isClass 26 = .ok (.bipush 15, 2) := by decide +kernel
theorem dX10_isClass_28 : decode cX10_isClass 28 = .ok (.if_icmp .ge 7, 3) := by decide +kernel
theorem dX10_isClass_31 : decode cX10_isClass 31 = .ok (.iconst 1, 1) := by decide +kernel
theorem dX10_isClass_32 : decode cX10_isClass 32 = .ok (.goto 4, 3) := by decide +kernel
theorem dX10_isClass_35 : decode cX10_isClass 35 = .ok (.iconst 0, 1) := by decide +kernel
theorem dX10_isClass_36 : decode cX10_isClass 36 = .ok (.ireturn, 1) := by decide +kernel
theorem dX10_isKindOf_0 : decode cX10_isKindOf 0 = .ok (.iload_n 0, 1) := by decide +kernel
theorem dX10_isKindOf_1 : decode cX10_isKindOf 1 = .ok (.iload_n 1, 1) := by decide +kernel
theorem dX10_isKindOf_2 : decode cX10_isKindOf 2 = .ok (.if_icmp .ne 5, 3) := by decide +kernel
theorem dX10_isKindOf_5 : decode cX10_isKindOf 5 = .ok (.iconst 1, 1) := by decide +kernel
theorem dX10_isKindOf_6 : decode cX10_isKindOf 6 = .ok (.ireturn, 1) := by decide +kernel
theorem dX10_isKindOf_7 : decode cX10_isKindOf 7 = .ok (.iload_n 1, 1) := by decide +kernel
theorem dX10_isKindOf_8 : decode cX10_isKindOf 8 = .ok (.tableswitch 130 8 16 #[52, 70, 130, 130, 82, 130, 130, 94, 112], 52) := by decide +kernel
theorem dX10_isKindOf_60 : decode cX10_isKindOf 60 = .ok (.iload_n 0, 1) := by decide +kernel
theorem dX10_isKindOf_61 : decode cX10_isKindOf 61 = .ok (.bipush 8, 2) := by decide +kernel
theorem dX10_isKindOf_63 : decode cX10_isKindOf 63 = .ok (.if_icmp .le 13, 3) := by decide +kernel
theorem dX10_isKindOf_66 : decode cX10_isKindOf 66 = .ok (.iload_n 0, 1) := by decide +kernel
theorem dX10_isKindOf_67 : decode cX10_isKindOf 67 = .ok (.bipush 15, 2) := by decide +kernel
theorem dX10_isKindOf_69 : decode cX10_isKindOf 69 = .ok (.if_icmp .ge 7, 3) := by decide +kernel
theorem dX10_isKindOf_72 : decode cX10_isKindOf 72 = .ok (.iconst 1, 1) := by decide +kernel
theorem dX10_isKindOf_73 : decode cX10_isKindOf 73 = .ok (.goto 4, 3) := by decide +kernel
theorem dX10_isKindOf_76 : decode cX10_isKindOf 76 = .ok (.iconst 0, 1) := by decide +kernel
theorem dX10_isKindOf_77 : decode cX10_isKindOf 77 = .ok (.ireturn, 1) := by decide +kernel
theorem dX10_isKindOf_78 : decode cX10_isKindOf 78 = .ok (.iload_n 0, 1) := by decide +kernel
theorem dX10_isKindOf_79 : decode cX10_isKindOf 79 = .ok (.bipush 10, 2) := by decide +kernel
theorem dX10_isKindOf_81 : decode cX10_isKindOf 81 = .ok (.if_icmp .ne 7, 3) := by decide +kernel
theorem dX10_isKindOf_84 : decode cX10_isKindOf 84 = .ok (.iconst 1, 1) := by decide +kernel
theorem dX10_isKindOf_85 : decode cX10_isKindOf 85 = .ok (.goto 4, 3) := by decide +kernel
theorem dX10_isKindOf_88 : decode cX10_isKindOf 88 = .ok (.iconst 0, 1) := by decide +kernel
theorem dX10_isKindOf_89 : decode cX10_isKindOf 89 = .ok (.ireturn, 1) := by decide +kernel
theorem dX10_isKindOf_90 : decode cX10_isKindOf 90 = .ok (.iload_n 0, 1) := by decide +kernel
theorem dX10_isKindOf_91 : decode cX10_isKindOf 91 = .ok (.bipush 13, 2) := by decide +kernel
theorem dX10_isKindOf_93 : decode cX10_isKindOf 93 = .ok (.if_icmp .ne 7, 3) := by decide +kernel
theorem dX10_isKindOf_96 : decode cX10_isKindOf 96 = .ok (.iconst 1, 1) := by decide +kernel
theorem dX10_isKindOf_97 : decode cX10_isKindOf 97 = .ok (.goto 4, 3) := by decide +kernel
theorem dX10_isKindOf_100 : decode cX10_isKindOf 100 = .ok (.iconst 0, 1) := by decide +kernel
theorem dX10_isKindOf_101 : decode cX10_isKindOf 101 = .ok (.ireturn, 1) := by decide +kernel
theorem dX10_isKindOf_102 : decode cX10_isKindOf 102 = .ok (.iload_n 0, 1) := by decide +kernel
theorem dX10_isKindOf_103 : decode cX10_isKindOf 103 = .ok (.bipush 11, 2) := by decide +kernel
theorem dX10_isKindOf_105 : decode cX10_isKindOf 105 = .ok (.if_icmp .le 13, 3) := by decide +kernel
theorem dX10_isKindOf_108 : decode cX10_isKindOf 108 = .ok (.iload_n 0, 1) := by decide +kernel
theorem dX10_isKindOf_109 : decode cX10_isKindOf 109 = .ok (.bipush 15, 2) := by decide +kernel
theorem dX10_isKindOf_111 : decode cX10_isKindOf 111 = .ok (.if_icmp .ge 7, 3) := by decide +kernel
theorem dX10_isKindOf_114 : decode cX10_isKindOf 114 = .ok (.iconst 1, 1) := by decide +kernel
theorem dX10_isKindOf_115 : decode cX10_isKindOf 115 = .ok (.goto 4, 3) := by decide +kernel
theorem dX10_isKindOf_118 : decode cX10_isKindOf 118 = .ok (.iconst 0, 1) := by decide +kernel
theorem dX10_isKindOf_119 : decode cX10_isKindOf 119 = .ok (.ireturn, 1) := by decide +kernel
theorem dX10_isKindOf_120 : decode cX10_isKindOf 120 = .ok (.iload_n 0, 1) := by decide +kernel
theorem dX10_isKindOf_121 : decode cX10_isKindOf 121 = .ok (.bipush 11, 2) := by decide +kernel
theorem dX10_isKindOf_123 : decode cX10_isKindOf 123 = .ok (.if_icmp .eq 9, 3) := by decide +kernel
theorem dX10_isKindOf_126 : decode cX10_isKindOf 126 = .ok (.iload_n 0, 1) := by decide +kernel
theorem dX10_isKindOf_127 : decode cX10_isKindOf 127 = .ok (.bipush 13, 2) := by decide +kernel
theorem dX10_isKindOf_129 : decode cX10_isKindOf 129 = .ok (.if_icmp .ne 7, 3) := by decide +kernel
theorem dX10_isKindOf_132 : decode cX10_isKindOf 132 = .ok (.iconst 1, 1) := by decide +kernel
theorem dX10_isKindOf_133 : decode cX10_isKindOf 133 = .ok (.goto 4, 3) := by decide +kernel
theorem dX10_isKindOf_136 : decode cX10_isKindOf 136 = .ok (.iconst 0, 1) := by decide +kernel
theorem dX10_isKindOf_137 : decode cX10_isKindOf 137 = .ok (.ireturn, 1) := by decide +kernel
theorem dX10_isKindOf_138 : decode cX10_isKindOf 138 = .ok (.iconst 0, 1) := by decide +kernel
theorem dX10_isKindOf_139 : decode cX10_isKindOf 139 = .ok (.ireturn, 1) := by decide +kernel
theorem dX10_isBelow_0 : decode cX10_isBelow 0 = .ok (.iload_n 0, 1) := by decide +kernel
theorem dX10_isBelow_1 : decode cX10_isBelow 1 = .ok (.iload_n 1, 1) := by decide +kernel
theorem dX10_isBelow_2 : decode cX10_isBelow 2 = .ok (.if_icmp .eq 46, 3) := by decide +kernel
theorem dX10_isBelow_5 : decode cX10_isBelow 5 = .ok (.iload_n 0, 1) := by decide +kernel
theorem dX10_isBelow_6 : decode cX10_isBelow 6 = .ok (.bipush 20, 2) := by decide +kernel
theorem dX10_isBelow_8 : decode cX10_isBelow 8 = .ok (.idiv, 1) := by decide +kernel
theorem dX10_isBelow_9 : decode cX10_isBelow 9 = .ok (.iload_n 1, 1) := by decide +kernel
theorem dX10_isBelow_10 : decode cX10_isBelow 10 = .ok (.bipush 20, 2) := by decide +kernel
theorem dX10_isBelow_12 : decode cX10_isBelow 12 = .ok (.idiv, 1) := by decide +kernel
theorem dX10_isBelow_13 : decode cX10_isBelow 13 = .ok (.if_icmp .ne 39, 3) := by decide +kernel
theorem dX10_isBelow_16 : decode cX10_isBelow 16 = .ok (.iload_n 0, 1) := by decide +kernel
theorem dX10_isBelow_17 : decode cX10_isBelow 17 = .ok (.bipush 20, 2) := by decide +kernel
theorem dX10_isBelow_19 : decode cX10_isBelow 19 = .ok (.irem, 1) := by decide +kernel
theorem dX10_isBelow_20 : decode cX10_isBelow 20 = .ok (.bipush 7, 2) := by decide +kernel
theorem dX10_isBelow_22 : decode cX10_isBelow 22 = .ok (.if_icmp .le 30, 3) := by decide +kernel
theorem dX10_isBelow_25 : decode cX10_isBelow 25 = .ok (.iload_n 1, 1) := by decide +kernel
theorem dX10_isBelow_26 : decode cX10_isBelow 26 = .ok (.bipush 20, 2) := by decide +kernel
theorem dX10_isBelow_28 : decode cX10_isBelow 28 = .ok (.irem, 1) := by decide +kernel
theorem dX10_isBelow_29 : decode cX10_isBelow 29 = .ok (.bipush 7, 2) := by decide +kernel
theorem dX10_isBelow_31 : decode cX10_isBelow 31 = .ok (.if_icmp .le 21, 3) := by decide +kernel
theorem dX10_isBelow_34 : decode cX10_isBelow 34 = .ok (.iload_n 0, 1) := by decide +kernel
theorem dX10_isBelow_35 : decode cX10_isBelow 35 = .ok (.bipush 20, 2) := by decide +kernel
theorem dX10_isBelow_37 : decode cX10_isBelow 37 = .ok (.irem, 1) := by decide +kernel
theorem dX10_isBelow_38 : decode cX10_isBelow 38 = .ok (.iload_n 1, 1) := by decide +kernel
theorem dX10_isBelow_39 : decode cX10_isBelow 39 = .ok (.bipush 20, 2) := by decide +kernel
theorem dX10_isBelow_41 : decode cX10_isBelow 41 = .ok (.irem, 1) := by decide +kernel
theorem dX10_isBelow_42 : decode cX10_isBelow 42 = .ok (.invokestatic 237, 3) := by decide +kernel
theorem dX10_isBelow_45 : decode cX10_isBelow 45 = .ok (.ifCond .eq 7, 3) := by decide +kernel
theorem dX10_isBelow_48 : decode cX10_isBelow 48 = .ok (.iconst 1, 1) := by decide +kernel
theorem dX10_isBelow_49 : decode cX10_isBelow 49 = .ok (.goto 4, 3) := by decide +kernel
theorem dX10_isBelow_52 : decode cX10_isBelow 52 = .ok (.iconst 0, 1) := by decide +kernel
theorem dX10_isBelow_53 : decode cX10_isBelow 53 = .ok (.ireturn, 1) := by decide +kernel
theorem dX10_widens_0 : decode cX10_widens 0 = .ok (.iload_n 0, 1) := by decide +kernel
theorem dX10_widens_1 : decode cX10_widens 1 = .ok (.iload_n 1, 1) := by decide +kernel
theorem dX10_widens_2 : decode cX10_widens 2 = .ok (.if_icmp .ne 5, 3) := by decide +kernel
theorem dX10_widens_5 : decode cX10_widens 5 = .ok (.iconst 1, 1) := by decide +kernel
theorem dX10_widens_6 : decode cX10_widens 6 = .ok (.ireturn, 1) := by decide +kernel
theorem dX10_widens_7 : decode cX10_widens 7 = .ok (.iload_n 0, 1) := by decide +kernel
theorem dX10_widens_8 : decode cX10_widens 8 = .ok (.tableswitch 125 1 6 #[40, 62, 62, 79, 96, 113], 40) := by decide +kernel
theorem dX10_widens_48 : decode cX10_widens 48 = .ok (.iload_n 1, 1) := by decide +kernel
theorem dX10_widens_49 : decode cX10_widens 49 = .ok (.iconst 2, 1) := by decide +kernel
theorem dX10_widens_50 : decode cX10_widens 50 = .ok (.if_icmp .eq 14, 3) := by decide +kernel
theorem dX10_widens_53 : decode cX10_widens 53 = .ok (.iload_n 1, 1) := by decide +kernel
theorem dX10_widens_54 : decode cX10_widens 54 = .ok (.iconst 3, 1) := by decide +kernel
theorem dX10_widens_55 : decode cX10_widens 55 = .ok (.if_icmp .le 13, 3) := by decide +kernel
theorem dX10_widens_58 : decode cX10_widens 58 = .ok (.iload_n 1, 1) := by decide +kernel
theorem dX10_widens_59 : decode cX10_widens 59 = .ok (.bipush 8, 2) := by decide +kernel
theorem dX10_widens_61 : decode cX10_widens 61 = .ok (.if_icmp .ge 7, 3) := by decide +kernel
theorem dX10_widens_64 : decode cX10_widens 64 = .ok (.iconst 1, 1) := by decide +kernel
theorem dX10_widens_65 : decode cX10_widens 65 = .ok (.goto 4, 3) := by decide +kernel
theorem dX10_widens_68 : decode cX10_widens 68 = .ok (.iconst 0, 1) := by decide +kernel
theorem dX10_widens_69 : decode cX10_widens 69 = .ok (.ireturn, 1) := by decide +kernel
theorem dX10_widens_70 : decode cX10_widens 70 = .ok (.iload_n 1, 1) := by decide +kernel
theorem dX10_widens_71 : decode cX10_widens 71 = .ok (.iconst 3, 1) := by decide +kernel
theorem dX10_widens_72 : decode cX10_widens 72 = .ok (.if_icmp .le 13, 3) := by decide +kernel
theorem dX10_widens_75 : decode cX10_widens 75 = .ok (.iload_n 1, 1) := by decide +kernel
theorem dX10_widens_76 : decode cX10_widens 76 = .ok (.bipush 8, 2) := by decide +kernel
theorem dX10_widens_78 : decode cX10_widens 78 = .ok (.if_icmp .ge 7, 3) := by decide +kernel
theorem dX10_widens_81 : decode cX10_widens 81 = .ok (.iconst 1, 1) := by decide +kernel
theorem dX10_widens_82 : decode cX10_widens 82 = .ok (.goto 4, 3) := by decide +kernel
theorem dX10_widens_85 : decode cX10_widens 85 = .ok (.iconst 0, 1) := by decide +kernel
theorem dX10_widens_86 : decode cX10_widens 86 = .ok (.ireturn, 1) := by decide +kernel
theorem dX10_widens_87 : decode cX10_widens 87 = .ok (.iload_n 1, 1) := by decide +kernel
theorem dX10_widens_88 : decode cX10_widens 88 = .ok (.iconst 4, 1) := by decide +kernel
theorem dX10_widens_89 : decode cX10_widens 89 = .ok (.if_icmp .le 13, 3) := by decide +kernel
theorem dX10_widens_92 : decode cX10_widens 92 = .ok (.iload_n 1, 1) := by decide +kernel
theorem dX10_widens_93 : decode cX10_widens 93 = .ok (.bipush 8, 2) := by decide +kernel
theorem dX10_widens_95 : decode cX10_widens 95 = .ok (.if_icmp .ge 7, 3) := by decide +kernel
theorem dX10_widens_98 : decode cX10_widens 98 = .ok (.iconst 1, 1) := by decide +kernel
theorem dX10_widens_99 : decode cX10_widens 99 = .ok (.goto 4, 3) := by decide +kernel
theorem dX10_widens_102 : decode cX10_widens 102 = .ok (.iconst 0, 1) := by decide +kernel
theorem dX10_widens_103 : decode cX10_widens 103 = .ok (.ireturn, 1) := by decide +kernel
theorem dX10_widens_104 : decode cX10_widens 104 = .ok (.iload_n 1, 1) := by decide +kernel
theorem dX10_widens_105 : decode cX10_widens 105 = .ok (.iconst 5, 1) := by decide +kernel
theorem dX10_widens_106 : decode cX10_widens 106 = .ok (.if_icmp .le 13, 3) := by decide +kernel
theorem dX10_widens_109 : decode cX10_widens 109 = .ok (.iload_n 1, 1) := by decide +kernel
theorem dX10_widens_110 : decode cX10_widens 110 = .ok (.bipush 8, 2) := by decide +kernel
theorem dX10_widens_112 : decode cX10_widens 112 = .ok (.if_icmp .ge 7, 3) := by decide +kernel
theorem dX10_widens_115 : decode cX10_widens 115 = .ok (.iconst 1, 1) := by decide +kernel
theorem dX10_widens_116 : decode cX10_widens 116 = .ok (.goto 4, 3) := by decide +kernel
theorem dX10_widens_119 : decode cX10_widens 119 = .ok (.iconst 0, 1) := by decide +kernel
theorem dX10_widens_120 : decode cX10_widens 120 = .ok (.ireturn, 1) := by decide +kernel
theorem dX10_widens_121 : decode cX10_widens 121 = .ok (.iload_n 1, 1) := by decide +kernel
theorem dX10_widens_122 : decode cX10_widens 122 = .ok (.bipush 7, 2) := by decide +kernel
theorem dX10_widens_124 : decode cX10_widens 124 = .ok (.if_icmp .ne 7, 3) := by decide +kernel
theorem dX10_widens_127 : decode cX10_widens 127 = .ok (.iconst 1, 1) := by decide +kernel
theorem dX10_widens_128 : decode cX10_widens 128 = .ok (.goto 4, 3) := by decide +kernel
theorem dX10_widens_131 : decode cX10_widens 131 = .ok (.iconst 0, 1) := by decide +kernel
theorem dX10_widens_132 : decode cX10_widens 132 = .ok (.ireturn, 1) := by decide +kernel
theorem dX10_widens_133 : decode cX10_widens 133 = .ok (.iconst 0, 1) := by decide +kernel
theorem dX10_widens_134 : decode cX10_widens 134 = .ok (.ireturn, 1) := by decide +kernel
theorem dX10_elements_0 : decode cX10_elements 0 = .ok (.iload_n 0, 1) := by decide +kernel
theorem dX10_elements_1 : decode cX10_elements 1 = .ok (.bipush 20, 2) := by decide +kernel
theorem dX10_elements_3 : decode cX10_elements 3 = .ok (.isub, 1) := by decide +kernel
theorem dX10_elements_4 : decode cX10_elements 4 = .ok (.ireturn, 1) := by decide +kernel
theorem dX10_isOfNumbers_0 : decode cX10_isOfNumbers 0 = .ok (.iload_n 0, 1) := by decide +kernel
theorem dX10_isOfNumbers_1 : decode cX10_isOfNumbers 1 = .ok (.bipush 28, 2) := by decide +kernel
theorem dX10_isOfNumbers_3 : decode cX10_isOfNumbers 3 = .ok (.if_icmp .ge 13, 3) := by decide +kernel
theorem dX10_isOfNumbers_6 : decode cX10_isOfNumbers 6 = .ok (.iload_n 0, 1) := by decide +kernel
theorem dX10_isOfNumbers_7 : decode cX10_isOfNumbers 7 = .ok (.bipush 19, 2) := by decide +kernel
theorem dX10_isOfNumbers_9 : decode cX10_isOfNumbers 9 = .ok (.if_icmp .le 7, 3) := by decide +kernel
theorem dX10_isOfNumbers_12 : decode cX10_isOfNumbers 12 = .ok (.iconst 1, 1) := by decide +kernel
theorem dX10_isOfNumbers_13 : decode cX10_isOfNumbers 13 = .ok (.goto 4, 3) := by decide +kernel
theorem dX10_isOfNumbers_16 : decode cX10_isOfNumbers 16 = .ok (.iconst 0, 1) := by decide +kernel
theorem dX10_isOfNumbers_17 : decode cX10_isOfNumbers 17 = .ok (.ireturn, 1) := by decide +kernel

theorem dX10_readStep_0 : decode cX10_readStep 0 = .ok (.aload_n 0, 1) := by decide +kernel
theorem dX10_readStep_1 : decode cX10_readStep 1 = .ok (.getfield 25, 3) := by decide +kernel
theorem dX10_readStep_4 : decode cX10_readStep 4 = .ok (.iload_n 1, 1) := by decide +kernel
theorem dX10_readStep_5 : decode cX10_readStep 5 = .ok (.aload_n 0, 1) := by decide +kernel
theorem dX10_readStep_6 : decode cX10_readStep 6 = .ok (.getfield 270, 3) := by decide +kernel
theorem dX10_readStep_9 : decode cX10_readStep 9 = .ok (.iastore, 1) := by decide +kernel
theorem dX10_readStep_10 : decode cX10_readStep 10 = .ok (.aload_n 0, 1) := by decide +kernel
theorem dX10_readStep_11 : decode cX10_readStep 11 = .ok (.getfield 19, 3) := by decide +kernel
theorem dX10_readStep_14 : decode cX10_readStep 14 = .ok (.iload_n 1, 1) := by decide +kernel
theorem dX10_readStep_15 : decode cX10_readStep 15 = .ok (.iconst (-1), 1) := by decide +kernel
theorem dX10_readStep_16 : decode cX10_readStep 16 = .ok (.iastore, 1) := by decide +kernel
theorem dX10_readStep_17 : decode cX10_readStep 17 = .ok (.aload_n 0, 1) := by decide +kernel
theorem dX10_readStep_18 : decode cX10_readStep 18 = .ok (.getfield 22, 3) := by decide +kernel
theorem dX10_readStep_21 : decode cX10_readStep 21 = .ok (.iload_n 1, 1) := by decide +kernel
theorem dX10_readStep_22 : decode cX10_readStep 22 = .ok (.iconst 0, 1) := by decide +kernel
theorem dX10_readStep_23 : decode cX10_readStep 23 = .ok (.iastore, 1) := by decide +kernel
theorem dX10_readStep_24 : decode cX10_readStep 24 = .ok (.aload_n 0, 1) := by decide +kernel
theorem dX10_readStep_25 : decode cX10_readStep 25 = .ok (.ldc_w 393, 3) := by decide +kernel
theorem dX10_readStep_28 : decode cX10_readStep 28 = .ok (.invokevirtual 325, 3) := by decide +kernel
theorem dX10_readStep_31 : decode cX10_readStep 31 = .ok (.ifCond .eq 56, 3) := by decide +kernel
theorem dX10_readStep_34 : decode cX10_readStep 34 = .ok (.aload_n 0, 1) := by decide +kernel
theorem dX10_readStep_35 : decode cX10_readStep 35 = .ok (.invokevirtual 322, 3) := by decide +kernel
theorem dX10_readStep_38 : decode cX10_readStep 38 = .ok (.aload_n 0, 1) := by decide +kernel
theorem dX10_readStep_39 : decode cX10_readStep 39 = .ok (.ldc_w 385, 3) := by decide +kernel
theorem dX10_readStep_42 : decode cX10_readStep 42 = .ok (.invokevirtual 325, 3) := by decide +kernel
theorem dX10_readStep_45 : decode cX10_readStep 45 = .ok (.ifCond .eq 13, 3) := by decide +kernel
theorem dX10_readStep_48 : decode cX10_readStep 48 = .ok (.aload_n 0, 1) := by decide +kernel
theorem dX10_readStep_49 : decode cX10_readStep 49 = .ok (.getfield 19, 3) := by decide +kernel
theorem dX10_readStep_52 : decode cX10_readStep 52 = .ok (.iload_n 1, 1) := by decide +kernel
theorem dX10_readStep_53 : decode cX10_readStep 53 = .ok (.iconst 0, 1) := by decide +kernel
theorem dX10_readStep_54 : decode cX10_readStep 54 = .ok (.iastore, 1) := by decide +kernel
theorem dX10_readStep_55 : decode cX10_readStep 55 = .ok (.goto 28, 3) := by decide +kernel
theorem dX10_readStep_58 : decode cX10_readStep 58 = .ok (.aload_n 0, 1) := by decide +kernel
theorem dX10_readStep_59 : decode cX10_readStep 59 = .ok (.invokevirtual 398, 3) := by decide +kernel
theorem dX10_readStep_62 : decode cX10_readStep 62 = .ok (.ifCond .eq 19, 3) := by decide +kernel
theorem dX10_readStep_65 : decode cX10_readStep 65 = .ok (.aload_n 0, 1) := by decide +kernel
theorem dX10_readStep_66 : decode cX10_readStep 66 = .ok (.getfield 19, 3) := by decide +kernel
theorem dX10_readStep_69 : decode cX10_readStep 69 = .ok (.iload_n 1, 1) := by decide +kernel
theorem dX10_readStep_70 : decode cX10_readStep 70 = .ok (.aload_n 0, 1) := by decide +kernel
theorem dX10_readStep_71 : decode cX10_readStep 71 = .ok (.getfield 289, 3) := by decide +kernel
theorem dX10_readStep_74 : decode cX10_readStep 74 = .ok (.invokestatic 390, 3) := by decide +kernel
theorem dX10_readStep_77 : decode cX10_readStep 77 = .ok (.iastore, 1) := by decide +kernel
theorem dX10_readStep_78 : decode cX10_readStep 78 = .ok (.goto 5, 3) := by decide +kernel
theorem dX10_readStep_81 : decode cX10_readStep 81 = .ok (.iconst 0, 1) := by decide +kernel
theorem dX10_readStep_82 : decode cX10_readStep 82 = .ok (.ireturn, 1) := by decide +kernel
theorem dX10_readStep_83 : decode cX10_readStep 83 = .ok (.aload_n 0, 1) := by decide +kernel
theorem dX10_readStep_84 : decode cX10_readStep 84 = .ok (.invokevirtual 322, 3) := by decide +kernel
theorem dX10_readStep_87 : decode cX10_readStep 87 = .ok (.aload_n 0, 1) := by decide +kernel
theorem dX10_readStep_88 : decode cX10_readStep 88 = .ok (.ldc_w 394, 3) := by decide +kernel
theorem dX10_readStep_91 : decode cX10_readStep 91 = .ok (.invokevirtual 325, 3) := by decide +kernel
theorem dX10_readStep_94 : decode cX10_readStep 94 = .ok (.ifCond .eq 58, 3) := by decide +kernel
theorem dX10_readStep_97 : decode cX10_readStep 97 = .ok (.aload_n 0, 1) := by decide +kernel
theorem dX10_readStep_98 : decode cX10_readStep 98 = .ok (.getfield 401, 3) := by decide +kernel
theorem dX10_readStep_101 : decode cX10_readStep 101 = .ok (.bipush 8, 2) := by decide +kernel
theorem dX10_readStep_103 : decode cX10_readStep 103 = .ok (.if_icmp .ne 9, 3) := by decide +kernel
theorem dX10_readStep_106 : decode cX10_readStep 106 = .ok (.aload_n 0, 1) := by decide +kernel
theorem dX10_readStep_107 : decode cX10_readStep 107 = .ok (.iconst 4, 1) := by decide +kernel
theorem dX10_readStep_108 : decode cX10_readStep 108 = .ok (.invokevirtual 319, 3) := by decide +kernel
theorem dX10_readStep_111 : decode cX10_readStep 111 = .ok (.ireturn, 1) := by decide +kernel
theorem dX10_readStep_112 : decode cX10_readStep 112 = .ok (.aload_n 0, 1) := by decide +kernel
theorem dX10_readStep_113 : decode cX10_readStep 113 = .ok (.dup, 1) := by decide +kernel
theorem dX10_readStep_114 : decode cX10_readStep 114 = .ok (.getfield 401, 3) := by decide +kernel
theorem dX10_readStep_117 : decode cX10_readStep 117 = .ok (.iconst 1, 1) := by decide +kernel
theorem dX10_readStep_118 : decode cX10_readStep 118 = .ok (.iadd, 1) := by decide +kernel
theorem dX10_readStep_119 : decode cX10_readStep 119 = .ok (.putfield 401, 3) := by decide +kernel
theorem dX10_readStep_122 : decode cX10_readStep 122 = .ok (.aload_n 0, 1) := by decide +kernel
theorem dX10_readStep_123 : decode cX10_readStep 123 = .ok (.invokevirtual 322, 3) := by decide +kernel
theorem dX10_readStep_126 : decode cX10_readStep 126 = .ok (.aload_n 0, 1) := by decide +kernel
theorem dX10_readStep_127 : decode cX10_readStep 127 = .ok (.invokevirtual 398, 3) := by decide +kernel
theorem dX10_readStep_130 : decode cX10_readStep 130 = .ok (.ifCond .ne 5, 3) := by decide +kernel
theorem dX10_readStep_133 : decode cX10_readStep 133 = .ok (.iconst 0, 1) := by decide +kernel
theorem dX10_readStep_134 : decode cX10_readStep 134 = .ok (.ireturn, 1) := by decide +kernel
theorem dX10_readStep_135 : decode cX10_readStep 135 = .ok (.aload_n 0, 1) := by decide +kernel
theorem dX10_readStep_136 : decode cX10_readStep 136 = .ok (.getfield 22, 3) := by decide +kernel
theorem dX10_readStep_139 : decode cX10_readStep 139 = .ok (.iload_n 1, 1) := by decide +kernel
theorem dX10_readStep_140 : decode cX10_readStep 140 = .ok (.aload_n 0, 1) := by decide +kernel
theorem dX10_readStep_141 : decode cX10_readStep 141 = .ok (.getfield 289, 3) := by decide +kernel
theorem dX10_readStep_144 : decode cX10_readStep 144 = .ok (.invokestatic 390, 3) := by decide +kernel
theorem dX10_readStep_147 : decode cX10_readStep 147 = .ok (.iastore, 1) := by decide +kernel
theorem dX10_readStep_148 : decode cX10_readStep 148 = .ok (.aload_n 0, 1) := by decide +kernel
theorem dX10_readStep_149 : decode cX10_readStep 149 = .ok (.invokevirtual 322, 3) := by decide +kernel
theorem dX10_readStep_152 : decode cX10_readStep 152 = .ok (.aload_n 0, 1) := by decide +kernel
theorem dX10_readStep_153 : decode cX10_readStep 153 = .ok (.iload_n 1, 1) := by decide +kernel
theorem dX10_readStep_154 : decode cX10_readStep 154 = .ok (.invokevirtual 404, 3) := by decide +kernel
theorem dX10_readStep_157 : decode cX10_readStep 157 = .ok (.ifCond .ne 5, 3) := by decide +kernel
theorem dX10_readStep_160 : decode cX10_readStep 160 = .ok (.iconst 0, 1) := by decide +kernel
theorem dX10_readStep_161 : decode cX10_readStep 161 = .ok (.ireturn, 1) := by decide +kernel
theorem dX10_readStep_162 : decode cX10_readStep 162 = .ok (.aload_n 0, 1) := by decide +kernel
theorem dX10_readStep_163 : decode cX10_readStep 163 = .ok (.getfield 28, 3) := by decide +kernel
theorem dX10_readStep_166 : decode cX10_readStep 166 = .ok (.iload_n 1, 1) := by decide +kernel
theorem dX10_readStep_167 : decode cX10_readStep 167 = .ok (.aload_n 0, 1) := by decide +kernel
theorem dX10_readStep_168 : decode cX10_readStep 168 = .ok (.getfield 263, 3) := by decide +kernel
theorem dX10_readStep_171 : decode cX10_readStep 171 = .ok (.iastore, 1) := by decide +kernel
theorem dX10_readStep_172 : decode cX10_readStep 172 = .ok (.aload_n 0, 1) := by decide +kernel
theorem dX10_readStep_173 : decode cX10_readStep 173 = .ok (.bipush 59, 2) := by decide +kernel
theorem dX10_readStep_175 : decode cX10_readStep 175 = .ok (.invokevirtual 365, 3) := by decide +kernel
theorem dX10_readStep_178 : decode cX10_readStep 178 = .ok (.ireturn, 1) := by decide +kernel
theorem dX10_keep_0 : decode cX10_keep 0 = .ok (.aload_n 0, 1) := by decide +kernel
theorem dX10_keep_1 : decode cX10_keep 1 = .ok (.getfield 16, 3) := by decide +kernel
theorem dX10_keep_4 : decode cX10_keep 4 = .ok (.iload_n 2, 1) := by decide +kernel
theorem dX10_keep_5 : decode cX10_keep 5 = .ok (.aload_n 0, 1) := by decide +kernel
theorem dX10_keep_6 : decode cX10_keep 6 = .ok (.getfield 16, 3) := by decide +kernel
theorem dX10_keep_9 : decode cX10_keep 9 = .ok (.iload_n 1, 1) := by decide +kernel
theorem dX10_keep_10 : decode cX10_keep 10 = .ok (.iaload, 1) := by decide +kernel
theorem dX10_keep_11 : decode cX10_keep 11 = .ok (.iastore, 1) := by decide +kernel
theorem dX10_keep_12 : decode cX10_keep 12 = .ok (.aload_n 0, 1) := by decide +kernel
theorem dX10_keep_13 : decode cX10_keep 13 = .ok (.getfield 19, 3) := by decide +kernel
theorem dX10_keep_16 : decode cX10_keep 16 = .ok (.iload_n 2, 1) := by decide +kernel
theorem dX10_keep_17 : decode cX10_keep 17 = .ok (.aload_n 0, 1) := by decide +kernel
theorem dX10_keep_18 : decode cX10_keep 18 = .ok (.getfield 19, 3) := by decide +kernel
theorem dX10_keep_21 : decode cX10_keep 21 = .ok (.iload_n 1, 1) := by decide +kernel
theorem dX10_keep_22 : decode cX10_keep 22 = .ok (.iaload, 1) := by decide +kernel
theorem dX10_keep_23 : decode cX10_keep 23 = .ok (.iastore, 1) := by decide +kernel
theorem dX10_keep_24 : decode cX10_keep 24 = .ok (.aload_n 0, 1) := by decide +kernel
theorem dX10_keep_25 : decode cX10_keep 25 = .ok (.getfield 22, 3) := by decide +kernel
theorem dX10_keep_28 : decode cX10_keep 28 = .ok (.iload_n 2, 1) := by decide +kernel
theorem dX10_keep_29 : decode cX10_keep 29 = .ok (.aload_n 0, 1) := by decide +kernel
theorem dX10_keep_30 : decode cX10_keep 30 = .ok (.getfield 22, 3) := by decide +kernel
theorem dX10_keep_33 : decode cX10_keep 33 = .ok (.iload_n 1, 1) := by decide +kernel
theorem dX10_keep_34 : decode cX10_keep 34 = .ok (.iaload, 1) := by decide +kernel
theorem dX10_keep_35 : decode cX10_keep 35 = .ok (.iastore, 1) := by decide +kernel
theorem dX10_keep_36 : decode cX10_keep 36 = .ok (.aload_n 0, 1) := by decide +kernel
theorem dX10_keep_37 : decode cX10_keep 37 = .ok (.getfield 25, 3) := by decide +kernel
theorem dX10_keep_40 : decode cX10_keep 40 = .ok (.iload_n 2, 1) := by decide +kernel
theorem dX10_keep_41 : decode cX10_keep 41 = .ok (.aload_n 0, 1) := by decide +kernel
theorem dX10_keep_42 : decode cX10_keep 42 = .ok (.getfield 25, 3) := by decide +kernel
theorem dX10_keep_45 : decode cX10_keep 45 = .ok (.iload_n 1, 1) := by decide +kernel
theorem dX10_keep_46 : decode cX10_keep 46 = .ok (.iaload, 1) := by decide +kernel
theorem dX10_keep_47 : decode cX10_keep 47 = .ok (.iastore, 1) := by decide +kernel
theorem dX10_keep_48 : decode cX10_keep 48 = .ok (.aload_n 0, 1) := by decide +kernel
theorem dX10_keep_49 : decode cX10_keep 49 = .ok (.getfield 28, 3) := by decide +kernel
theorem dX10_keep_52 : decode cX10_keep 52 = .ok (.iload_n 2, 1) := by decide +kernel
theorem dX10_keep_53 : decode cX10_keep 53 = .ok (.aload_n 0, 1) := by decide +kernel
theorem dX10_keep_54 : decode cX10_keep 54 = .ok (.getfield 28, 3) := by decide +kernel
theorem dX10_keep_57 : decode cX10_keep 57 = .ok (.iload_n 1, 1) := by decide +kernel
theorem dX10_keep_58 : decode cX10_keep 58 = .ok (.iaload, 1) := by decide +kernel
theorem dX10_keep_59 : decode cX10_keep 59 = .ok (.iastore, 1) := by decide +kernel
theorem dX10_keep_60 : decode cX10_keep 60 = .ok (.aload_n 0, 1) := by decide +kernel
theorem dX10_keep_61 : decode cX10_keep 61 = .ok (.getfield 31, 3) := by decide +kernel
theorem dX10_keep_64 : decode cX10_keep 64 = .ok (.iload_n 2, 1) := by decide +kernel
theorem dX10_keep_65 : decode cX10_keep 65 = .ok (.aload_n 0, 1) := by decide +kernel
theorem dX10_keep_66 : decode cX10_keep 66 = .ok (.getfield 31, 3) := by decide +kernel
theorem dX10_keep_69 : decode cX10_keep 69 = .ok (.iload_n 1, 1) := by decide +kernel
theorem dX10_keep_70 : decode cX10_keep 70 = .ok (.iaload, 1) := by decide +kernel
theorem dX10_keep_71 : decode cX10_keep 71 = .ok (.iastore, 1) := by decide +kernel
theorem dX10_keep_72 : decode cX10_keep 72 = .ok (.aload_n 0, 1) := by decide +kernel
theorem dX10_keep_73 : decode cX10_keep 73 = .ok (.getfield 34, 3) := by decide +kernel
theorem dX10_keep_76 : decode cX10_keep 76 = .ok (.iload_n 2, 1) := by decide +kernel
theorem dX10_keep_77 : decode cX10_keep 77 = .ok (.aload_n 0, 1) := by decide +kernel
theorem dX10_keep_78 : decode cX10_keep 78 = .ok (.getfield 34, 3) := by decide +kernel
theorem dX10_keep_81 : decode cX10_keep 81 = .ok (.iload_n 1, 1) := by decide +kernel
theorem dX10_keep_82 : decode cX10_keep 82 = .ok (.iaload, 1) := by decide +kernel
theorem dX10_keep_83 : decode cX10_keep 83 = .ok (.iastore, 1) := by decide +kernel
theorem dX10_keep_84 : decode cX10_keep 84 = .ok (.aload_n 0, 1) := by decide +kernel
theorem dX10_keep_85 : decode cX10_keep 85 = .ok (.getfield 37, 3) := by decide +kernel
theorem dX10_keep_88 : decode cX10_keep 88 = .ok (.iload_n 2, 1) := by decide +kernel
theorem dX10_keep_89 : decode cX10_keep 89 = .ok (.aload_n 0, 1) := by decide +kernel
theorem dX10_keep_90 : decode cX10_keep 90 = .ok (.getfield 37, 3) := by decide +kernel
theorem dX10_keep_93 : decode cX10_keep 93 = .ok (.iload_n 1, 1) := by decide +kernel
theorem dX10_keep_94 : decode cX10_keep 94 = .ok (.iaload, 1) := by decide +kernel
theorem dX10_keep_95 : decode cX10_keep 95 = .ok (.iastore, 1) := by decide +kernel
theorem dX10_keep_96 : decode cX10_keep 96 = .ok (.aload_n 0, 1) := by decide +kernel
theorem dX10_keep_97 : decode cX10_keep 97 = .ok (.getfield 40, 3) := by decide +kernel
theorem dX10_keep_100 : decode cX10_keep 100 = .ok (.iload_n 2, 1) := by decide +kernel
theorem dX10_keep_101 : decode cX10_keep 101 = .ok (.aload_n 0, 1) := by decide +kernel
theorem dX10_keep_102 : decode cX10_keep 102 = .ok (.getfield 40, 3) := by decide +kernel
theorem dX10_keep_105 : decode cX10_keep 105 = .ok (.iload_n 1, 1) := by decide +kernel
theorem dX10_keep_106 : decode cX10_keep 106 = .ok (.iaload, 1) := by decide +kernel
theorem dX10_keep_107 : decode cX10_keep 107 = .ok (.iastore, 1) := by decide +kernel
theorem dX10_keep_108 : decode cX10_keep 108 = .ok (.aload_n 0, 1) := by decide +kernel
theorem dX10_keep_109 : decode cX10_keep 109 = .ok (.getfield 43, 3) := by decide +kernel
theorem dX10_keep_112 : decode cX10_keep 112 = .ok (.iload_n 2, 1) := by decide +kernel
theorem dX10_keep_113 : decode cX10_keep 113 = .ok (.aload_n 0, 1) := by decide +kernel
theorem dX10_keep_114 : decode cX10_keep 114 = .ok (.getfield 43, 3) := by decide +kernel
theorem dX10_keep_117 : decode cX10_keep 117 = .ok (.iload_n 1, 1) := by decide +kernel
theorem dX10_keep_118 : decode cX10_keep 118 = .ok (.iaload, 1) := by decide +kernel
theorem dX10_keep_119 : decode cX10_keep 119 = .ok (.iastore, 1) := by decide +kernel
theorem dX10_keep_120 : decode cX10_keep 120 = .ok (.iconst 0, 1) := by decide +kernel
theorem dX10_keep_121 : decode cX10_keep 121 = .ok (.istore_n 3, 1) := by decide +kernel
theorem dX10_keep_122 : decode cX10_keep 122 = .ok (.iload_n 3, 1) := by decide +kernel
theorem dX10_keep_123 : decode cX10_keep 123 = .ok (.iconst 4, 1) := by decide +kernel
theorem dX10_keep_124 : decode cX10_keep 124 = .ok (.if_icmp .ge 49, 3) := by decide +kernel
theorem dX10_keep_127 : decode cX10_keep 127 = .ok (.aload_n 0, 1) := by decide +kernel
theorem dX10_keep_128 : decode cX10_keep 128 = .ok (.getfield 46, 3) := by decide +kernel
theorem dX10_keep_131 : decode cX10_keep 131 = .ok (.iconst 4, 1) := by decide +kernel
theorem dX10_keep_132 : decode cX10_keep 132 = .ok (.iload_n 2, 1) := by decide +kernel
theorem dX10_keep_133 : decode cX10_keep 133 = .ok (.imul, 1) := by decide +kernel
theorem dX10_keep_134 : decode cX10_keep 134 = .ok (.iload_n 3, 1) := by decide +kernel
theorem dX10_keep_135 : decode cX10_keep 135 = .ok (.iadd, 1) := by decide +kernel
theorem dX10_keep_136 : decode cX10_keep 136 = .ok (.aload_n 0, 1) := by decide +kernel
theorem dX10_keep_137 : decode cX10_keep 137 = .ok (.getfield 46, 3) := by decide +kernel
theorem dX10_keep_140 : decode cX10_keep 140 = .ok (.iconst 4, 1) := by decide +kernel
theorem dX10_keep_141 : decode cX10_keep 141 = .ok (.iload_n 1, 1) := by decide +kernel
theorem dX10_keep_142 : decode cX10_keep 142 = .ok (.imul, 1) := by decide +kernel
theorem dX10_keep_143 : decode cX10_keep 143 = .ok (.iload_n 3, 1) := by decide +kernel
theorem dX10_keep_144 : decode cX10_keep 144 = .ok (.iadd, 1) := by decide +kernel
theorem dX10_keep_145 : decode cX10_keep 145 = .ok (.iaload, 1) := by decide +kernel
theorem dX10_keep_146 : decode cX10_keep 146 = .ok (.iastore, 1) := by decide +kernel
theorem dX10_keep_147 : decode cX10_keep 147 = .ok (.aload_n 0, 1) := by decide +kernel
theorem dX10_keep_148 : decode cX10_keep 148 = .ok (.getfield 49, 3) := by decide +kernel
theorem dX10_keep_151 : decode cX10_keep 151 = .ok (.iconst 4, 1) := by decide +kernel
theorem dX10_keep_152 : decode cX10_keep 152 = .ok (.iload_n 2, 1) := by decide +kernel
theorem dX10_keep_153 : decode cX10_keep 153 = .ok (.imul, 1) := by decide +kernel
theorem dX10_keep_154 : decode cX10_keep 154 = .ok (.iload_n 3, 1) := by decide +kernel
theorem dX10_keep_155 : decode cX10_keep 155 = .ok (.iadd, 1) := by decide +kernel
theorem dX10_keep_156 : decode cX10_keep 156 = .ok (.aload_n 0, 1) := by decide +kernel
theorem dX10_keep_157 : decode cX10_keep 157 = .ok (.getfield 49, 3) := by decide +kernel
theorem dX10_keep_160 : decode cX10_keep 160 = .ok (.iconst 4, 1) := by decide +kernel
theorem dX10_keep_161 : decode cX10_keep 161 = .ok (.iload_n 1, 1) := by decide +kernel
theorem dX10_keep_162 : decode cX10_keep 162 = .ok (.imul, 1) := by decide +kernel
theorem dX10_keep_163 : decode cX10_keep 163 = .ok (.iload_n 3, 1) := by decide +kernel
theorem dX10_keep_164 : decode cX10_keep 164 = .ok (.iadd, 1) := by decide +kernel
theorem dX10_keep_165 : decode cX10_keep 165 = .ok (.iaload, 1) := by decide +kernel
theorem dX10_keep_166 : decode cX10_keep 166 = .ok (.iastore, 1) := by decide +kernel
theorem dX10_keep_167 : decode cX10_keep 167 = .ok (.iinc 3 1, 3) := by decide +kernel
theorem dX10_keep_170 : decode cX10_keep 170 = .ok (.goto (-48), 3) := by decide +kernel
theorem dX10_keep_173 : decode cX10_keep 173 = .ok (.aload_n 0, 1) := by decide +kernel
theorem dX10_keep_174 : decode cX10_keep 174 = .ok (.getfield 52, 3) := by decide +kernel
theorem dX10_keep_177 : decode cX10_keep 177 = .ok (.iload_n 2, 1) := by decide +kernel
theorem dX10_keep_178 : decode cX10_keep 178 = .ok (.aload_n 0, 1) := by decide +kernel
theorem dX10_keep_179 : decode cX10_keep 179 = .ok (.getfield 52, 3) := by decide +kernel
theorem dX10_keep_182 : decode cX10_keep 182 = .ok (.iload_n 1, 1) := by decide +kernel
theorem dX10_keep_183 : decode cX10_keep 183 = .ok (.iaload, 1) := by decide +kernel
theorem dX10_keep_184 : decode cX10_keep 184 = .ok (.iastore, 1) := by decide +kernel
theorem dX10_keep_185 : decode cX10_keep 185 = .ok (.aload_n 0, 1) := by decide +kernel
theorem dX10_keep_186 : decode cX10_keep 186 = .ok (.getfield 55, 3) := by decide +kernel
theorem dX10_keep_189 : decode cX10_keep 189 = .ok (.iload_n 2, 1) := by decide +kernel
theorem dX10_keep_190 : decode cX10_keep 190 = .ok (.aload_n 0, 1) := by decide +kernel
theorem dX10_keep_191 : decode cX10_keep 191 = .ok (.getfield 55, 3) := by decide +kernel
theorem dX10_keep_194 : decode cX10_keep 194 = .ok (.iload_n 1, 1) := by decide +kernel
theorem dX10_keep_195 : decode cX10_keep 195 = .ok (.iaload, 1) := by decide +kernel
theorem dX10_keep_196 : decode cX10_keep 196 = .ok (.iastore, 1) := by decide +kernel
theorem dX10_keep_197 : decode cX10_keep 197 = .ok (.aload_n 0, 1) := by decide +kernel
theorem dX10_keep_198 : decode cX10_keep 198 = .ok (.getfield 58, 3) := by decide +kernel
theorem dX10_keep_201 : decode cX10_keep 201 = .ok (.iload_n 2, 1) := by decide +kernel
theorem dX10_keep_202 : decode cX10_keep 202 = .ok (.aload_n 0, 1) := by decide +kernel
theorem dX10_keep_203 : decode cX10_keep 203 = .ok (.getfield 58, 3) := by decide +kernel
theorem dX10_keep_206 : decode cX10_keep 206 = .ok (.iload_n 1, 1) := by decide +kernel
theorem dX10_keep_207 : decode cX10_keep 207 = .ok (.laload, 1) := by decide +kernel
theorem dX10_keep_208 : decode cX10_keep 208 = .ok (.lastore, 1) := by decide +kernel
theorem dX10_keep_209 : decode cX10_keep 209 = .ok (.return_, 1) := by decide +kernel
theorem dX10_named_0 : decode cX10_named 0 = .ok (.aload_n 0, 1) := by decide +kernel
theorem dX10_named_1 : decode cX10_named 1 = .ok (.iconst 0, 1) := by decide +kernel
theorem dX10_named_2 : decode cX10_named 2 = .ok (.putfield 122, 3) := by decide +kernel
theorem dX10_named_5 : decode cX10_named 5 = .ok (.aload_n 0, 1) := by decide +kernel
theorem dX10_named_6 : decode cX10_named 6 = .ok (.aload_n 0, 1) := by decide +kernel
theorem dX10_named_7 : decode cX10_named 7 = .ok (.getfield 126, 3) := by decide +kernel
theorem dX10_named_10 : decode cX10_named 10 = .ok (.putfield 261, 3) := by decide +kernel
theorem dX10_named_13 : decode cX10_named 13 = .ok (.aload_n 0, 1) := by decide +kernel
theorem dX10_named_14 : decode cX10_named 14 = .ok (.iconst 0, 1) := by decide +kernel
theorem dX10_named_15 : decode cX10_named 15 = .ok (.putfield 126, 3) := by decide +kernel
theorem dX10_named_18 : decode cX10_named 18 = .ok (.aload_n 0, 1) := by decide +kernel
theorem dX10_named_19 : decode cX10_named 19 = .ok (.iconst 0, 1) := by decide +kernel
theorem dX10_named_20 : decode cX10_named 20 = .ok (.putfield 263, 3) := by decide +kernel
theorem dX10_named_23 : decode cX10_named 23 = .ok (.aload_n 0, 1) := by decide +kernel
theorem dX10_named_24 : decode cX10_named 24 = .ok (.invokevirtual 322, 3) := by decide +kernel
theorem dX10_named_27 : decode cX10_named 27 = .ok (.sipush 201, 3) := by decide +kernel
theorem dX10_named_30 : decode cX10_named 30 = .ok (.istore_n 1, 1) := by decide +kernel
theorem dX10_named_31 : decode cX10_named 31 = .ok (.aload_n 0, 1) := by decide +kernel
theorem dX10_named_32 : decode cX10_named 32 = .ok (.iload_n 1, 1) := by decide +kernel
theorem dX10_named_33 : decode cX10_named 33 = .ok (.invokevirtual 439, 3) := by decide +kernel
theorem dX10_named_36 : decode cX10_named 36 = .ok (.ifCond .eq 19, 3) := by decide +kernel
theorem dX10_named_39 : decode cX10_named 39 = .ok (.aload_n 0, 1) := by decide +kernel
theorem dX10_named_40 : decode cX10_named 40 = .ok (.getfield 273, 3) := by decide +kernel
theorem dX10_named_43 : decode cX10_named 43 = .ok (.ifCond .ne 12, 3) := by decide +kernel
theorem dX10_named_46 : decode cX10_named 46 = .ok (.aload_n 0, 1) := by decide +kernel
theorem dX10_named_47 : decode cX10_named 47 = .ok (.getfield 40, 3) := by decide +kernel
theorem dX10_named_50 : decode cX10_named 50 = .ok (.iload_n 1, 1) := by decide +kernel
theorem dX10_named_51 : decode cX10_named 51 = .ok (.iaload, 1) := by decide +kernel
theorem dX10_named_52 : decode cX10_named 52 = .ok (.goto 4, 3) := by decide +kernel
theorem dX10_named_55 : decode cX10_named 55 = .ok (.iconst (-1), 1) := by decide +kernel
theorem dX10_named_56 : decode cX10_named 56 = .ok (.ireturn, 1) := by decide +kernel

theorem dX10_reads_0 : decode cX10_reads 0 = .ok (.aload_n 0, 1) := by decide +kernel
theorem dX10_reads_1 : decode cX10_reads 1 = .ok (.iload_n 1, 1) := by decide +kernel
theorem dX10_reads_2 : decode cX10_reads 2 = .ok (.invokevirtual 604, 3) := by decide +kernel
theorem dX10_reads_5 : decode cX10_reads 5 = .ok (.istore_n 2, 1) := by decide +kernel
theorem dX10_reads_6 : decode cX10_reads 6 = .ok (.iload_n 2, 1) := by decide +kernel
theorem dX10_reads_7 : decode cX10_reads 7 = .ok (.ifCond .le 5, 3) := by decide +kernel
theorem dX10_reads_10 : decode cX10_reads 10 = .ok (.iload_n 2, 1) := by decide +kernel
theorem dX10_reads_11 : decode cX10_reads 11 = .ok (.ireturn, 1) := by decide +kernel
theorem dX10_reads_12 : decode cX10_reads 12 = .ok (.aload_n 0, 1) := by decide +kernel
theorem dX10_reads_13 : decode cX10_reads 13 = .ok (.getfield 77, 3) := by decide +kernel
theorem dX10_reads_16 : decode cX10_reads 16 = .ok (.aload_n 0, 1) := by decide +kernel
theorem dX10_reads_17 : decode cX10_reads 17 = .ok (.getfield 510, 3) := by decide +kernel
theorem dX10_reads_20 : decode cX10_reads 20 = .ok (.iaload, 1) := by decide +kernel
theorem dX10_reads_21 : decode cX10_reads 21 = .ok (.istore_n 3, 1) := by decide +kernel
theorem dX10_reads_22 : decode cX10_reads 22 = .ok (.aload_n 0, 1) := by decide +kernel
theorem dX10_reads_23 : decode cX10_reads 23 = .ok (.getfield 119, 3) := by decide +kernel
theorem dX10_reads_26 : decode cX10_reads 26 = .ok (.aload_n 0, 1) := by decide +kernel
theorem dX10_reads_27 : decode cX10_reads 27 = .ok (.getfield 43, 3) := by decide +kernel
theorem dX10_reads_30 : decode cX10_reads 30 = .ok (.iload_n 1, 1) := by decide +kernel
theorem dX10_reads_31 : decode cX10_reads 31 = .ok (.iaload, 1) := by decide +kernel
theorem dX10_reads_32 : decode cX10_reads 32 = .ok (.iconst 1, 1) := by decide +kernel
theorem dX10_reads_33 : decode cX10_reads 33 = .ok (.isub, 1) := by decide +kernel
theorem dX10_reads_34 : decode cX10_reads 34 = .ok (.iaload, 1) := by decide +kernel
theorem dX10_reads_35 : decode cX10_reads 35 = .ok (.istore 4, 2) := by decide +kernel
theorem dX10_reads_37 : decode cX10_reads 37 = .ok (.aload_n 0, 1) := by decide +kernel
theorem dX10_reads_38 : decode cX10_reads 38 = .ok (.getfield 16, 3) := by decide +kernel
theorem dX10_reads_41 : decode cX10_reads 41 = .ok (.iload_n 1, 1) := by decide +kernel
theorem dX10_reads_42 : decode cX10_reads 42 = .ok (.iaload, 1) := by decide +kernel
theorem dX10_reads_43 : decode cX10_reads 43 = .ok (.iconst 4, 1) := by decide +kernel
theorem dX10_reads_44 : decode cX10_reads 44 = .ok (.if_icmp .ne 13, 3) := by decide +kernel
theorem dX10_reads_47 : decode cX10_reads 47 = .ok (.iload_n 3, 1) := by decide +kernel
theorem dX10_reads_48 : decode cX10_reads 48 = .ok (.invokestatic 525, 3) := by decide +kernel
theorem dX10_reads_51 : decode cX10_reads 51 = .ok (.ifCond .ne 6, 3) := by decide +kernel
theorem dX10_reads_54 : decode cX10_reads 54 = .ok (.bipush 6, 2) := by decide +kernel
theorem dX10_reads_56 : decode cX10_reads 56 = .ok (.ireturn, 1) := by decide +kernel
theorem dX10_reads_57 : decode cX10_reads 57 = .ok (.aload_n 0, 1) := by decide +kernel
theorem dX10_reads_58 : decode cX10_reads 58 = .ok (.iload 4, 2) := by decide +kernel
theorem dX10_reads_60 : decode cX10_reads 60 = .ok (.invokevirtual 516, 3) := by decide +kernel
theorem dX10_reads_63 : decode cX10_reads 63 = .ok (.ifCond .ne 5, 3) := by decide +kernel
theorem dX10_reads_66 : decode cX10_reads 66 = .ok (.iconst 2, 1) := by decide +kernel
theorem dX10_reads_67 : decode cX10_reads 67 = .ok (.ireturn, 1) := by decide +kernel
theorem dX10_reads_68 : decode cX10_reads 68 = .ok (.aload_n 0, 1) := by decide +kernel
theorem dX10_reads_69 : decode cX10_reads 69 = .ok (.aload_n 0, 1) := by decide +kernel
theorem dX10_reads_70 : decode cX10_reads 70 = .ok (.getfield 510, 3) := by decide +kernel
theorem dX10_reads_73 : decode cX10_reads 73 = .ok (.iload 4, 2) := by decide +kernel
theorem dX10_reads_75 : decode cX10_reads 75 = .ok (.invokevirtual 519, 3) := by decide +kernel
theorem dX10_reads_78 : decode cX10_reads 78 = .ok (.aload_n 0, 1) := by decide +kernel
theorem dX10_reads_79 : decode cX10_reads 79 = .ok (.getfield 16, 3) := by decide +kernel
theorem dX10_reads_82 : decode cX10_reads 82 = .ok (.iload_n 1, 1) := by decide +kernel
theorem dX10_reads_83 : decode cX10_reads 83 = .ok (.iaload, 1) := by decide +kernel
theorem dX10_reads_84 : decode cX10_reads 84 = .ok (.iconst 4, 1) := by decide +kernel
theorem dX10_reads_85 : decode cX10_reads 85 = .ok (.if_icmp .ne 49, 3) := by decide +kernel
theorem dX10_reads_88 : decode cX10_reads 88 = .ok (.aload_n 0, 1) := by decide +kernel
theorem dX10_reads_89 : decode cX10_reads 89 = .ok (.getfield 496, 3) := by decide +kernel
theorem dX10_reads_92 : decode cX10_reads 92 = .ok (.aload_n 0, 1) := by decide +kernel
theorem dX10_reads_93 : decode cX10_reads 93 = .ok (.getfield 40, 3) := by decide +kernel
theorem dX10_reads_96 : decode cX10_reads 96 = .ok (.iload_n 1, 1) := by decide +kernel
theorem dX10_reads_97 : decode cX10_reads 97 = .ok (.iaload, 1) := by decide +kernel
theorem dX10_reads_98 : decode cX10_reads 98 = .ok (.invokestatic 528, 3) := by decide +kernel
theorem dX10_reads_101 : decode cX10_reads 101 = .ok (.ifCond .ne 6, 3) := by decide +kernel
theorem dX10_reads_104 : decode cX10_reads 104 = .ok (.bipush 6, 2) := by decide +kernel
theorem dX10_reads_106 : decode cX10_reads 106 = .ok (.ireturn, 1) := by decide +kernel
theorem dX10_reads_107 : decode cX10_reads 107 = .ok (.aload_n 0, 1) := by decide +kernel
theorem dX10_reads_108 : decode cX10_reads 108 = .ok (.aload_n 0, 1) := by decide +kernel
theorem dX10_reads_109 : decode cX10_reads 109 = .ok (.getfield 40, 3) := by decide +kernel
theorem dX10_reads_112 : decode cX10_reads 112 = .ok (.iload_n 1, 1) := by decide +kernel
theorem dX10_reads_113 : decode cX10_reads 113 = .ok (.iaload, 1) := by decide +kernel
theorem dX10_reads_114 : decode cX10_reads 114 = .ok (.aload_n 0, 1) := by decide +kernel
theorem dX10_reads_115 : decode cX10_reads 115 = .ok (.getfield 496, 3) := by decide +kernel
theorem dX10_reads_118 : decode cX10_reads 118 = .ok (.aload_n 0, 1) := by decide +kernel
theorem dX10_reads_119 : decode cX10_reads 119 = .ok (.getfield 499, 3) := by decide +kernel
theorem dX10_reads_122 : decode cX10_reads 122 = .ok (.aload_n 0, 1) := by decide +kernel
theorem dX10_reads_123 : decode cX10_reads 123 = .ok (.getfield 40, 3) := by decide +kernel
theorem dX10_reads_126 : decode cX10_reads 126 = .ok (.iload_n 1, 1) := by decide +kernel
theorem dX10_reads_127 : decode cX10_reads 127 = .ok (.iaload, 1) := by decide +kernel
theorem dX10_reads_128 : decode cX10_reads 128 = .ok (.invokestatic 349, 3) := by decide +kernel
theorem dX10_reads_131 : decode cX10_reads 131 = .ok (.invokevirtual 505, 3) := by decide +kernel
theorem dX10_reads_134 : decode cX10_reads 134 = .ok (.aload_n 0, 1) := by decide +kernel
theorem dX10_reads_135 : decode cX10_reads 135 = .ok (.aload_n 0, 1) := by decide +kernel
theorem dX10_reads_136 : decode cX10_reads 136 = .ok (.getfield 31, 3) := by decide +kernel
theorem dX10_reads_139 : decode cX10_reads 139 = .ok (.iload_n 1, 1) := by decide +kernel
theorem dX10_reads_140 : decode cX10_reads 140 = .ok (.iaload, 1) := by decide +kernel
theorem dX10_reads_141 : decode cX10_reads 141 = .ok (.invokevirtual 572, 3) := by decide +kernel
theorem dX10_reads_144 : decode cX10_reads 144 = .ok (.iconst 0, 1) := by decide +kernel
theorem dX10_reads_145 : decode cX10_reads 145 = .ok (.ireturn, 1) := by decide +kernel
theorem dX10_casts_0 : decode cX10_casts 0 = .ok (.aload_n 0, 1) := by decide +kernel
theorem dX10_casts_1 : decode cX10_casts 1 = .ok (.aload_n 0, 1) := by decide +kernel
theorem dX10_casts_2 : decode cX10_casts 2 = .ok (.getfield 34, 3) := by decide +kernel
theorem dX10_casts_5 : decode cX10_casts 5 = .ok (.iload_n 1, 1) := by decide +kernel
theorem dX10_casts_6 : decode cX10_casts 6 = .ok (.iaload, 1) := by decide +kernel
theorem dX10_casts_7 : decode cX10_casts 7 = .ok (.invokevirtual 502, 3) := by decide +kernel
theorem dX10_casts_10 : decode cX10_casts 10 = .ok (.aload_n 0, 1) := by decide +kernel
theorem dX10_casts_11 : decode cX10_casts 11 = .ok (.getfield 493, 3) := by decide +kernel
theorem dX10_casts_14 : decode cX10_casts 14 = .ok (.iconst 1, 1) := by decide +kernel
theorem dX10_casts_15 : decode cX10_casts 15 = .ok (.if_icmp .ne 19, 3) := by decide +kernel
theorem dX10_casts_18 : decode cX10_casts 18 = .ok (.aload_n 0, 1) := by decide +kernel
theorem dX10_casts_19 : decode cX10_casts 19 = .ok (.getfield 496, 3) := by decide +kernel
theorem dX10_casts_22 : decode cX10_casts 22 = .ok (.aload_n 0, 1) := by decide +kernel
theorem dX10_casts_23 : decode cX10_casts 23 = .ok (.getfield 40, 3) := by decide +kernel
theorem dX10_casts_26 : decode cX10_casts 26 = .ok (.iload_n 1, 1) := by decide +kernel
theorem dX10_casts_27 : decode cX10_casts 27 = .ok (.iaload, 1) := by decide +kernel
theorem dX10_casts_28 : decode cX10_casts 28 = .ok (.if_icmp .eq 6, 3) := by decide +kernel
theorem dX10_casts_31 : decode cX10_casts 31 = .ok (.bipush 6, 2) := by decide +kernel
theorem dX10_casts_33 : decode cX10_casts 33 = .ok (.ireturn, 1) := by decide +kernel
theorem dX10_casts_34 : decode cX10_casts 34 = .ok (.aload_n 0, 1) := by decide +kernel
theorem dX10_casts_35 : decode cX10_casts 35 = .ok (.getfield 493, 3) := by decide +kernel
theorem dX10_casts_38 : decode cX10_casts 38 = .ok (.iconst 1, 1) := by decide +kernel
theorem dX10_casts_39 : decode cX10_casts 39 = .ok (.if_icmp .le 21, 3) := by decide +kernel
theorem dX10_casts_42 : decode cX10_casts 42 = .ok (.aload_n 0, 1) := by decide +kernel
theorem dX10_casts_43 : decode cX10_casts 43 = .ok (.invokevirtual 531, 3) := by decide +kernel
theorem dX10_casts_46 : decode cX10_casts 46 = .ok (.aload_n 0, 1) := by decide +kernel
theorem dX10_casts_47 : decode cX10_casts 47 = .ok (.getfield 40, 3) := by decide +kernel
theorem dX10_casts_50 : decode cX10_casts 50 = .ok (.iload_n 1, 1) := by decide +kernel
theorem dX10_casts_51 : decode cX10_casts 51 = .ok (.iaload, 1) := by decide +kernel
theorem dX10_casts_52 : decode cX10_casts 52 = .ok (.invokestatic 534, 3) := by decide +kernel
theorem dX10_casts_55 : decode cX10_casts 55 = .ok (.ifCond .ne 5, 3) := by decide +kernel
theorem dX10_casts_58 : decode cX10_casts 58 = .ok (.iconst 5, 1) := by decide +kernel
theorem dX10_casts_59 : decode cX10_casts 59 = .ok (.ireturn, 1) := by decide +kernel
theorem dX10_casts_60 : decode cX10_casts 60 = .ok (.aload_n 0, 1) := by decide +kernel
theorem dX10_casts_61 : decode cX10_casts 61 = .ok (.aload_n 0, 1) := by decide +kernel
theorem dX10_casts_62 : decode cX10_casts 62 = .ok (.getfield 31, 3) := by decide +kernel
theorem dX10_casts_65 : decode cX10_casts 65 = .ok (.iload_n 1, 1) := by decide +kernel
theorem dX10_casts_66 : decode cX10_casts 66 = .ok (.iaload, 1) := by decide +kernel
theorem dX10_casts_67 : decode cX10_casts 67 = .ok (.invokevirtual 572, 3) := by decide +kernel
theorem dX10_casts_70 : decode cX10_casts 70 = .ok (.iconst 0, 1) := by decide +kernel
theorem dX10_casts_71 : decode cX10_casts 71 = .ok (.ireturn, 1) := by decide +kernel
theorem dX10_marks_0 : decode cX10_marks 0 = .ok (.aload_n 0, 1) := by decide +kernel
theorem dX10_marks_1 : decode cX10_marks 1 = .ok (.getfield 478, 3) := by decide +kernel
theorem dX10_marks_4 : decode cX10_marks 4 = .ok (.bipush 50, 2) := by decide +kernel
theorem dX10_marks_6 : decode cX10_marks 6 = .ok (.if_icmp .ge 55, 3) := by decide +kernel
theorem dX10_marks_9 : decode cX10_marks 9 = .ok (.aload_n 0, 1) := by decide +kernel
theorem dX10_marks_10 : decode cX10_marks 10 = .ok (.getfield 107, 3) := by decide +kernel
theorem dX10_marks_13 : decode cX10_marks 13 = .ok (.aload_n 0, 1) := by decide +kernel
theorem dX10_marks_14 : decode cX10_marks 14 = .ok (.getfield 478, 3) := by decide +kernel
theorem dX10_marks_17 : decode cX10_marks 17 = .ok (.aload_n 0, 1) := by decide +kernel
theorem dX10_marks_18 : decode cX10_marks 18 = .ok (.getfield 493, 3) := by decide +kernel
theorem dX10_marks_21 : decode cX10_marks 21 = .ok (.iastore, 1) := by decide +kernel
theorem dX10_marks_22 : decode cX10_marks 22 = .ok (.aload_n 0, 1) := by decide +kernel
theorem dX10_marks_23 : decode cX10_marks 23 = .ok (.getfield 110, 3) := by decide +kernel
theorem dX10_marks_26 : decode cX10_marks 26 = .ok (.aload_n 0, 1) := by decide +kernel
theorem dX10_marks_27 : decode cX10_marks 27 = .ok (.getfield 478, 3) := by decide +kernel
theorem dX10_marks_30 : decode cX10_marks 30 = .ok (.aload_n 0, 1) := by decide +kernel
theorem dX10_marks_31 : decode cX10_marks 31 = .ok (.getfield 496, 3) := by decide +kernel
theorem dX10_marks_34 : decode cX10_marks 34 = .ok (.iastore, 1) := by decide +kernel
theorem dX10_marks_35 : decode cX10_marks 35 = .ok (.aload_n 0, 1) := by decide +kernel
theorem dX10_marks_36 : decode cX10_marks 36 = .ok (.getfield 116, 3) := by decide +kernel
theorem dX10_marks_39 : decode cX10_marks 39 = .ok (.aload_n 0, 1) := by decide +kernel
theorem dX10_marks_40 : decode cX10_marks 40 = .ok (.getfield 478, 3) := by decide +kernel
theorem dX10_marks_43 : decode cX10_marks 43 = .ok (.aload_n 0, 1) := by decide +kernel
theorem dX10_marks_44 : decode cX10_marks 44 = .ok (.getfield 499, 3) := by decide +kernel
theorem dX10_marks_47 : decode cX10_marks 47 = .ok (.lastore, 1) := by decide +kernel
theorem dX10_marks_48 : decode cX10_marks 48 = .ok (.aload_n 0, 1) := by decide +kernel
theorem dX10_marks_49 : decode cX10_marks 49 = .ok (.getfield 113, 3) := by decide +kernel
theorem dX10_marks_52 : decode cX10_marks 52 = .ok (.aload_n 0, 1) := by decide +kernel
theorem dX10_marks_53 : decode cX10_marks 53 = .ok (.getfield 478, 3) := by decide +kernel
theorem dX10_marks_56 : decode cX10_marks 56 = .ok (.aload_n 0, 1) := by decide +kernel
theorem dX10_marks_57 : decode cX10_marks 57 = .ok (.invokevirtual 531, 3) := by decide +kernel
theorem dX10_marks_60 : decode cX10_marks 60 = .ok (.iastore, 1) := by decide +kernel
theorem dX10_marks_61 : decode cX10_marks 61 = .ok (.aload_n 0, 1) := by decide +kernel
theorem dX10_marks_62 : decode cX10_marks 62 = .ok (.dup, 1) := by decide +kernel
theorem dX10_marks_63 : decode cX10_marks 63 = .ok (.getfield 478, 3) := by decide +kernel
theorem dX10_marks_66 : decode cX10_marks 66 = .ok (.iconst 1, 1) := by decide +kernel
theorem dX10_marks_67 : decode cX10_marks 67 = .ok (.iadd, 1) := by decide +kernel
theorem dX10_marks_68 : decode cX10_marks 68 = .ok (.putfield 478, 3) := by decide +kernel
theorem dX10_marks_71 : decode cX10_marks 71 = .ok (.return_, 1) := by decide +kernel
theorem dX10_writes_0 : decode cX10_writes 0 = .ok (.aload_n 0, 1) := by decide +kernel
theorem dX10_writes_1 : decode cX10_writes 1 = .ok (.iload_n 1, 1) := by decide +kernel
theorem dX10_writes_2 : decode cX10_writes 2 = .ok (.invokevirtual 569, 3) := by decide +kernel
theorem dX10_writes_5 : decode cX10_writes 5 = .ok (.aload_n 0, 1) := by decide +kernel
theorem dX10_writes_6 : decode cX10_writes 6 = .ok (.getfield 493, 3) := by decide +kernel
theorem dX10_writes_9 : decode cX10_writes 9 = .ok (.istore_n 2, 1) := by decide +kernel
theorem dX10_writes_10 : decode cX10_writes 10 = .ok (.aload_n 0, 1) := by decide +kernel
theorem dX10_writes_11 : decode cX10_writes 11 = .ok (.getfield 496, 3) := by decide +kernel
theorem dX10_writes_14 : decode cX10_writes 14 = .ok (.istore_n 3, 1) := by decide +kernel
theorem dX10_writes_15 : decode cX10_writes 15 = .ok (.aload_n 0, 1) := by decide +kernel
theorem dX10_writes_16 : decode cX10_writes 16 = .ok (.getfield 499, 3) := by decide +kernel
theorem dX10_writes_19 : decode cX10_writes 19 = .ok (.lstore 4, 2) := by decide +kernel
theorem dX10_writes_21 : decode cX10_writes 21 = .ok (.aload_n 0, 1) := by decide +kernel
theorem dX10_writes_22 : decode cX10_writes 22 = .ok (.getfield 16, 3) := by decide +kernel
theorem dX10_writes_25 : decode cX10_writes 25 = .ok (.iload_n 1, 1) := by decide +kernel
theorem dX10_writes_26 : decode cX10_writes 26 = .ok (.iaload, 1) := by decide +kernel
theorem dX10_writes_27 : decode cX10_writes 27 = .ok (.iconst 5, 1) := by decide +kernel
theorem dX10_writes_28 : decode cX10_writes 28 = .ok (.if_icmp .ne 21, 3) := by decide +kernel
theorem dX10_writes_31 : decode cX10_writes 31 = .ok (.iload_n 2, 1) := by decide +kernel
theorem dX10_writes_32 : decode cX10_writes 32 = .ok (.iconst 1, 1) := by decide +kernel
theorem dX10_writes_33 : decode cX10_writes 33 = .ok (.if_icmp .ne 13, 3) := by decide +kernel
theorem dX10_writes_36 : decode cX10_writes 36 = .ok (.iload_n 3, 1) := by decide +kernel
theorem dX10_writes_37 : decode cX10_writes 37 = .ok (.aload_n 0, 1) := by decide +kernel
theorem dX10_writes_38 : decode cX10_writes 38 = .ok (.getfield 40, 3) := by decide +kernel
theorem dX10_writes_41 : decode cX10_writes 41 = .ok (.iload_n 1, 1) := by decide +kernel
theorem dX10_writes_42 : decode cX10_writes 42 = .ok (.iaload, 1) := by decide +kernel
theorem dX10_writes_43 : decode cX10_writes 43 = .ok (.if_icmp .eq 6, 3) := by decide +kernel
theorem dX10_writes_46 : decode cX10_writes 46 = .ok (.bipush 6, 2) := by decide +kernel
theorem dX10_writes_48 : decode cX10_writes 48 = .ok (.ireturn, 1) := by decide +kernel
theorem dX10_writes_49 : decode cX10_writes 49 = .ok (.aload_n 0, 1) := by decide +kernel
theorem dX10_writes_50 : decode cX10_writes 50 = .ok (.iload_n 1, 1) := by decide +kernel
theorem dX10_writes_51 : decode cX10_writes 51 = .ok (.invokevirtual 604, 3) := by decide +kernel
theorem dX10_writes_54 : decode cX10_writes 54 = .ok (.istore 6, 2) := by decide +kernel
theorem dX10_writes_56 : decode cX10_writes 56 = .ok (.iload 6, 2) := by decide +kernel
theorem dX10_writes_58 : decode cX10_writes 58 = .ok (.ifCond .le 6, 3) := by decide +kernel
theorem dX10_writes_61 : decode cX10_writes 61 = .ok (.iload 6, 2) := by decide +kernel
theorem dX10_writes_63 : decode cX10_writes 63 = .ok (.ireturn, 1) := by decide +kernel
theorem dX10_writes_64 : decode cX10_writes 64 = .ok (.aload_n 0, 1) := by decide +kernel
theorem dX10_writes_65 : decode cX10_writes 65 = .ok (.getfield 77, 3) := by decide +kernel
theorem dX10_writes_68 : decode cX10_writes 68 = .ok (.aload_n 0, 1) := by decide +kernel
theorem dX10_writes_69 : decode cX10_writes 69 = .ok (.getfield 510, 3) := by decide +kernel
theorem dX10_writes_72 : decode cX10_writes 72 = .ok (.iaload, 1) := by decide +kernel
theorem dX10_writes_73 : decode cX10_writes 73 = .ok (.istore 7, 2) := by decide +kernel
theorem dX10_writes_75 : decode cX10_writes 75 = .ok (.aload_n 0, 1) := by decide +kernel
theorem dX10_writes_76 : decode cX10_writes 76 = .ok (.getfield 119, 3) := by decide +kernel
theorem dX10_writes_79 : decode cX10_writes 79 = .ok (.aload_n 0, 1) := by decide +kernel
theorem dX10_writes_80 : decode cX10_writes 80 = .ok (.getfield 43, 3) := by decide +kernel
theorem dX10_writes_83 : decode cX10_writes 83 = .ok (.iload_n 1, 1) := by decide +kernel
theorem dX10_writes_84 : decode cX10_writes 84 = .ok (.iaload, 1) := by decide +kernel
theorem dX10_writes_85 : decode cX10_writes 85 = .ok (.iconst 1, 1) := by decide +kernel
theorem dX10_writes_86 : decode cX10_writes 86 = .ok (.isub, 1) := by decide +kernel
theorem dX10_writes_87 : decode cX10_writes 87 = .ok (.iaload, 1) := by decide +kernel
theorem dX10_writes_88 : decode cX10_writes 88 = .ok (.istore 8, 2) := by decide +kernel
theorem dX10_writes_90 : decode cX10_writes 90 = .ok (.aload_n 0, 1) := by decide +kernel
theorem dX10_writes_91 : decode cX10_writes 91 = .ok (.getfield 16, 3) := by decide +kernel
theorem dX10_writes_94 : decode cX10_writes 94 = .ok (.iload_n 1, 1) := by decide +kernel
theorem dX10_writes_95 : decode cX10_writes 95 = .ok (.iaload, 1) := by decide +kernel
theorem dX10_writes_96 : decode cX10_writes 96 = .ok (.iconst 5, 1) := by decide +kernel
theorem dX10_writes_97 : decode cX10_writes 97 = .ok (.if_icmp .ne 14, 3) := by decide +kernel
theorem dX10_writes_100 : decode cX10_writes 100 = .ok (.iload 7, 2) := by decide +kernel
theorem dX10_writes_102 : decode cX10_writes 102 = .ok (.invokestatic 525, 3) := by decide +kernel
theorem dX10_writes_105 : decode cX10_writes 105 = .ok (.ifCond .ne 6, 3) := by decide +kernel
theorem dX10_writes_108 : decode cX10_writes 108 = .ok (.bipush 6, 2) := by decide +kernel
theorem dX10_writes_110 : decode cX10_writes 110 = .ok (.ireturn, 1) := by decide +kernel
theorem dX10_writes_111 : decode cX10_writes 111 = .ok (.aload_n 0, 1) := by decide +kernel
theorem dX10_writes_112 : decode cX10_writes 112 = .ok (.getfield 16, 3) := by decide +kernel
theorem dX10_writes_115 : decode cX10_writes 115 = .ok (.iload_n 1, 1) := by decide +kernel
theorem dX10_writes_116 : decode cX10_writes 116 = .ok (.iaload, 1) := by decide +kernel
theorem dX10_writes_117 : decode cX10_writes 117 = .ok (.bipush 7, 2) := by decide +kernel
theorem dX10_writes_119 : decode cX10_writes 119 = .ok (.if_icmp .ne 19, 3) := by decide +kernel
theorem dX10_writes_122 : decode cX10_writes 122 = .ok (.iload 7, 2) := by decide +kernel
theorem dX10_writes_124 : decode cX10_writes 124 = .ok (.invokestatic 525, 3) := by decide +kernel
theorem dX10_writes_127 : decode cX10_writes 127 = .ok (.ifCond .eq 11, 3) := by decide +kernel
theorem dX10_writes_130 : decode cX10_writes 130 = .ok (.iload_n 2, 1) := by decide +kernel
theorem dX10_writes_131 : decode cX10_writes 131 = .ok (.iconst 1, 1) := by decide +kernel
theorem dX10_writes_132 : decode cX10_writes 132 = .ok (.if_icmp .eq 6, 3) := by decide +kernel
theorem dX10_writes_135 : decode cX10_writes 135 = .ok (.bipush 6, 2) := by decide +kernel
theorem dX10_writes_137 : decode cX10_writes 137 = .ok (.ireturn, 1) := by decide +kernel
theorem dX10_writes_138 : decode cX10_writes 138 = .ok (.aload_n 0, 1) := by decide +kernel
theorem dX10_writes_139 : decode cX10_writes 139 = .ok (.iload 8, 2) := by decide +kernel
theorem dX10_writes_141 : decode cX10_writes 141 = .ok (.invokevirtual 516, 3) := by decide +kernel
theorem dX10_writes_144 : decode cX10_writes 144 = .ok (.ifCond .ne 5, 3) := by decide +kernel
theorem dX10_writes_147 : decode cX10_writes 147 = .ok (.iconst 2, 1) := by decide +kernel
theorem dX10_writes_148 : decode cX10_writes 148 = .ok (.ireturn, 1) := by decide +kernel
theorem dX10_writes_149 : decode cX10_writes 149 = .ok (.aload_n 0, 1) := by decide +kernel
theorem dX10_writes_150 : decode cX10_writes 150 = .ok (.iload_n 2, 1) := by decide +kernel
theorem dX10_writes_151 : decode cX10_writes 151 = .ok (.putfield 493, 3) := by decide +kernel
theorem dX10_writes_154 : decode cX10_writes 154 = .ok (.aload_n 0, 1) := by decide +kernel
theorem dX10_writes_155 : decode cX10_writes 155 = .ok (.iload_n 3, 1) := by decide +kernel
theorem dX10_writes_156 : decode cX10_writes 156 = .ok (.putfield 496, 3) := by decide +kernel
theorem dX10_writes_159 : decode cX10_writes 159 = .ok (.aload_n 0, 1) := by decide +kernel
theorem dX10_writes_160 : decode cX10_writes 160 = .ok (.lload 4, 2) := by decide +kernel
theorem dX10_writes_162 : decode cX10_writes 162 = .ok (.putfield 499, 3) := by decide +kernel
theorem dX10_writes_165 : decode cX10_writes 165 = .ok (.aload_n 0, 1) := by decide +kernel
theorem dX10_writes_166 : decode cX10_writes 166 = .ok (.iload 7, 2) := by decide +kernel
theorem dX10_writes_168 : decode cX10_writes 168 = .ok (.aload_n 0, 1) := by decide +kernel
theorem dX10_writes_169 : decode cX10_writes 169 = .ok (.getfield 16, 3) := by decide +kernel
theorem dX10_writes_172 : decode cX10_writes 172 = .ok (.iload_n 1, 1) := by decide +kernel
theorem dX10_writes_173 : decode cX10_writes 173 = .ok (.iaload, 1) := by decide +kernel
theorem dX10_writes_174 : decode cX10_writes 174 = .ok (.iconst 3, 1) := by decide +kernel
theorem dX10_writes_175 : decode cX10_writes 175 = .ok (.if_icmp .ne 7, 3) := by decide +kernel
theorem dX10_writes_178 : decode cX10_writes 178 = .ok (.iconst 1, 1) := by decide +kernel
theorem dX10_writes_179 : decode cX10_writes 179 = .ok (.goto 4, 3) := by decide +kernel
theorem dX10_writes_182 : decode cX10_writes 182 = .ok (.iconst 0, 1) := by decide +kernel
theorem dX10_writes_183 : decode cX10_writes 183 = .ok (.invokevirtual 607, 3) := by decide +kernel
theorem dX10_writes_186 : decode cX10_writes 186 = .ok (.istore 6, 2) := by decide +kernel
theorem dX10_writes_188 : decode cX10_writes 188 = .ok (.iload 6, 2) := by decide +kernel
theorem dX10_writes_190 : decode cX10_writes 190 = .ok (.ifCond .ne 13, 3) := by decide +kernel
theorem dX10_writes_193 : decode cX10_writes 193 = .ok (.aload_n 0, 1) := by decide +kernel
theorem dX10_writes_194 : decode cX10_writes 194 = .ok (.aload_n 0, 1) := by decide +kernel
theorem dX10_writes_195 : decode cX10_writes 195 = .ok (.getfield 510, 3) := by decide +kernel
theorem dX10_writes_198 : decode cX10_writes 198 = .ok (.iload 8, 2) := by decide +kernel
theorem dX10_writes_200 : decode cX10_writes 200 = .ok (.invokevirtual 543, 3) := by decide +kernel
theorem dX10_writes_203 : decode cX10_writes 203 = .ok (.iload 6, 2) := by decide +kernel
theorem dX10_writes_205 : decode cX10_writes 205 = .ok (.ireturn, 1) := by decide +kernel

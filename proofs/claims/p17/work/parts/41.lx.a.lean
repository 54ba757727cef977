theorem dX1_isSmall_0 : decode cX1_isSmall 0 = .ok (.iload_n 0, 1) := by decide +kernel
theorem dX1_isSmall_1 : decode cX1_isSmall 1 = .ok (.bipush 97, 2) := by decide +kernel
theorem dX1_isSmall_3 : decode cX1_isSmall 3 = .ok (.if_icmp .lt 9, 3) := by decide +kernel
theorem dX1_isSmall_6 : decode cX1_isSmall 6 = .ok (.iload_n 0, 1) := by decide +kernel
theorem dX1_isSmall_7 : decode cX1_isSmall 7 = .ok (.bipush 122, 2) := by decide +kernel
theorem dX1_isSmall_9 : decode cX1_isSmall 9 = .ok (.if_icmp .le 15, 3) := by decide +kernel
theorem dX1_isSmall_12 : decode cX1_isSmall 12 = .ok (.iload_n 0, 1) := by decide +kernel
theorem dX1_isSmall_13 : decode cX1_isSmall 13 = .ok (.bipush 48, 2) := by decide +kernel
theorem dX1_isSmall_15 : decode cX1_isSmall 15 = .ok (.if_icmp .lt 13, 3) := by decide +kernel
theorem dX1_isSmall_18 : decode cX1_isSmall 18 = .ok (.iload_n 0, 1) := by decide +kernel
theorem dX1_isSmall_19 : decode cX1_isSmall 19 = .ok (.bipush 57, 2) := by decide +kernel
theorem dX1_isSmall_21 : decode cX1_isSmall 21 = .ok (.if_icmp .gt 7, 3) := by decide +kernel
theorem dX1_isSmall_24 : decode cX1_isSmall 24 = .ok (.iconst 1, 1) := by decide +kernel
theorem dX1_isSmall_25 : decode cX1_isSmall 25 = .ok (.goto 4, 3) := by decide +kernel
theorem dX1_isSmall_28 : decode cX1_isSmall 28 = .ok (.iconst 0, 1) := by decide +kernel
theorem dX1_isSmall_29 : decode cX1_isSmall 29 = .ok (.ireturn, 1) := by decide +kernel
theorem dX1_open_0 : decode cX1_open 0 = .ok (.aload_n 0, 1) := by decide +kernel
theorem dX1_open_1 : decode cX1_open 1 = .ok (.iconst 0, 1) := by decide +kernel
theorem dX1_open_2 : decode cX1_open 2 = .ok (.iload_n 1, 1) := by decide +kernel
theorem dX1_open_3 : decode cX1_open 3 = .ok (.aload_n 0, 1) := by decide +kernel
theorem dX1_open_4 : decode cX1_open 4 = .ok (.getfield 9, 3) := by decide +kernel
theorem dX1_open_7 : decode cX1_open 7 = .ok (.arraylength, 1) := by decide +kernel
theorem dX1_open_8 : decode cX1_open 8 = .ok (.invokestatic 15, 3) := by decide +kernel
theorem dX1_open_11 : decode cX1_open 11 = .ok (.invokestatic 21, 3) := by decide +kernel
theorem dX1_open_14 : decode cX1_open 14 = .ok (.putfield 24, 3) := by decide +kernel
theorem dX1_open_17 : decode cX1_open 17 = .ok (.aload_n 0, 1) := by decide +kernel
theorem dX1_open_18 : decode cX1_open 18 = .ok (.iload_n 2, 1) := by decide +kernel
theorem dX1_open_19 : decode cX1_open 19 = .ok (.putfield 28, 3) := by decide +kernel
theorem dX1_open_22 : decode cX1_open 22 = .ok (.aload_n 0, 1) := by decide +kernel
theorem dX1_open_23 : decode cX1_open 23 = .ok (.iconst 0, 1) := by decide +kernel
theorem dX1_open_24 : decode cX1_open 24 = .ok (.iload_n 3, 1) := by decide +kernel
theorem dX1_open_25 : decode cX1_open 25 = .ok (.invokestatic 21, 3) := by decide +kernel
theorem dX1_open_28 : decode cX1_open 28 = .ok (.putfield 31, 3) := by decide +kernel
theorem dX1_open_31 : decode cX1_open 31 = .ok (.return_, 1) := by decide +kernel
theorem dX1_kindOfSmalls_0 : decode cX1_kindOfSmalls 0 = .ok (.aload_n 0, 1) := by decide +kernel
theorem dX1_kindOfSmalls_1 : decode cX1_kindOfSmalls 1 = .ok (.iconst 0, 1) := by decide +kernel
theorem dX1_kindOfSmalls_2 : decode cX1_kindOfSmalls 2 = .ok (.putfield 51, 3) := by decide +kernel
theorem dX1_kindOfSmalls_5 : decode cX1_kindOfSmalls 5 = .ok (.aload_n 0, 1) := by decide +kernel
theorem dX1_kindOfSmalls_6 : decode cX1_kindOfSmalls 6 = .ok (.getfield 34, 3) := by decide +kernel
theorem dX1_kindOfSmalls_9 : decode cX1_kindOfSmalls 9 = .ok (.istore_n 1, 1) := by decide +kernel
theorem dX1_kindOfSmalls_10 : decode cX1_kindOfSmalls 10 = .ok (.iload_n 1, 1) := by decide +kernel
theorem dX1_kindOfSmalls_11 : decode cX1_kindOfSmalls 11 = .ok (.aload_n 0, 1) := by decide +kernel
theorem dX1_kindOfSmalls_12 : decode cX1_kindOfSmalls 12 = .ok (.getfield 31, 3) := by decide +kernel
theorem dX1_kindOfSmalls_15 : decode cX1_kindOfSmalls 15 = .ok (.if_icmp .ge 30, 3) := by decide +kernel
theorem dX1_kindOfSmalls_18 : decode cX1_kindOfSmalls 18 = .ok (.aload_n 0, 1) := by decide +kernel
theorem dX1_kindOfSmalls_19 : decode cX1_kindOfSmalls 19 = .ok (.getfield 9, 3) := by decide +kernel
theorem dX1_kindOfSmalls_22 : decode cX1_kindOfSmalls 22 = .ok (.iload_n 1, 1) := by decide +kernel
theorem dX1_kindOfSmalls_23 : decode cX1_kindOfSmalls 23 = .ok (.baload, 1) := by decide +kernel
theorem dX1_kindOfSmalls_24 : decode cX1_kindOfSmalls 24 = .ok (.bipush 57, 2) := by decide +kernel
theorem dX1_kindOfSmalls_26 : decode cX1_kindOfSmalls 26 = .ok (.if_icmp .gt 19, 3) := by decide +kernel
theorem dX1_kindOfSmalls_29 : decode cX1_kindOfSmalls 29 = .ok (.aload_n 0, 1) := by decide +kernel
theorem dX1_kindOfSmalls_30 : decode cX1_kindOfSmalls 30 = .ok (.dup, 1) := by decide +kernel
theorem dX1_kindOfSmalls_31 : decode cX1_kindOfSmalls 31 = .ok (.getfield 51, 3) := by decide +kernel
theorem dX1_kindOfSmalls_34 : decode cX1_kindOfSmalls 34 = .ok (.iconst 1, 1) := by decide +kernel
theorem dX1_kindOfSmalls_35 : decode cX1_kindOfSmalls 35 = .ok (.iadd, 1) := by decide +kernel
theorem dX1_kindOfSmalls_36 : decode cX1_kindOfSmalls 36 = .ok (.putfield 51, 3) := by decide +kernel
theorem dX1_kindOfSmalls_39 : decode cX1_kindOfSmalls 39 = .ok (.iinc 1 1, 3) := by decide +kernel
theorem dX1_kindOfSmalls_42 : decode cX1_kindOfSmalls 42 = .ok (.goto (-32), 3) := by decide +kernel
theorem dX1_kindOfSmalls_45 : decode cX1_kindOfSmalls 45 = .ok (.aload_n 0, 1) := by decide +kernel
theorem dX1_kindOfSmalls_46 : decode cX1_kindOfSmalls 46 = .ok (.getfield 31, 3) := by decide +kernel
theorem dX1_kindOfSmalls_49 : decode cX1_kindOfSmalls 49 = .ok (.aload_n 0, 1) := by decide +kernel
theorem dX1_kindOfSmalls_50 : decode cX1_kindOfSmalls 50 = .ok (.getfield 34, 3) := by decide +kernel
theorem dX1_kindOfSmalls_53 : decode cX1_kindOfSmalls 53 = .ok (.isub, 1) := by decide +kernel
theorem dX1_kindOfSmalls_54 : decode cX1_kindOfSmalls 54 = .ok (.aload_n 0, 1) := by decide +kernel
theorem dX1_kindOfSmalls_55 : decode cX1_kindOfSmalls 55 = .ok (.getfield 51, 3) := by decide +kernel
theorem dX1_kindOfSmalls_58 : decode cX1_kindOfSmalls 58 = .ok (.isub, 1) := by decide +kernel
theorem dX1_kindOfSmalls_59 : decode cX1_kindOfSmalls 59 = .ok (.istore_n 1, 1) := by decide +kernel
theorem dX1_kindOfSmalls_60 : decode cX1_kindOfSmalls 60 = .ok (.aload_n 0, 1) := by decide +kernel
theorem dX1_kindOfSmalls_61 : decode cX1_kindOfSmalls 61 = .ok (.getfield 51, 3) := by decide +kernel
theorem dX1_kindOfSmalls_64 : decode cX1_kindOfSmalls 64 = .ok (.ifCond .le 57, 3) := by decide +kernel
theorem dX1_kindOfSmalls_67 : decode cX1_kindOfSmalls 67 = .ok (.iload_n 1, 1) := by decide +kernel
theorem dX1_kindOfSmalls_68 : decode cX1_kindOfSmalls 68 = .ok (.ifCond .eq 28, 3) := by decide +kernel
theorem dX1_kindOfSmalls_71 : decode cX1_kindOfSmalls 71 = .ok (.iload_n 1, 1) := by decide +kernel
theorem dX1_kindOfSmalls_72 : decode cX1_kindOfSmalls 72 = .ok (.iconst 1, 1) := by decide +kernel
theorem dX1_kindOfSmalls_73 : decode cX1_kindOfSmalls 73 = .ok (.if_icmp .ne 27, 3) := by decide +kernel
theorem dX1_kindOfSmalls_76 : decode cX1_kindOfSmalls 76 = .ok (.ldc 54, 2) := by decide +kernel
theorem dX1_kindOfSmalls_78 : decode cX1_kindOfSmalls 78 = .ok (.aload_n 0, 1) := by decide +kernel
theorem dX1_kindOfSmalls_79 : decode cX1_kindOfSmalls 79 = .ok (.getfield 9, 3) := by decide +kernel
theorem dX1_kindOfSmalls_82 : decode cX1_kindOfSmalls 82 = .ok (.aload_n 0, 1) := by decide +kernel
theorem dX1_kindOfSmalls_83 : decode cX1_kindOfSmalls 83 = .ok (.getfield 31, 3) := by decide +kernel
theorem dX1_kindOfSmalls_86 : decode cX1_kindOfSmalls 86 = .ok (.iconst 1, 1) := by decide +kernel
theorem dX1_kindOfSmalls_87 : decode cX1_kindOfSmalls 87 = .ok (.isub, 1) := by decide +kernel
theorem dX1_kindOfSmalls_88 : decode cX1_kindOfSmalls 88 = .ok (.baload, 1) := by decide +kernel
theorem dX1_kindOfSmalls_89 : decode cX1_kindOfSmalls 89 = .ok (.i2c, 1) := by decide +kernel
theorem dX1_kindOfSmalls_90 : decode cX1_kindOfSmalls 90 = .ok (.invokevirtual 56, 3) := by decide +kernel
theorem dX1_kindOfSmalls_93 : decode cX1_kindOfSmalls 93 = .ok (.ifCond .lt 7, 3) := by decide +kernel
theorem dX1_kindOfSmalls_96 : decode cX1_kindOfSmalls 96 = .ok (.iconst 1, 1) := by decide +kernel
theorem dX1_kindOfSmalls_97 : decode cX1_kindOfSmalls 97 = .ok (.goto 4, 3) := by decide +kernel
theorem dX1_kindOfSmalls_100 : decode cX1_kindOfSmalls 100 = .ok (.iconst 0, 1) := by decide +kernel
theorem dX1_kindOfSmalls_101 : decode cX1_kindOfSmalls 101 = .ok (.istore_n 2, 1) := by decide +kernel
theorem dX1_kindOfSmalls_102 : decode cX1_kindOfSmalls 102 = .ok (.iload_n 2, 1) := by decide +kernel
theorem dX1_kindOfSmalls_103 : decode cX1_kindOfSmalls 103 = .ok (.ifCond .eq 16, 3) := by decide +kernel
theorem dX1_kindOfSmalls_106 : decode cX1_kindOfSmalls 106 = .ok (.aload_n 0, 1) := by decide +kernel
theorem dX1_kindOfSmalls_107 : decode cX1_kindOfSmalls 107 = .ok (.getfield 51, 3) := by decide +kernel
theorem dX1_kindOfSmalls_110 : decode cX1_kindOfSmalls 110 = .ok (.bipush 19, 2) := by decide +kernel
theorem dX1_kindOfSmalls_112 : decode cX1_kindOfSmalls 112 = .ok (.if_icmp .gt 7, 3) := by decide +kernel
theorem dX1_kindOfSmalls_115 : decode cX1_kindOfSmalls 115 = .ok (.iconst 3, 1) := by decide +kernel
theorem dX1_kindOfSmalls_116 : decode cX1_kindOfSmalls 116 = .ok (.goto 4, 3) := by decide +kernel
theorem dX1_kindOfSmalls_119 : decode cX1_kindOfSmalls 119 = .ok (.iconst 1, 1) := by decide +kernel
theorem dX1_kindOfSmalls_120 : decode cX1_kindOfSmalls 120 = .ok (.ireturn, 1) := by decide +kernel
theorem dX1_kindOfSmalls_121 : decode cX1_kindOfSmalls 121 = .ok (.aload_n 0, 1) := by decide +kernel
theorem dX1_kindOfSmalls_122 : decode cX1_kindOfSmalls 122 = .ok (.getfield 34, 3) := by decide +kernel
theorem dX1_kindOfSmalls_125 : decode cX1_kindOfSmalls 125 = .ok (.istore_n 2, 1) := by decide +kernel
theorem dX1_kindOfSmalls_126 : decode cX1_kindOfSmalls 126 = .ok (.iload_n 2, 1) := by decide +kernel
theorem dX1_kindOfSmalls_127 : decode cX1_kindOfSmalls 127 = .ok (.aload_n 0, 1) := by decide +kernel
theorem dX1_kindOfSmalls_128 : decode cX1_kindOfSmalls 128 = .ok (.getfield 31, 3) := by decide +kernel
theorem dX1_kindOfSmalls_131 : decode cX1_kindOfSmalls 131 = .ok (.if_icmp .ge 22, 3) := by decide +kernel
theorem dX1_kindOfSmalls_134 : decode cX1_kindOfSmalls 134 = .ok (.aload_n 0, 1) := by decide +kernel
theorem dX1_kindOfSmalls_135 : decode cX1_kindOfSmalls 135 = .ok (.getfield 9, 3) := by decide +kernel
theorem dX1_kindOfSmalls_138 : decode cX1_kindOfSmalls 138 = .ok (.iload_n 2, 1) := by decide +kernel
theorem dX1_kindOfSmalls_139 : decode cX1_kindOfSmalls 139 = .ok (.baload, 1) := by decide +kernel
theorem dX1_kindOfSmalls_140 : decode cX1_kindOfSmalls 140 = .ok (.bipush 57, 2) := by decide +kernel
theorem dX1_kindOfSmalls_142 : decode cX1_kindOfSmalls 142 = .ok (.if_icmp .gt 5, 3) := by decide +kernel
theorem dX1_kindOfSmalls_145 : decode cX1_kindOfSmalls 145 = .ok (.iconst 1, 1) := by decide +kernel
theorem dX1_kindOfSmalls_146 : decode cX1_kindOfSmalls 146 = .ok (.ireturn, 1) := by decide +kernel
theorem dX1_kindOfSmalls_147 : decode cX1_kindOfSmalls 147 = .ok (.iinc 2 1, 3) := by decide +kernel
theorem dX1_kindOfSmalls_150 : decode cX1_kindOfSmalls 150 = .ok (.goto (-24), 3) := by decide +kernel
theorem dX1_kindOfSmalls_153 : decode cX1_kindOfSmalls 153 = .ok (.iload_n 1, 1) := by decide +kernel
theorem dX1_kindOfSmalls_154 : decode cX1_kindOfSmalls 154 = .ok (.bipush 8, 2) := by decide +kernel
theorem dX1_kindOfSmalls_156 : decode cX1_kindOfSmalls 156 = .ok (.if_icmp .gt 7, 3) := by decide +kernel
theorem dX1_kindOfSmalls_159 : decode cX1_kindOfSmalls 159 = .ok (.iconst 2, 1) := by decide +kernel
theorem dX1_kindOfSmalls_160 : decode cX1_kindOfSmalls 160 = .ok (.goto 4, 3) := by decide +kernel
theorem dX1_kindOfSmalls_163 : decode cX1_kindOfSmalls 163 = .ok (.iconst 1, 1) := by decide +kernel
theorem dX1_kindOfSmalls_164 : decode cX1_kindOfSmalls 164 = .ok (.ireturn, 1) := by decide +kernel
theorem dX1_kindOfOther_0 : decode cX1_kindOfOther 0 = .ok (.aload_n 0, 1) := by decide +kernel
theorem dX1_kindOfOther_1 : decode cX1_kindOfOther 1 = .ok (.aload_n 0, 1) := by decide +kernel
theorem dX1_kindOfOther_2 : decode cX1_kindOfOther 2 = .ok (.getfield 34, 3) := by decide +kernel
theorem dX1_kindOfOther_5 : decode cX1_kindOfOther 5 = .ok (.iconst 1, 1) := by decide +kernel
theorem dX1_kindOfOther_6 : decode cX1_kindOfOther 6 = .ok (.iadd, 1) := by decide +kernel
theorem dX1_kindOfOther_7 : decode cX1_kindOfOther 7 = .ok (.putfield 31, 3) := by decide +kernel
theorem dX1_kindOfOther_10 : decode cX1_kindOfOther 10 = .ok (.ldc 62, 2) := by decide +kernel
theorem dX1_kindOfOther_12 : decode cX1_kindOfOther 12 = .ok (.aload_n 0, 1) := by decide +kernel
theorem dX1_kindOfOther_13 : decode cX1_kindOfOther 13 = .ok (.getfield 9, 3) := by decide +kernel
theorem dX1_kindOfOther_16 : decode cX1_kindOfOther 16 = .ok (.aload_n 0, 1) := by decide +kernel
theorem dX1_kindOfOther_17 : decode cX1_kindOfOther 17 = .ok (.getfield 34, 3) := by decide +kernel
theorem dX1_kindOfOther_20 : decode cX1_kindOfOther 20 = .ok (.baload, 1) := by decide +kernel
theorem dX1_kindOfOther_21 : decode cX1_kindOfOther 21 = .ok (.sipush 255, 3) := by decide +kernel
theorem dX1_kindOfOther_24 : decode cX1_kindOfOther 24 = .ok (.iand, 1) := by decide +kernel
theorem dX1_kindOfOther_25 : decode cX1_kindOfOther 25 = .ok (.i2c, 1) := by decide +kernel
theorem dX1_kindOfOther_26 : decode cX1_kindOfOther 26 = .ok (.invokevirtual 56, 3) := by decide +kernel
theorem dX1_kindOfOther_29 : decode cX1_kindOfOther 29 = .ok (.ifCond .lt 7, 3) := by decide +kernel
theorem dX1_kindOfOther_32 : decode cX1_kindOfOther 32 = .ok (.iconst 4, 1) := by decide +kernel
theorem dX1_kindOfOther_33 : decode cX1_kindOfOther 33 = .ok (.goto 4, 3) := by decide +kernel
theorem dX1_kindOfOther_36 : decode cX1_kindOfOther 36 = .ok (.iconst 1, 1) := by decide +kernel
theorem dX1_kindOfOther_37 : decode cX1_kindOfOther 37 = .ok (.ireturn, 1) := by decide +kernel
theorem dX1_next_0 : decode cX1_next 0 = .ok (.aload_n 0, 1) := by decide +kernel
theorem dX1_next_1 : decode cX1_next 1 = .ok (.getfield 31, 3) := by decide +kernel
theorem dX1_next_4 : decode cX1_next 4 = .ok (.istore_n 1, 1) := by decide +kernel
theorem dX1_next_5 : decode cX1_next 5 = .ok (.iload_n 1, 1) := by decide +kernel
theorem dX1_next_6 : decode cX1_next 6 = .ok (.aload_n 0, 1) := by decide +kernel
theorem dX1_next_7 : decode cX1_next 7 = .ok (.getfield 24, 3) := by decide +kernel
theorem dX1_next_10 : decode cX1_next 10 = .ok (.if_icmp .ge 31, 3) := by decide +kernel
theorem dX1_next_13 : decode cX1_next 13 = .ok (.aload_n 0, 1) := by decide +kernel
theorem dX1_next_14 : decode cX1_next 14 = .ok (.getfield 9, 3) := by decide +kernel
theorem dX1_next_17 : decode cX1_next 17 = .ok (.iload_n 1, 1) := by decide +kernel
theorem dX1_next_18 : decode cX1_next 18 = .ok (.baload, 1) := by decide +kernel
theorem dX1_next_19 : decode cX1_next 19 = .ok (.bipush 32, 2) := by decide +kernel
theorem dX1_next_21 : decode cX1_next 21 = .ok (.if_icmp .eq 14, 3) := by decide +kernel
theorem dX1_next_24 : decode cX1_next 24 = .ok (.aload_n 0, 1) := by decide +kernel
theorem dX1_next_25 : decode cX1_next 25 = .ok (.getfield 9, 3) := by decide +kernel
theorem dX1_next_28 : decode cX1_next 28 = .ok (.iload_n 1, 1) := by decide +kernel
theorem dX1_next_29 : decode cX1_next 29 = .ok (.baload, 1) := by decide +kernel
theorem dX1_next_30 : decode cX1_next 30 = .ok (.bipush 10, 2) := by decide +kernel
theorem dX1_next_32 : decode cX1_next 32 = .ok (.if_icmp .ne 9, 3) := by decide +kernel
theorem dX1_next_35 : decode cX1_next 35 = .ok (.iinc 1 1, 3) := by decide +kernel
theorem dX1_next_38 : decode cX1_next 38 = .ok (.goto (-33), 3) := by decide +kernel
theorem dX1_next_41 : decode cX1_next 41 = .ok (.aload_n 0, 1) := by decide +kernel
theorem dX1_next_42 : decode cX1_next 42 = .ok (.iload_n 1, 1) := by decide +kernel
theorem dX1_next_43 : decode cX1_next 43 = .ok (.putfield 34, 3) := by decide +kernel
theorem dX1_next_46 : decode cX1_next 46 = .ok (.aload_n 0, 1) := by decide +kernel
theorem dX1_next_47 : decode cX1_next 47 = .ok (.iload_n 1, 1) := by decide +kernel
theorem dX1_next_48 : decode cX1_next 48 = .ok (.putfield 31, 3) := by decide +kernel
theorem dX1_next_51 : decode cX1_next 51 = .ok (.aload_n 0, 1) := by decide +kernel
theorem dX1_next_52 : decode cX1_next 52 = .ok (.getfield 24, 3) := by decide +kernel
theorem dX1_next_55 : decode cX1_next 55 = .ok (.aload_n 0, 1) := by decide +kernel
theorem dX1_next_56 : decode cX1_next 56 = .ok (.getfield 28, 3) := by decide +kernel
theorem dX1_next_59 : decode cX1_next 59 = .ok (.if_icmp .le 27, 3) := by decide +kernel
theorem dX1_next_62 : decode cX1_next 62 = .ok (.iload_n 1, 1) := by decide +kernel
theorem dX1_next_63 : decode cX1_next 63 = .ok (.aload_n 0, 1) := by decide +kernel
theorem dX1_next_64 : decode cX1_next 64 = .ok (.getfield 28, 3) := by decide +kernel
theorem dX1_next_67 : decode cX1_next 67 = .ok (.if_icmp .lt 19, 3) := by decide +kernel
theorem dX1_next_70 : decode cX1_next 70 = .ok (.aload_n 0, 1) := by decide +kernel
theorem dX1_next_71 : decode cX1_next 71 = .ok (.iconst 1, 1) := by decide +kernel
theorem dX1_next_72 : decode cX1_next 72 = .ok (.putfield 37, 3) := by decide +kernel
theorem dX1_next_75 : decode cX1_next 75 = .ok (.aload_n 0, 1) := by decide +kernel
theorem dX1_next_76 : decode cX1_next 76 = .ok (.aload_n 0, 1) := by decide +kernel
theorem dX1_next_77 : decode cX1_next 77 = .ok (.getfield 28, 3) := by decide +kernel
theorem dX1_next_80 : decode cX1_next 80 = .ok (.putfield 34, 3) := by decide +kernel
theorem dX1_next_83 : decode cX1_next 83 = .ok (.goto 89, 3) := by decide +kernel
theorem dX1_next_86 : decode cX1_next 86 = .ok (.iload_n 1, 1) := by decide +kernel
theorem dX1_next_87 : decode cX1_next 87 = .ok (.aload_n 0, 1) := by decide +kernel
theorem dX1_next_88 : decode cX1_next 88 = .ok (.getfield 24, 3) := by decide +kernel
theorem dX1_next_91 : decode cX1_next 91 = .ok (.if_icmp .lt 19, 3) := by decide +kernel
theorem dX1_next_94 : decode cX1_next 94 = .ok (.aload_n 0, 1) := by decide +kernel
theorem dX1_next_95 : decode cX1_next 95 = .ok (.iconst 0, 1) := by decide +kernel
theorem dX1_next_96 : decode cX1_next 96 = .ok (.putfield 37, 3) := by decide +kernel
theorem dX1_next_99 : decode cX1_next 99 = .ok (.aload_n 0, 1) := by decide +kernel
theorem dX1_next_100 : decode cX1_next 100 = .ok (.aload_n 0, 1) := by decide +kernel
theorem dX1_next_101 : decode cX1_next 101 = .ok (.getfield 24, 3) := by decide +kernel
theorem dX1_next_104 : decode cX1_next 104 = .ok (.putfield 34, 3) := by decide +kernel
theorem dX1_next_107 : decode cX1_next 107 = .ok (.goto 65, 3) := by decide +kernel
theorem dX1_next_110 : decode cX1_next 110 = .ok (.aload_n 0, 1) := by decide +kernel
theorem dX1_next_111 : decode cX1_next 111 = .ok (.getfield 31, 3) := by decide +kernel
theorem dX1_next_114 : decode cX1_next 114 = .ok (.aload_n 0, 1) := by decide +kernel
theorem dX1_next_115 : decode cX1_next 115 = .ok (.getfield 24, 3) := by decide +kernel
theorem dX1_next_118 : decode cX1_next 118 = .ok (.if_icmp .ge 31, 3) := by decide +kernel
theorem dX1_next_121 : decode cX1_next 121 = .ok (.aload_n 0, 1) := by decide +kernel
theorem dX1_next_122 : decode cX1_next 122 = .ok (.getfield 9, 3) := by decide +kernel
theorem dX1_next_125 : decode cX1_next 125 = .ok (.aload_n 0, 1) := by decide +kernel
theorem dX1_next_126 : decode cX1_next 126 = .ok (.getfield 31, 3) := by decide +kernel
theorem dX1_next_129 : decode cX1_next 129 = .ok (.baload, 1) := by decide +kernel
theorem dX1_next_130 : decode cX1_next 130 = .ok (.invokestatic 40, 3) := by decide +kernel
theorem dX1_next_133 : decode cX1_next 133 = .ok (.ifCond .eq 16, 3) := by decide +kernel
theorem dX1_next_136 : decode cX1_next 136 = .ok (.aload_n 0, 1) := by decide +kernel
theorem dX1_next_137 : decode cX1_next 137 = .ok (.dup, 1) := by decide +kernel
theorem dX1_next_138 : decode cX1_next 138 = .ok (.getfield 31, 3) := by decide +kernel
theorem dX1_next_141 : decode cX1_next 141 = .ok (.iconst 1, 1) := by decide +kernel
theorem dX1_next_142 : decode cX1_next 142 = .ok (.iadd, 1) := by decide +kernel
theorem dX1_next_143 : decode cX1_next 143 = .ok (.putfield 31, 3) := by decide +kernel
theorem dX1_next_146 : decode cX1_next 146 = .ok (.goto (-36), 3) := by decide +kernel
theorem dX1_next_149 : decode cX1_next 149 = .ok (.aload_n 0, 1) := by decide +kernel
theorem dX1_next_150 : decode cX1_next 150 = .ok (.aload_n 0, 1) := by decide +kernel
theorem dX1_next_151 : decode cX1_next 151 = .ok (.getfield 31, 3) := by decide +kernel
theorem dX1_next_154 : decode cX1_next 154 = .ok (.iload_n 1, 1) := by decide +kernel
theorem dX1_next_155 : decode cX1_next 155 = .ok (.if_icmp .le 10, 3) := by decide +kernel
theorem dX1_next_158 : decode cX1_next 158 = .ok (.aload_n 0, 1) := by decide +kernel
theorem dX1_next_159 : decode cX1_next 159 = .ok (.invokevirtual 44, 3) := by decide +kernel
theorem dX1_next_162 : decode cX1_next 162 = .ok (.goto 7, 3) := by decide +kernel
theorem dX1_next_165 : decode cX1_next 165 = .ok (.aload_n 0, 1) := by decide +kernel
theorem dX1_next_166 : decode cX1_next 166 = .ok (.invokevirtual 48, 3) := by decide +kernel
theorem dX1_next_169 : decode cX1_next 169 = .ok (.putfield 37, 3) := by decide +kernel
theorem dX1_next_172 : decode cX1_next 172 = .ok (.return_, 1) := by decide +kernel
theorem dX1_isSign_0 : decode cX1_isSign 0 = .ok (.aload_n 0, 1) := by decide +kernel
theorem dX1_isSign_1 : decode cX1_isSign 1 = .ok (.getfield 37, 3) := by decide +kernel
theorem dX1_isSign_4 : decode cX1_isSign 4 = .ok (.iconst 4, 1) := by decide +kernel
theorem dX1_isSign_5 : decode cX1_isSign 5 = .ok (.if_icmp .ne 31, 3) := by decide +kernel
theorem dX1_isSign_8 : decode cX1_isSign 8 = .ok (.aload_n 0, 1) := by decide +kernel
theorem dX1_isSign_9 : decode cX1_isSign 9 = .ok (.getfield 34, 3) := by decide +kernel
theorem dX1_isSign_12 : decode cX1_isSign 12 = .ok (.aload_n 0, 1) := by decide +kernel
theorem dX1_isSign_13 : decode cX1_isSign 13 = .ok (.getfield 24, 3) := by decide +kernel
theorem dX1_isSign_16 : decode cX1_isSign 16 = .ok (.if_icmp .ge 20, 3) := by decide +kernel
theorem dX1_isSign_19 : decode cX1_isSign 19 = .ok (.aload_n 0, 1) := by decide +kernel
theorem dX1_isSign_20 : decode cX1_isSign 20 = .ok (.getfield 9, 3) := by decide +kernel
theorem dX1_isSign_23 : decode cX1_isSign 23 = .ok (.aload_n 0, 1) := by decide +kernel
theorem dX1_isSign_24 : decode cX1_isSign 24 = .ok (.getfield 34, 3) := by decide +kernel
theorem dX1_isSign_27 : decode cX1_isSign 27 = .ok (.baload, 1) := by decide +kernel
theorem dX1_isSign_28 : decode cX1_isSign 28 = .ok (.iload_n 1, 1) := by decide +kernel
theorem dX1_isSign_29 : decode cX1_isSign 29 = .ok (.if_icmp .ne 7, 3) := by decide +kernel
theorem dX1_isSign_32 : decode cX1_isSign 32 = .ok (.iconst 1, 1) := by decide +kernel
theorem dX1_isSign_33 : decode cX1_isSign 33 = .ok (.goto 4, 3) := by decide +kernel
theorem dX1_isSign_36 : decode cX1_isSign 36 = .ok (.iconst 0, 1) := by decide +kernel
theorem dX1_isSign_37 : decode cX1_isSign 37 = .ok (.ireturn, 1) := by decide +kernel
theorem dX1_variable_0 : decode cX1_variable 0 = .ok (.aload_n 0, 1) := by decide +kernel
theorem dX1_variable_1 : decode cX1_variable 1 = .ok (.getfield 37, 3) := by decide +kernel
theorem dX1_variable_4 : decode cX1_variable 4 = .ok (.iconst 2, 1) := by decide +kernel
theorem dX1_variable_5 : decode cX1_variable 5 = .ok (.if_icmp .ne 42, 3) := by decide +kernel
theorem dX1_variable_8 : decode cX1_variable 8 = .ok (.aload_n 0, 1) := by decide +kernel
theorem dX1_variable_9 : decode cX1_variable 9 = .ok (.getfield 31, 3) := by decide +kernel
theorem dX1_variable_12 : decode cX1_variable 12 = .ok (.aload_n 0, 1) := by decide +kernel
theorem dX1_variable_13 : decode cX1_variable 13 = .ok (.getfield 34, 3) := by decide +kernel
theorem dX1_variable_16 : decode cX1_variable 16 = .ok (.isub, 1) := by decide +kernel
theorem dX1_variable_17 : decode cX1_variable 17 = .ok (.iconst 1, 1) := by decide +kernel
theorem dX1_variable_18 : decode cX1_variable 18 = .ok (.if_icmp .ne 29, 3) := by decide +kernel
theorem dX1_variable_21 : decode cX1_variable 21 = .ok (.aload_n 0, 1) := by decide +kernel
theorem dX1_variable_22 : decode cX1_variable 22 = .ok (.getfield 34, 3) := by decide +kernel
theorem dX1_variable_25 : decode cX1_variable 25 = .ok (.aload_n 0, 1) := by decide +kernel
theorem dX1_variable_26 : decode cX1_variable 26 = .ok (.getfield 24, 3) := by decide +kernel
theorem dX1_variable_29 : decode cX1_variable 29 = .ok (.if_icmp .ge 18, 3) := by decide +kernel
theorem dX1_variable_32 : decode cX1_variable 32 = .ok (.aload_n 0, 1) := by decide +kernel
theorem dX1_variable_33 : decode cX1_variable 33 = .ok (.getfield 9, 3) := by decide +kernel
theorem dX1_variable_36 : decode cX1_variable 36 = .ok (.aload_n 0, 1) := by decide +kernel
theorem dX1_variable_37 : decode cX1_variable 37 = .ok (.getfield 34, 3) := by decide +kernel
theorem dX1_variable_40 : decode cX1_variable 40 = .ok (.baload, 1) := by decide +kernel
theorem dX1_variable_41 : decode cX1_variable 41 = .ok (.bipush 97, 2) := by decide +kernel
theorem dX1_variable_43 : decode cX1_variable 43 = .ok (.isub, 1) := by decide +kernel
theorem dX1_variable_44 : decode cX1_variable 44 = .ok (.goto 4, 3) := by decide +kernel
theorem dX1_variable_47 : decode cX1_variable 47 = .ok (.iconst (-1), 1) := by decide +kernel
theorem dX1_variable_48 : decode cX1_variable 48 = .ok (.ireturn, 1) := by decide +kernel
theorem dX1_isPart_0 : decode cX1_isPart 0 = .ok (.iload_n 3, 1) := by decide +kernel
theorem dX1_isPart_1 : decode cX1_isPart 1 = .ok (.iload_n 2, 1) := by decide +kernel
theorem dX1_isPart_2 : decode cX1_isPart 2 = .ok (.isub, 1) := by decide +kernel
theorem dX1_isPart_3 : decode cX1_isPart 3 = .ok (.aload_n 0, 1) := by decide +kernel
theorem dX1_isPart_4 : decode cX1_isPart 4 = .ok (.getfield 31, 3) := by decide +kernel
theorem dX1_isPart_7 : decode cX1_isPart 7 = .ok (.aload_n 0, 1) := by decide +kernel
theorem dX1_isPart_8 : decode cX1_isPart 8 = .ok (.getfield 34, 3) := by decide +kernel
theorem dX1_isPart_11 : decode cX1_isPart 11 = .ok (.isub, 1) := by decide +kernel
theorem dX1_isPart_12 : decode cX1_isPart 12 = .ok (.if_icmp .ne 14, 3) := by decide +kernel
theorem dX1_isPart_15 : decode cX1_isPart 15 = .ok (.aload_n 0, 1) := by decide +kernel
theorem dX1_isPart_16 : decode cX1_isPart 16 = .ok (.getfield 31, 3) := by decide +kernel
theorem dX1_isPart_19 : decode cX1_isPart 19 = .ok (.aload_n 0, 1) := by decide +kernel
theorem dX1_isPart_20 : decode cX1_isPart 20 = .ok (.getfield 24, 3) := by decide +kernel
theorem dX1_isPart_23 : decode cX1_isPart 23 = .ok (.if_icmp .le 5, 3) := by decide +kernel
theorem dX1_isPart_26 : decode cX1_isPart 26 = .ok (.iconst 0, 1) := by decide +kernel
theorem dX1_isPart_27 : decode cX1_isPart 27 = .ok (.ireturn, 1) := by decide +kernel
theorem dX1_isPart_28 : decode cX1_isPart 28 = .ok (.iconst 0, 1) := by decide +kernel
theorem dX1_isPart_29 : decode cX1_isPart 29 = .ok (.istore 4, 2) := by decide +kernel
theorem dX1_isPart_31 : decode cX1_isPart 31 = .ok (.iload_n 2, 1) := by decide +kernel
theorem dX1_isPart_32 : decode cX1_isPart 32 = .ok (.iload 4, 2) := by decide +kernel
theorem dX1_isPart_34 : decode cX1_isPart 34 = .ok (.iadd, 1) := by decide +kernel
theorem dX1_isPart_35 : decode cX1_isPart 35 = .ok (.iload_n 3, 1) := by decide +kernel
theorem dX1_isPart_36 : decode cX1_isPart 36 = .ok (.if_icmp .ge 34, 3) := by decide +kernel
theorem dX1_isPart_39 : decode cX1_isPart 39 = .ok (.aload_n 1, 1) := by decide +kernel
theorem dX1_isPart_40 : decode cX1_isPart 40 = .ok (.iload_n 2, 1) := by decide +kernel
theorem dX1_isPart_41 : decode cX1_isPart 41 = .ok (.iload 4, 2) := by decide +kernel
theorem dX1_isPart_43 : decode cX1_isPart 43 = .ok (.iadd, 1) := by decide +kernel
theorem dX1_isPart_44 : decode cX1_isPart 44 = .ok (.invokevirtual 71, 3) := by decide +kernel
theorem dX1_isPart_47 : decode cX1_isPart 47 = .ok (.aload_n 0, 1) := by decide +kernel
theorem dX1_isPart_48 : decode cX1_isPart 48 = .ok (.getfield 9, 3) := by decide +kernel
theorem dX1_isPart_51 : decode cX1_isPart 51 = .ok (.aload_n 0, 1) := by decide +kernel
theorem dX1_isPart_52 : decode cX1_isPart 52 = .ok (.getfield 34, 3) := by decide +kernel
theorem dX1_isPart_55 : decode cX1_isPart 55 = .ok (.iload 4, 2) := by decide +kernel
theorem dX1_isPart_57 : decode cX1_isPart 57 = .ok (.iadd, 1) := by decide +kernel
theorem dX1_isPart_58 : decode cX1_isPart 58 = .ok (.baload, 1) := by decide +kernel
theorem dX1_isPart_59 : decode cX1_isPart 59 = .ok (.if_icmp .eq 5, 3) := by decide +kernel
theorem dX1_isPart_62 : decode cX1_isPart 62 = .ok (.iconst 0, 1) := by decide +kernel
theorem dX1_isPart_63 : decode cX1_isPart 63 = .ok (.ireturn, 1) := by decide +kernel
theorem dX1_isPart_64 : decode cX1_isPart 64 = .ok (.iinc 4 1, 3) := by decide +kernel
theorem dX1_isPart_67 : decode cX1_isPart 67 = .ok (.goto (-36), 3) := by decide +kernel
theorem dX1_isPart_70 : decode cX1_isPart 70 = .ok (.iconst 1, 1) := by decide +kernel
theorem dX1_isPart_71 : decode cX1_isPart 71 = .ok (.ireturn, 1) := by decide +kernel
theorem dX1_wordIn_0 : decode cX1_wordIn 0 = .ok (.aload_n 0, 1) := by decide +kernel
theorem dX1_wordIn_1 : decode cX1_wordIn 1 = .ok (.getfield 37, 3) := by decide +kernel
theorem dX1_wordIn_4 : decode cX1_wordIn 4 = .ok (.iconst 2, 1) := by decide +kernel
theorem dX1_wordIn_5 : decode cX1_wordIn 5 = .ok (.if_icmp .eq 5, 3) := by decide +kernel
theorem dX1_wordIn_8 : decode cX1_wordIn 8 = .ok (.iconst (-1), 1) := by decide +kernel
theorem dX1_wordIn_9 : decode cX1_wordIn 9 = .ok (.ireturn, 1) := by decide +kernel
theorem dX1_wordIn_10 : decode cX1_wordIn 10 = .ok (.iconst 0, 1) := by decide +kernel
theorem dX1_wordIn_11 : decode cX1_wordIn 11 = .ok (.istore_n 2, 1) := by decide +kernel
theorem dX1_wordIn_12 : decode cX1_wordIn 12 = .ok (.iconst 0, 1) := by decide +kernel
theorem dX1_wordIn_13 : decode cX1_wordIn 13 = .ok (.istore_n 3, 1) := by decide +kernel
theorem dX1_wordIn_14 : decode cX1_wordIn 14 = .ok (.iconst 0, 1) := by decide +kernel
theorem dX1_wordIn_15 : decode cX1_wordIn 15 = .ok (.istore 4, 2) := by decide +kernel
theorem dX1_wordIn_17 : decode cX1_wordIn 17 = .ok (.iload 4, 2) := by decide +kernel
theorem dX1_wordIn_19 : decode cX1_wordIn 19 = .ok (.aload_n 1, 1) := by decide +kernel
theorem dX1_wordIn_20 : decode cX1_wordIn 20 = .ok (.invokevirtual 68, 3) := by decide +kernel
theorem dX1_wordIn_23 : decode cX1_wordIn 23 = .ok (.if_icmp .gt 50, 3) := by decide +kernel
theorem dX1_wordIn_26 : decode cX1_wordIn 26 = .ok (.iload 4, 2) := by decide +kernel
theorem dX1_wordIn_28 : decode cX1_wordIn 28 = .ok (.aload_n 1, 1) := by decide +kernel
theorem dX1_wordIn_29 : decode cX1_wordIn 29 = .ok (.invokevirtual 68, 3) := by decide +kernel
theorem dX1_wordIn_32 : decode cX1_wordIn 32 = .ok (.if_icmp .eq 14, 3) := by decide +kernel
theorem dX1_wordIn_35 : decode cX1_wordIn 35 = .ok (.aload_n 1, 1) := by decide +kernel
theorem dX1_wordIn_36 : decode cX1_wordIn 36 = .ok (.iload 4, 2) := by decide +kernel
theorem dX1_wordIn_38 : decode cX1_wordIn 38 = .ok (.invokevirtual 71, 3) := by decide +kernel
theorem dX1_wordIn_41 : decode cX1_wordIn 41 = .ok (.bipush 32, 2) := by decide +kernel
theorem dX1_wordIn_43 : decode cX1_wordIn 43 = .ok (.if_icmp .ne 24, 3) := by decide +kernel
theorem dX1_wordIn_46 : decode cX1_wordIn 46 = .ok (.aload_n 0, 1) := by decide +kernel
theorem dX1_wordIn_47 : decode cX1_wordIn 47 = .ok (.aload_n 1, 1) := by decide +kernel
theorem dX1_wordIn_48 : decode cX1_wordIn 48 = .ok (.iload_n 3, 1) := by decide +kernel
theorem dX1_wordIn_49 : decode cX1_wordIn 49 = .ok (.iload 4, 2) := by decide +kernel
theorem dX1_wordIn_51 : decode cX1_wordIn 51 = .ok (.invokevirtual 75, 3) := by decide +kernel
theorem dX1_wordIn_54 : decode cX1_wordIn 54 = .ok (.ifCond .eq 5, 3) := by decide +kernel
theorem dX1_wordIn_57 : decode cX1_wordIn 57 = .ok (.iload_n 2, 1) := by decide +kernel
theorem dX1_wordIn_58 : decode cX1_wordIn 58 = .ok (.ireturn, 1) := by decide +kernel
theorem dX1_wordIn_59 : decode cX1_wordIn 59 = .ok (.iinc 2 1, 3) := by decide +kernel
theorem dX1_wordIn_62 : decode cX1_wordIn 62 = .ok (.iload 4, 2) := by decide +kernel
theorem dX1_wordIn_64 : decode cX1_wordIn 64 = .ok (.iconst 1, 1) := by decide +kernel
theorem dX1_wordIn_65 : decode cX1_wordIn 65 = .ok (.iadd, 1) := by decide +kernel
theorem dX1_wordIn_66 : decode cX1_wordIn 66 = .ok (.istore_n 3, 1) := by decide +kernel
theorem dX1_wordIn_67 : decode cX1_wordIn 67 = .ok (.iinc 4 1, 3) := by decide +kernel
theorem dX1_wordIn_70 : decode cX1_wordIn 70 = .ok (.goto (-53), 3) := by decide +kernel
theorem dX1_wordIn_73 : decode cX1_wordIn 73 = .ok (.iconst (-1), 1) := by decide +kernel
theorem dX1_wordIn_74 : decode cX1_wordIn 74 = .ok (.ireturn, 1) := by decide +kernel
theorem dX1_isWord_0 : decode cX1_isWord 0 = .ok (.aload_n 0, 1) := by decide +kernel
theorem dX1_isWord_1 : decode cX1_isWord 1 = .ok (.aload_n 1, 1) := by decide +kernel
theorem dX1_isWord_2 : decode cX1_isWord 2 = .ok (.invokevirtual 64, 3) := by decide +kernel
theorem dX1_isWord_5 : decode cX1_isWord 5 = .ok (.ifCond .ne 7, 3) := by decide +kernel
theorem dX1_isWord_8 : decode cX1_isWord 8 = .ok (.iconst 1, 1) := by decide +kernel
theorem dX1_isWord_9 : decode cX1_isWord 9 = .ok (.goto 4, 3) := by decide +kernel
theorem dX1_isWord_12 : decode cX1_isWord 12 = .ok (.iconst 0, 1) := by decide +kernel
theorem dX1_isWord_13 : decode cX1_isWord 13 = .ok (.ireturn, 1) := by decide +kernel
theorem dX1_numberKind_0 : decode cX1_numberKind 0 = .ok (.aload_n 0, 1) := by decide +kernel
theorem dX1_numberKind_1 : decode cX1_numberKind 1 = .ok (.getfield 34, 3) := by decide +kernel
theorem dX1_numberKind_4 : decode cX1_numberKind 4 = .ok (.aload_n 0, 1) := by decide +kernel
theorem dX1_numberKind_5 : decode cX1_numberKind 5 = .ok (.getfield 51, 3) := by decide +kernel
theorem dX1_numberKind_8 : decode cX1_numberKind 8 = .ok (.iadd, 1) := by decide +kernel
theorem dX1_numberKind_9 : decode cX1_numberKind 9 = .ok (.aload_n 0, 1) := by decide +kernel
theorem dX1_numberKind_10 : decode cX1_numberKind 10 = .ok (.getfield 31, 3) := by decide +kernel
theorem dX1_numberKind_13 : decode cX1_numberKind 13 = .ok (.if_icmp .ge 26, 3) := by decide +kernel
theorem dX1_numberKind_16 : decode cX1_numberKind 16 = .ok (.ldc 54, 2) := by decide +kernel
theorem dX1_numberKind_18 : decode cX1_numberKind 18 = .ok (.aload_n 0, 1) := by decide +kernel
theorem dX1_numberKind_19 : decode cX1_numberKind 19 = .ok (.getfield 9, 3) := by decide +kernel
theorem dX1_numberKind_22 : decode cX1_numberKind 22 = .ok (.aload_n 0, 1) := by decide +kernel
theorem dX1_numberKind_23 : decode cX1_numberKind 23 = .ok (.getfield 34, 3) := by decide +kernel
theorem dX1_numberKind_26 : decode cX1_numberKind 26 = .ok (.aload_n 0, 1) := by decide +kernel
theorem dX1_numberKind_27 : decode cX1_numberKind 27 = .ok (.getfield 51, 3) := by decide +kernel
theorem dX1_numberKind_30 : decode cX1_numberKind 30 = .ok (.iadd, 1) := by decide +kernel
theorem dX1_numberKind_31 : decode cX1_numberKind 31 = .ok (.baload, 1) := by decide +kernel
theorem dX1_numberKind_32 : decode cX1_numberKind 32 = .ok (.i2c, 1) := by decide +kernel
theorem dX1_numberKind_33 : decode cX1_numberKind 33 = .ok (.invokevirtual 56, 3) := by decide +kernel
theorem dX1_numberKind_36 : decode cX1_numberKind 36 = .ok (.goto 4, 3) := by decide +kernel
theorem dX1_numberKind_39 : decode cX1_numberKind 39 = .ok (.iconst 4, 1) := by decide +kernel
theorem dX1_numberKind_40 : decode cX1_numberKind 40 = .ok (.ireturn, 1) := by decide +kernel
theorem dX1_magnitude_0 : decode cX1_magnitude 0 = .ok (.lconst 0, 1) := by decide +kernel
theorem dX1_magnitude_1 : decode cX1_magnitude 1 = .ok (.lstore_n 1, 1) := by decide +kernel
theorem dX1_magnitude_2 : decode cX1_magnitude 2 = .ok (.aload_n 0, 1) := by decide +kernel
theorem dX1_magnitude_3 : decode cX1_magnitude 3 = .ok (.getfield 34, 3) := by decide +kernel
theorem dX1_magnitude_6 : decode cX1_magnitude 6 = .ok (.istore_n 3, 1) := by decide +kernel
theorem dX1_magnitude_7 : decode cX1_magnitude 7 = .ok (.iload_n 3, 1) := by decide +kernel
theorem dX1_magnitude_8 : decode cX1_magnitude 8 = .ok (.aload_n 0, 1) := by decide +kernel
theorem dX1_magnitude_9 : decode cX1_magnitude 9 = .ok (.getfield 34, 3) := by decide +kernel
theorem dX1_magnitude_12 : decode cX1_magnitude 12 = .ok (.aload_n 0, 1) := by decide +kernel
theorem dX1_magnitude_13 : decode cX1_magnitude 13 = .ok (.getfield 51, 3) := by decide +kernel
theorem dX1_magnitude_16 : decode cX1_magnitude 16 = .ok (.iadd, 1) := by decide +kernel
theorem dX1_magnitude_17 : decode cX1_magnitude 17 = .ok (.if_icmp .ge 34, 3) := by decide +kernel
theorem dX1_magnitude_20 : decode cX1_magnitude 20 = .ok (.iload_n 3, 1) := by decide +kernel
theorem dX1_magnitude_21 : decode cX1_magnitude 21 = .ok (.aload_n 0, 1) := by decide +kernel
theorem dX1_magnitude_22 : decode cX1_magnitude 22 = .ok (.getfield 24, 3) := by decide +kernel
theorem dX1_magnitude_25 : decode cX1_magnitude 25 = .ok (.if_icmp .ge 26, 3) := by decide +kernel
theorem dX1_magnitude_28 : decode cX1_magnitude 28 = .ok (.lload_n 1, 1) := by decide +kernel
theorem dX1_magnitude_29 : decode cX1_magnitude 29 = .ok (.ldc2_w 81, 3) := by decide +kernel
theorem dX1_magnitude_32 : decode cX1_magnitude 32 = .ok (.lmul, 1) := by decide +kernel
theorem dX1_magnitude_33 : decode cX1_magnitude 33 = .ok (.aload_n 0, 1) := by decide +kernel
theorem dX1_magnitude_34 : decode cX1_magnitude 34 = .ok (.getfield 9, 3) := by decide +kernel
theorem dX1_magnitude_37 : decode cX1_magnitude 37 = .ok (.iload_n 3, 1) := by decide +kernel
theorem dX1_magnitude_38 : decode cX1_magnitude 38 = .ok (.baload, 1) := by decide +kernel
theorem dX1_magnitude_39 : decode cX1_magnitude 39 = .ok (.bipush 48, 2) := by decide +kernel
theorem dX1_magnitude_41 : decode cX1_magnitude 41 = .ok (.isub, 1) := by decide +kernel
theorem dX1_magnitude_42 : decode cX1_magnitude 42 = .ok (.i2l, 1) := by decide +kernel
theorem dX1_magnitude_43 : decode cX1_magnitude 43 = .ok (.ladd, 1) := by decide +kernel
theorem dX1_magnitude_44 : decode cX1_magnitude 44 = .ok (.lstore_n 1, 1) := by decide +kernel
theorem dX1_magnitude_45 : decode cX1_magnitude 45 = .ok (.iinc 3 1, 3) := by decide +kernel
theorem dX1_magnitude_48 : decode cX1_magnitude 48 = .ok (.goto (-41), 3) := by decide +kernel
theorem dX1_magnitude_51 : decode cX1_magnitude 51 = .ok (.lload_n 1, 1) := by decide +kernel
theorem dX1_magnitude_52 : decode cX1_magnitude 52 = .ok (.lreturn, 1) := by decide +kernel
theorem dX1_spelledFrom_0 : decode cX1_spelledFrom 0 = .ok (.aload_n 0, 1) := by decide +kernel
theorem dX1_spelledFrom_1 : decode cX1_spelledFrom 1 = .ok (.getfield 34, 3) := by decide +kernel
theorem dX1_spelledFrom_4 : decode cX1_spelledFrom 4 = .ok (.istore_n 1, 1) := by decide +kernel
theorem dX1_spelledFrom_5 : decode cX1_spelledFrom 5 = .ok (.aload_n 0, 1) := by decide +kernel
theorem dX1_spelledFrom_6 : decode cX1_spelledFrom 6 = .ok (.getfield 37, 3) := by decide +kernel
theorem dX1_spelledFrom_9 : decode cX1_spelledFrom 9 = .ok (.iconst 3, 1) := by decide +kernel
theorem dX1_spelledFrom_10 : decode cX1_spelledFrom 10 = .ok (.if_icmp .ne 35, 3) := by decide +kernel
theorem dX1_spelledFrom_13 : decode cX1_spelledFrom 13 = .ok (.iload_n 1, 1) := by decide +kernel
theorem dX1_spelledFrom_14 : decode cX1_spelledFrom 14 = .ok (.iconst 1, 1) := by decide +kernel
theorem dX1_spelledFrom_15 : decode cX1_spelledFrom 15 = .ok (.iadd, 1) := by decide +kernel
theorem dX1_spelledFrom_16 : decode cX1_spelledFrom 16 = .ok (.aload_n 0, 1) := by decide +kernel
theorem dX1_spelledFrom_17 : decode cX1_spelledFrom 17 = .ok (.getfield 34, 3) := by decide +kernel
theorem dX1_spelledFrom_20 : decode cX1_spelledFrom 20 = .ok (.aload_n 0, 1) := by decide +kernel
theorem dX1_spelledFrom_21 : decode cX1_spelledFrom 21 = .ok (.getfield 51, 3) := by decide +kernel
theorem dX1_spelledFrom_24 : decode cX1_spelledFrom 24 = .ok (.iadd, 1) := by decide +kernel
theorem dX1_spelledFrom_25 : decode cX1_spelledFrom 25 = .ok (.if_icmp .ge 20, 3) := by decide +kernel
theorem dX1_spelledFrom_28 : decode cX1_spelledFrom 28 = .ok (.aload_n 0, 1) := by decide +kernel
theorem dX1_spelledFrom_29 : decode cX1_spelledFrom 29 = .ok (.getfield 9, 3) := by decide +kernel
theorem dX1_spelledFrom_32 : decode cX1_spelledFrom 32 = .ok (.iload_n 1, 1) := by decide +kernel
theorem dX1_spelledFrom_33 : decode cX1_spelledFrom 33 = .ok (.baload, 1) := by decide +kernel
theorem dX1_spelledFrom_34 : decode cX1_spelledFrom 34 = .ok (.bipush 48, 2) := by decide +kernel
theorem dX1_spelledFrom_36 : decode cX1_spelledFrom 36 = .ok (.if_icmp .ne 9, 3) := by decide +kernel
theorem dX1_spelledFrom_39 : decode cX1_spelledFrom 39 = .ok (.iinc 1 1, 3) := by decide +kernel
theorem dX1_spelledFrom_42 : decode cX1_spelledFrom 42 = .ok (.goto (-29), 3) := by decide +kernel
theorem dX1_spelledFrom_45 : decode cX1_spelledFrom 45 = .ok (.iload_n 1, 1) := by decide +kernel
theorem dX1_spelledFrom_46 : decode cX1_spelledFrom 46 = .ok (.ireturn, 1) := by decide +kernel
theorem dX1_byteAt_0 : decode cX1_byteAt 0 = .ok (.iload_n 1, 1) := by decide +kernel
theorem dX1_byteAt_1 : decode cX1_byteAt 1 = .ok (.ifCond .lt 20, 3) := by decide +kernel
theorem dX1_byteAt_4 : decode cX1_byteAt 4 = .ok (.iload_n 1, 1) := by decide +kernel
theorem dX1_byteAt_5 : decode cX1_byteAt 5 = .ok (.aload_n 0, 1) := by decide +kernel
theorem dX1_byteAt_6 : decode cX1_byteAt 6 = .ok (.getfield 24, 3) := by decide +kernel
theorem dX1_byteAt_9 : decode cX1_byteAt 9 = .ok (.if_icmp .ge 12, 3) := by decide +kernel
theorem dX1_byteAt_12 : decode cX1_byteAt 12 = .ok (.aload_n 0, 1) := by decide +kernel
theorem dX1_byteAt_13 : decode cX1_byteAt 13 = .ok (.getfield 9, 3) := by decide +kernel
theorem dX1_byteAt_16 : decode cX1_byteAt 16 = .ok (.iload_n 1, 1) := by decide +kernel
theorem dX1_byteAt_17 : decode cX1_byteAt 17 = .ok (.baload, 1) := by decide +kernel
theorem dX1_byteAt_18 : decode cX1_byteAt 18 = .ok (.goto 4, 3) := by decide +kernel
theorem dX1_byteAt_21 : decode cX1_byteAt 21 = .ok (.iconst 0, 1) := by decide +kernel
theorem dX1_byteAt_22 : decode cX1_byteAt 22 = .ok (.ireturn, 1) := by decide +kernel

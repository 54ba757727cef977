theorem dX4_runAll_0 : decode cX4_runAll 0 = .ok (.aload_n 0, 1) := by decide +kernel
theorem dX4_runAll_1 : decode cX4_runAll 1 = .ok (.invokevirtual 74, 3) := by decide +kernel
theorem dX4_runAll_4 : decode cX4_runAll 4 = .ok (.iconst 0, 1) := by decide +kernel
theorem dX4_runAll_5 : decode cX4_runAll 5 = .ok (.istore_n 2, 1) := by decide +kernel
theorem dX4_runAll_6 : decode cX4_runAll 6 = .ok (.iload_n 2, 1) := by decide +kernel
theorem dX4_runAll_7 : decode cX4_runAll 7 = .ok (.aload_n 1, 1) := by decide +kernel
theorem dX4_runAll_8 : decode cX4_runAll 8 = .ok (.getfield 77, 3) := by decide +kernel
theorem dX4_runAll_11 : decode cX4_runAll 11 = .ok (.if_icmp .ge 115, 3) := by decide +kernel
theorem dX4_runAll_14 : decode cX4_runAll 14 = .ok (.iload_n 2, 1) := by decide +kernel
theorem dX4_runAll_15 : decode cX4_runAll 15 = .ok (.bipush 100, 2) := by decide +kernel
theorem dX4_runAll_17 : decode cX4_runAll 17 = .ok (.if_icmp .ge 109, 3) := by decide +kernel
theorem dX4_runAll_20 : decode cX4_runAll 20 = .ok (.aload_n 1, 1) := by decide +kernel
theorem dX4_runAll_21 : decode cX4_runAll 21 = .ok (.iload_n 2, 1) := by decide +kernel
theorem dX4_runAll_22 : decode cX4_runAll 22 = .ok (.invokevirtual 82, 3) := by decide +kernel
theorem dX4_runAll_25 : decode cX4_runAll 25 = .ok (.astore_n 3, 1) := by decide +kernel
theorem dX4_runAll_26 : decode cX4_runAll 26 = .ok (.aload_n 0, 1) := by decide +kernel
theorem dX4_runAll_27 : decode cX4_runAll 27 = .ok (.aload_n 3, 1) := by decide +kernel
theorem dX4_runAll_28 : decode cX4_runAll 28 = .ok (.invokevirtual 86, 3) := by decide +kernel
theorem dX4_runAll_31 : decode cX4_runAll 31 = .ok (.istore 4, 2) := by decide +kernel
theorem dX4_runAll_33 : decode cX4_runAll 33 = .ok (.aload_n 0, 1) := by decide +kernel
theorem dX4_runAll_34 : decode cX4_runAll 34 = .ok (.getfield 27, 3) := by decide +kernel
theorem dX4_runAll_37 : decode cX4_runAll 37 = .ok (.iload_n 2, 1) := by decide +kernel
theorem dX4_runAll_38 : decode cX4_runAll 38 = .ok (.iload 4, 2) := by decide +kernel
theorem dX4_runAll_40 : decode cX4_runAll 40 = .ok (.iastore, 1) := by decide +kernel
theorem dX4_runAll_41 : decode cX4_runAll 41 = .ok (.aload_n 0, 1) := by decide +kernel
theorem dX4_runAll_42 : decode cX4_runAll 42 = .ok (.dup, 1) := by decide +kernel
theorem dX4_runAll_43 : decode cX4_runAll 43 = .ok (.getfield 62, 3) := by decide +kernel
theorem dX4_runAll_46 : decode cX4_runAll 46 = .ok (.iconst 1, 1) := by decide +kernel
theorem dX4_runAll_47 : decode cX4_runAll 47 = .ok (.iadd, 1) := by decide +kernel
theorem dX4_runAll_48 : decode cX4_runAll 48 = .ok (.putfield 62, 3) := by decide +kernel
theorem dX4_runAll_51 : decode cX4_runAll 51 = .ok (.aload_n 3, 1) := by decide +kernel
theorem dX4_runAll_52 : decode cX4_runAll 52 = .ok (.getfield 90, 3) := by decide +kernel
theorem dX4_runAll_55 : decode cX4_runAll 55 = .ok (.iconst (-1), 1) := by decide +kernel
theorem dX4_runAll_56 : decode cX4_runAll 56 = .ok (.if_icmp .eq 36, 3) := by decide +kernel
theorem dX4_runAll_59 : decode cX4_runAll 59 = .ok (.aload_n 0, 1) := by decide +kernel
theorem dX4_runAll_60 : decode cX4_runAll 60 = .ok (.dup, 1) := by decide +kernel
theorem dX4_runAll_61 : decode cX4_runAll 61 = .ok (.getfield 65, 3) := by decide +kernel
theorem dX4_runAll_64 : decode cX4_runAll 64 = .ok (.iconst 1, 1) := by decide +kernel
theorem dX4_runAll_65 : decode cX4_runAll 65 = .ok (.iadd, 1) := by decide +kernel
theorem dX4_runAll_66 : decode cX4_runAll 66 = .ok (.putfield 65, 3) := by decide +kernel
theorem dX4_runAll_69 : decode cX4_runAll 69 = .ok (.aload_n 0, 1) := by decide +kernel
theorem dX4_runAll_70 : decode cX4_runAll 70 = .ok (.dup, 1) := by decide +kernel
theorem dX4_runAll_71 : decode cX4_runAll 71 = .ok (.getfield 68, 3) := by decide +kernel
theorem dX4_runAll_74 : decode cX4_runAll 74 = .ok (.aload_n 3, 1) := by decide +kernel
theorem dX4_runAll_75 : decode cX4_runAll 75 = .ok (.getfield 90, 3) := by decide +kernel
theorem dX4_runAll_78 : decode cX4_runAll 78 = .ok (.iload 4, 2) := by decide +kernel
theorem dX4_runAll_80 : decode cX4_runAll 80 = .ok (.if_icmp .ne 7, 3) := by decide +kernel
theorem dX4_runAll_83 : decode cX4_runAll 83 = .ok (.iconst 1, 1) := by decide +kernel
theorem dX4_runAll_84 : decode cX4_runAll 84 = .ok (.goto 4, 3) := by decide +kernel
theorem dX4_runAll_87 : decode cX4_runAll 87 = .ok (.iconst 0, 1) := by decide +kernel
theorem dX4_runAll_88 : decode cX4_runAll 88 = .ok (.iadd, 1) := by decide +kernel
theorem dX4_runAll_89 : decode cX4_runAll 89 = .ok (.putfield 68, 3) := by decide +kernel
theorem dX4_runAll_92 : decode cX4_runAll 92 = .ok (.iload 4, 2) := by decide +kernel
theorem dX4_runAll_94 : decode cX4_runAll 94 = .ok (.ifCond .eq 26, 3) := by decide +kernel
theorem dX4_runAll_97 : decode cX4_runAll 97 = .ok (.aload_n 3, 1) := by decide +kernel
theorem dX4_runAll_98 : decode cX4_runAll 98 = .ok (.getfield 93, 3) := by decide +kernel
theorem dX4_runAll_101 : decode cX4_runAll 101 = .ok (.iload 4, 2) := by decide +kernel
theorem dX4_runAll_103 : decode cX4_runAll 103 = .ok (.if_icmp .eq 7, 3) := by decide +kernel
theorem dX4_runAll_106 : decode cX4_runAll 106 = .ok (.iconst 1, 1) := by decide +kernel
theorem dX4_runAll_107 : decode cX4_runAll 107 = .ok (.iload_n 2, 1) := by decide +kernel
theorem dX4_runAll_108 : decode cX4_runAll 108 = .ok (.iadd, 1) := by decide +kernel
theorem dX4_runAll_109 : decode cX4_runAll 109 = .ok (.ireturn, 1) := by decide +kernel
theorem dX4_runAll_110 : decode cX4_runAll 110 = .ok (.aload_n 0, 1) := by decide +kernel
theorem dX4_runAll_111 : decode cX4_runAll 111 = .ok (.dup, 1) := by decide +kernel
theorem dX4_runAll_112 : decode cX4_runAll 112 = .ok (.getfield 71, 3) := by decide +kernel
theorem dX4_runAll_115 : decode cX4_runAll 115 = .ok (.iconst 1, 1) := by decide +kernel
theorem dX4_runAll_116 : decode cX4_runAll 116 = .ok (.iadd, 1) := by decide +kernel
theorem dX4_runAll_117 : decode cX4_runAll 117 = .ok (.putfield 71, 3) := by decide +kernel
theorem dX4_runAll_120 : decode cX4_runAll 120 = .ok (.iinc 2 1, 3) := by decide +kernel
theorem dX4_runAll_123 : decode cX4_runAll 123 = .ok (.goto (-117), 3) := by decide +kernel
theorem dX4_runAll_126 : decode cX4_runAll 126 = .ok (.iconst 0, 1) := by decide +kernel
theorem dX4_runAll_127 : decode cX4_runAll 127 = .ok (.ireturn, 1) := by decide +kernel
theorem dX2_readProgram_0 : decode cX2_readProgram 0 = .ok (.aload_n 0, 1) := by decide +kernel
theorem dX2_readProgram_1 : decode cX2_readProgram 1 = .ok (.iload_n 1, 1) := by decide +kernel
theorem dX2_readProgram_2 : decode cX2_readProgram 2 = .ok (.sipush 3000, 3) := by decide +kernel
theorem dX2_readProgram_5 : decode cX2_readProgram 5 = .ok (.invokevirtual 25, 3) := by decide +kernel
theorem dX2_readProgram_8 : decode cX2_readProgram 8 = .ok (.aload_n 2, 1) := by decide +kernel
theorem dX2_readProgram_9 : decode cX2_readProgram 9 = .ok (.iconst 0, 1) := by decide +kernel
theorem dX2_readProgram_10 : decode cX2_readProgram 10 = .ok (.putfield 29, 3) := by decide +kernel
theorem dX2_readProgram_13 : decode cX2_readProgram 13 = .ok (.iconst 0, 1) := by decide +kernel
theorem dX2_readProgram_14 : decode cX2_readProgram 14 = .ok (.istore_n 3, 1) := by decide +kernel
theorem dX2_readProgram_15 : decode cX2_readProgram 15 = .ok (.iload_n 3, 1) := by decide +kernel
theorem dX2_readProgram_16 : decode cX2_readProgram 16 = .ok (.bipush 100, 2) := by decide +kernel
theorem dX2_readProgram_18 : decode cX2_readProgram 18 = .ok (.if_icmp .gt 113, 3) := by decide +kernel
theorem dX2_readProgram_21 : decode cX2_readProgram 21 = .ok (.iload_n 3, 1) := by decide +kernel
theorem dX2_readProgram_22 : decode cX2_readProgram 22 = .ok (.ifCond .le 20, 3) := by decide +kernel
theorem dX2_readProgram_25 : decode cX2_readProgram 25 = .ok (.aload_n 0, 1) := by decide +kernel
theorem dX2_readProgram_26 : decode cX2_readProgram 26 = .ok (.getfield 9, 3) := by decide +kernel
theorem dX2_readProgram_29 : decode cX2_readProgram 29 = .ok (.getfield 35, 3) := by decide +kernel
theorem dX2_readProgram_32 : decode cX2_readProgram 32 = .ok (.ifCond .ne 10, 3) := by decide +kernel
theorem dX2_readProgram_35 : decode cX2_readProgram 35 = .ok (.aload_n 2, 1) := by decide +kernel
theorem dX2_readProgram_36 : decode cX2_readProgram 36 = .ok (.iload_n 3, 1) := by decide +kernel
theorem dX2_readProgram_37 : decode cX2_readProgram 37 = .ok (.putfield 29, 3) := by decide +kernel
theorem dX2_readProgram_40 : decode cX2_readProgram 40 = .ok (.iconst 1, 1) := by decide +kernel
theorem dX2_readProgram_41 : decode cX2_readProgram 41 = .ok (.ireturn, 1) := by decide +kernel
theorem dX2_readProgram_42 : decode cX2_readProgram 42 = .ok (.iload_n 3, 1) := by decide +kernel
theorem dX2_readProgram_43 : decode cX2_readProgram 43 = .ok (.bipush 100, 2) := by decide +kernel
theorem dX2_readProgram_45 : decode cX2_readProgram 45 = .ok (.if_icmp .ne 20, 3) := by decide +kernel
theorem dX2_readProgram_48 : decode cX2_readProgram 48 = .ok (.aload_n 0, 1) := by decide +kernel
theorem dX2_readProgram_49 : decode cX2_readProgram 49 = .ok (.aload_n 0, 1) := by decide +kernel
theorem dX2_readProgram_50 : decode cX2_readProgram 50 = .ok (.invokevirtual 40, 3) := by decide +kernel
theorem dX2_readProgram_53 : decode cX2_readProgram 53 = .ok (.ifCond .eq 7, 3) := by decide +kernel
theorem dX2_readProgram_56 : decode cX2_readProgram 56 = .ok (.iconst 4, 1) := by decide +kernel
theorem dX2_readProgram_57 : decode cX2_readProgram 57 = .ok (.goto 4, 3) := by decide +kernel
theorem dX2_readProgram_60 : decode cX2_readProgram 60 = .ok (.iconst 2, 1) := by decide +kernel
theorem dX2_readProgram_61 : decode cX2_readProgram 61 = .ok (.invokevirtual 44, 3) := by decide +kernel
theorem dX2_readProgram_64 : decode cX2_readProgram 64 = .ok (.ireturn, 1) := by decide +kernel
theorem dX2_readProgram_65 : decode cX2_readProgram 65 = .ok (.aload_n 0, 1) := by decide +kernel
theorem dX2_readProgram_66 : decode cX2_readProgram 66 = .ok (.aload_n 2, 1) := by decide +kernel
theorem dX2_readProgram_67 : decode cX2_readProgram 67 = .ok (.iload_n 3, 1) := by decide +kernel
theorem dX2_readProgram_68 : decode cX2_readProgram 68 = .ok (.invokevirtual 48, 3) := by decide +kernel
theorem dX2_readProgram_71 : decode cX2_readProgram 71 = .ok (.putfield 22, 3) := by decide +kernel
theorem dX2_readProgram_74 : decode cX2_readProgram 74 = .ok (.aload_n 0, 1) := by decide +kernel
theorem dX2_readProgram_75 : decode cX2_readProgram 75 = .ok (.getfield 22, 3) := by decide +kernel
theorem dX2_readProgram_78 : decode cX2_readProgram 78 = .ok (.aload_n 0, 1) := by decide +kernel
theorem dX2_readProgram_79 : decode cX2_readProgram 79 = .ok (.getfield 9, 3) := by decide +kernel
theorem dX2_readProgram_82 : decode cX2_readProgram 82 = .ok (.getfield 52, 3) := by decide +kernel
theorem dX2_readProgram_85 : decode cX2_readProgram 85 = .ok (.invokevirtual 55, 3) := by decide +kernel
theorem dX2_readProgram_88 : decode cX2_readProgram 88 = .ok (.aload_n 0, 1) := by decide +kernel
theorem dX2_readProgram_89 : decode cX2_readProgram 89 = .ok (.invokevirtual 59, 3) := by decide +kernel
theorem dX2_readProgram_92 : decode cX2_readProgram 92 = .ok (.ifCond .eq 31, 3) := by decide +kernel
theorem dX2_readProgram_95 : decode cX2_readProgram 95 = .ok (.aload_n 0, 1) := by decide +kernel
theorem dX2_readProgram_96 : decode cX2_readProgram 96 = .ok (.invokevirtual 62, 3) := by decide +kernel
theorem dX2_readProgram_99 : decode cX2_readProgram 99 = .ok (.ifCond .eq 24, 3) := by decide +kernel
theorem dX2_readProgram_102 : decode cX2_readProgram 102 = .ok (.aload_n 0, 1) := by decide +kernel
theorem dX2_readProgram_103 : decode cX2_readProgram 103 = .ok (.invokevirtual 65, 3) := by decide +kernel
theorem dX2_readProgram_106 : decode cX2_readProgram 106 = .ok (.ifCond .eq 17, 3) := by decide +kernel
theorem dX2_readProgram_109 : decode cX2_readProgram 109 = .ok (.aload_n 0, 1) := by decide +kernel
theorem dX2_readProgram_110 : decode cX2_readProgram 110 = .ok (.aload_n 0, 1) := by decide +kernel
theorem dX2_readProgram_111 : decode cX2_readProgram 111 = .ok (.getfield 22, 3) := by decide +kernel
theorem dX2_readProgram_114 : decode cX2_readProgram 114 = .ok (.invokestatic 68, 3) := by decide +kernel
theorem dX2_readProgram_117 : decode cX2_readProgram 117 = .ok (.invokevirtual 72, 3) := by decide +kernel
theorem dX2_readProgram_120 : decode cX2_readProgram 120 = .ok (.ifCond .ne 5, 3) := by decide +kernel
theorem dX2_readProgram_123 : decode cX2_readProgram 123 = .ok (.iconst 0, 1) := by decide +kernel
theorem dX2_readProgram_124 : decode cX2_readProgram 124 = .ok (.ireturn, 1) := by decide +kernel
theorem dX2_readProgram_125 : decode cX2_readProgram 125 = .ok (.iinc 3 1, 3) := by decide +kernel
theorem dX2_readProgram_128 : decode cX2_readProgram 128 = .ok (.goto (-113), 3) := by decide +kernel
theorem dX2_readProgram_131 : decode cX2_readProgram 131 = .ok (.iconst 0, 1) := by decide +kernel
theorem dX2_readProgram_132 : decode cX2_readProgram 132 = .ok (.ireturn, 1) := by decide +kernel
theorem dX9_feedOne_0 : decode cX9_feedOne 0 = .ok (.bipush 24, 2) := by decide +kernel
theorem dX9_feedOne_2 : decode cX9_feedOne 2 = .ok (.istore_n 2, 1) := by decide +kernel
theorem dX9_feedOne_3 : decode cX9_feedOne 3 = .ok (.iload_n 2, 1) := by decide +kernel
theorem dX9_feedOne_4 : decode cX9_feedOne 4 = .ok (.ifCond .lt 42, 3) := by decide +kernel
theorem dX9_feedOne_7 : decode cX9_feedOne 7 = .ok (.aload_n 0, 1) := by decide +kernel
theorem dX9_feedOne_8 : decode cX9_feedOne 8 = .ok (.getfield 54, 3) := by decide +kernel
theorem dX9_feedOne_11 : decode cX9_feedOne 11 = .ok (.sipush 3100, 3) := by decide +kernel
theorem dX9_feedOne_14 : decode cX9_feedOne 14 = .ok (.if_icmp .ge 32, 3) := by decide +kernel
theorem dX9_feedOne_17 : decode cX9_feedOne 17 = .ok (.aload_n 0, 1) := by decide +kernel
theorem dX9_feedOne_18 : decode cX9_feedOne 18 = .ok (.getfield 9, 3) := by decide +kernel
theorem dX9_feedOne_21 : decode cX9_feedOne 21 = .ok (.aload_n 0, 1) := by decide +kernel
theorem dX9_feedOne_22 : decode cX9_feedOne 22 = .ok (.getfield 54, 3) := by decide +kernel
theorem dX9_feedOne_25 : decode cX9_feedOne 25 = .ok (.iload_n 1, 1) := by decide +kernel
theorem dX9_feedOne_26 : decode cX9_feedOne 26 = .ok (.iload_n 2, 1) := by decide +kernel
theorem dX9_feedOne_27 : decode cX9_feedOne 27 = .ok (.ishr, 1) := by decide +kernel
theorem dX9_feedOne_28 : decode cX9_feedOne 28 = .ok (.i2b, 1) := by decide +kernel
theorem dX9_feedOne_29 : decode cX9_feedOne 29 = .ok (.bastore, 1) := by decide +kernel
theorem dX9_feedOne_30 : decode cX9_feedOne 30 = .ok (.aload_n 0, 1) := by decide +kernel
theorem dX9_feedOne_31 : decode cX9_feedOne 31 = .ok (.dup, 1) := by decide +kernel
theorem dX9_feedOne_32 : decode cX9_feedOne 32 = .ok (.getfield 54, 3) := by decide +kernel
theorem dX9_feedOne_35 : decode cX9_feedOne 35 = .ok (.iconst 1, 1) := by decide +kernel
theorem dX9_feedOne_36 : decode cX9_feedOne 36 = .ok (.iadd, 1) := by decide +kernel
theorem dX9_feedOne_37 : decode cX9_feedOne 37 = .ok (.putfield 54, 3) := by decide +kernel
theorem dX9_feedOne_40 : decode cX9_feedOne 40 = .ok (.iinc 2 (-8), 3) := by decide +kernel
theorem dX9_feedOne_43 : decode cX9_feedOne 43 = .ok (.goto (-40), 3) := by decide +kernel
theorem dX9_feedOne_46 : decode cX9_feedOne 46 = .ok (.return_, 1) := by decide +kernel
theorem dX9_feed_0 : decode cX9_feed 0 = .ok (.aload_n 0, 1) := by decide +kernel
theorem dX9_feed_1 : decode cX9_feed 1 = .ok (.getfield 54, 3) := by decide +kernel
theorem dX9_feed_4 : decode cX9_feed 4 = .ok (.sipush 3080, 3) := by decide +kernel
theorem dX9_feed_7 : decode cX9_feed 7 = .ok (.if_icmp .le 5, 3) := by decide +kernel
theorem dX9_feed_10 : decode cX9_feed 10 = .ok (.iconst (-1), 1) := by decide +kernel
theorem dX9_feed_11 : decode cX9_feed 11 = .ok (.ireturn, 1) := by decide +kernel
theorem dX9_feed_12 : decode cX9_feed 12 = .ok (.aload_n 0, 1) := by decide +kernel
theorem dX9_feed_13 : decode cX9_feed 13 = .ok (.iload_n 1, 1) := by decide +kernel
theorem dX9_feed_14 : decode cX9_feed 14 = .ok (.invokevirtual 58, 3) := by decide +kernel
theorem dX9_feed_17 : decode cX9_feed 17 = .ok (.aload_n 0, 1) := by decide +kernel
theorem dX9_feed_18 : decode cX9_feed 18 = .ok (.iload_n 2, 1) := by decide +kernel
theorem dX9_feed_19 : decode cX9_feed 19 = .ok (.invokevirtual 58, 3) := by decide +kernel
theorem dX9_feed_22 : decode cX9_feed 22 = .ok (.aload_n 0, 1) := by decide +kernel
theorem dX9_feed_23 : decode cX9_feed 23 = .ok (.iload_n 3, 1) := by decide +kernel
theorem dX9_feed_24 : decode cX9_feed 24 = .ok (.invokevirtual 58, 3) := by decide +kernel
theorem dX9_feed_27 : decode cX9_feed 27 = .ok (.aload_n 0, 1) := by decide +kernel
theorem dX9_feed_28 : decode cX9_feed 28 = .ok (.iload 4, 2) := by decide +kernel
theorem dX9_feed_30 : decode cX9_feed 30 = .ok (.invokevirtual 58, 3) := by decide +kernel
theorem dX9_feed_33 : decode cX9_feed 33 = .ok (.aload_n 0, 1) := by decide +kernel
theorem dX9_feed_34 : decode cX9_feed 34 = .ok (.iload 5, 2) := by decide +kernel
theorem dX9_feed_36 : decode cX9_feed 36 = .ok (.invokevirtual 58, 3) := by decide +kernel
theorem dX9_feed_39 : decode cX9_feed 39 = .ok (.aload_n 0, 1) := by decide +kernel
theorem dX9_feed_40 : decode cX9_feed 40 = .ok (.getfield 54, 3) := by decide +kernel
theorem dX9_feed_43 : decode cX9_feed 43 = .ok (.ireturn, 1) := by decide +kernel
theorem dX9_end_0 : decode cX9_end 0 = .ok (.iload_n 1, 1) := by decide +kernel
theorem dX9_end_1 : decode cX9_end 1 = .ok (.ifCond .lt 11, 3) := by decide +kernel
theorem dX9_end_4 : decode cX9_end 4 = .ok (.iload_n 1, 1) := by decide +kernel
theorem dX9_end_5 : decode cX9_end 5 = .ok (.aload_n 0, 1) := by decide +kernel
theorem dX9_end_6 : decode cX9_end 6 = .ok (.getfield 54, 3) := by decide +kernel
theorem dX9_end_9 : decode cX9_end 9 = .ok (.if_icmp .le 5, 3) := by decide +kernel
theorem dX9_end_12 : decode cX9_end 12 = .ok (.iconst 0, 1) := by decide +kernel
theorem dX9_end_13 : decode cX9_end 13 = .ok (.ireturn, 1) := by decide +kernel
theorem dX9_end_14 : decode cX9_end 14 = .ok (.aload_n 0, 1) := by decide +kernel
theorem dX9_end_15 : decode cX9_end 15 = .ok (.iload_n 1, 1) := by decide +kernel
theorem dX9_end_16 : decode cX9_end 16 = .ok (.putfield 54, 3) := by decide +kernel
theorem dX9_end_19 : decode cX9_end 19 = .ok (.iconst 1, 1) := by decide +kernel
theorem dX9_end_20 : decode cX9_end 20 = .ok (.ireturn, 1) := by decide +kernel
theorem dX9_fault_0 : decode cX9_fault 0 = .ok (.aload_n 0, 1) := by decide +kernel
theorem dX9_fault_1 : decode cX9_fault 1 = .ok (.getfield 69, 3) := by decide +kernel
theorem dX9_fault_4 : decode cX9_fault 4 = .ok (.ireturn, 1) := by decide +kernel
theorem dX9_look_0 : decode cX9_look 0 = .ok (.iload 5, 2) := by decide +kernel
theorem dX9_look_2 : decode cX9_look 2 = .ok (.ifCond .eq 11, 3) := by decide +kernel
theorem dX9_look_5 : decode cX9_look 5 = .ok (.iload 5, 2) := by decide +kernel
theorem dX9_look_7 : decode cX9_look 7 = .ok (.iconst 1, 1) := by decide +kernel
theorem dX9_look_8 : decode cX9_look 8 = .ok (.if_icmp .eq 5, 3) := by decide +kernel
theorem dX9_look_11 : decode cX9_look 11 = .ok (.iconst (-1), 1) := by decide +kernel
theorem dX9_look_12 : decode cX9_look 12 = .ok (.ireturn, 1) := by decide +kernel
theorem dX9_look_13 : decode cX9_look 13 = .ok (.aload_n 0, 1) := by decide +kernel
theorem dX9_look_14 : decode cX9_look 14 = .ok (.getfield 50, 3) := by decide +kernel
theorem dX9_look_17 : decode cX9_look 17 = .ok (.iload_n 1, 1) := by decide +kernel
theorem dX9_look_18 : decode cX9_look 18 = .ok (.iload_n 2, 1) := by decide +kernel
theorem dX9_look_19 : decode cX9_look 19 = .ok (.iload_n 3, 1) := by decide +kernel
theorem dX9_look_20 : decode cX9_look 20 = .ok (.iload 4, 2) := by decide +kernel
theorem dX9_look_22 : decode cX9_look 22 = .ok (.invokevirtual 128, 3) := by decide +kernel
theorem dX9_look_25 : decode cX9_look 25 = .ok (.ifCond .ne 15, 3) := by decide +kernel
theorem dX9_look_28 : decode cX9_look 28 = .ok (.iload 5, 2) := by decide +kernel
theorem dX9_look_30 : decode cX9_look 30 = .ok (.ifCond .ne 8, 3) := by decide +kernel
theorem dX9_look_33 : decode cX9_look 33 = .ok (.bipush (-2), 2) := by decide +kernel
theorem dX9_look_35 : decode cX9_look 35 = .ok (.goto 4, 3) := by decide +kernel
theorem dX9_look_38 : decode cX9_look 38 = .ok (.iconst (-1), 1) := by decide +kernel
theorem dX9_look_39 : decode cX9_look 39 = .ok (.ireturn, 1) := by decide +kernel
theorem dX9_look_40 : decode cX9_look 40 = .ok (.iload 5, 2) := by decide +kernel
theorem dX9_look_42 : decode cX9_look 42 = .ok (.ifCond .ne 16, 3) := by decide +kernel
theorem dX9_look_45 : decode cX9_look 45 = .ok (.aload_n 0, 1) := by decide +kernel
theorem dX9_look_46 : decode cX9_look 46 = .ok (.getfield 50, 3) := by decide +kernel
theorem dX9_look_49 : decode cX9_look 49 = .ok (.getfield 132, 3) := by decide +kernel
theorem dX9_look_52 : decode cX9_look 52 = .ok (.getfield 136, 3) := by decide +kernel
theorem dX9_look_55 : decode cX9_look 55 = .ok (.goto 10, 3) := by decide +kernel
theorem dX9_look_58 : decode cX9_look 58 = .ok (.aload_n 0, 1) := by decide +kernel
theorem dX9_look_59 : decode cX9_look 59 = .ok (.getfield 50, 3) := by decide +kernel
theorem dX9_look_62 : decode cX9_look 62 = .ok (.invokevirtual 141, 3) := by decide +kernel
theorem dX9_look_65 : decode cX9_look 65 = .ok (.ireturn, 1) := by decide +kernel
theorem dX9_same_0 : decode cX9_same 0 = .ok (.aload_n 0, 1) := by decide +kernel
theorem dX9_same_1 : decode cX9_same 1 = .ok (.getfield 50, 3) := by decide +kernel
theorem dX9_same_4 : decode cX9_same 4 = .ok (.iload_n 1, 1) := by decide +kernel
theorem dX9_same_5 : decode cX9_same 5 = .ok (.iload_n 2, 1) := by decide +kernel
theorem dX9_same_6 : decode cX9_same 6 = .ok (.iload_n 3, 1) := by decide +kernel
theorem dX9_same_7 : decode cX9_same 7 = .ok (.iload 4, 2) := by decide +kernel
theorem dX9_same_9 : decode cX9_same 9 = .ok (.invokevirtual 153, 3) := by decide +kernel
theorem dX9_same_12 : decode cX9_same 12 = .ok (.ireturn, 1) := by decide +kernel
theorem dX9_mark_0 : decode cX9_mark 0 = .ok (.iload_n 2, 1) := by decide +kernel
theorem dX9_mark_1 : decode cX9_mark 1 = .ok (.ifCond .ne 18, 3) := by decide +kernel
theorem dX9_mark_4 : decode cX9_mark 4 = .ok (.iload_n 1, 1) := by decide +kernel
theorem dX9_mark_5 : decode cX9_mark 5 = .ok (.ifCond .lt 14, 3) := by decide +kernel
theorem dX9_mark_8 : decode cX9_mark 8 = .ok (.iload_n 1, 1) := by decide +kernel
theorem dX9_mark_9 : decode cX9_mark 9 = .ok (.aload_n 0, 1) := by decide +kernel
theorem dX9_mark_10 : decode cX9_mark 10 = .ok (.getfield 50, 3) := by decide +kernel
theorem dX9_mark_13 : decode cX9_mark 13 = .ok (.invokevirtual 156, 3) := by decide +kernel
theorem dX9_mark_16 : decode cX9_mark 16 = .ok (.if_icmp .lt 5, 3) := by decide +kernel
theorem dX9_mark_19 : decode cX9_mark 19 = .ok (.iconst (-1), 1) := by decide +kernel
theorem dX9_mark_20 : decode cX9_mark 20 = .ok (.ireturn, 1) := by decide +kernel
theorem dX9_mark_21 : decode cX9_mark 21 = .ok (.aload_n 0, 1) := by decide +kernel
theorem dX9_mark_22 : decode cX9_mark 22 = .ok (.getfield 50, 3) := by decide +kernel
theorem dX9_mark_25 : decode cX9_mark 25 = .ok (.iload_n 1, 1) := by decide +kernel
theorem dX9_mark_26 : decode cX9_mark 26 = .ok (.invokevirtual 159, 3) := by decide +kernel
theorem dX9_mark_29 : decode cX9_mark 29 = .ok (.getfield 136, 3) := by decide +kernel
theorem dX9_mark_32 : decode cX9_mark 32 = .ok (.ireturn, 1) := by decide +kernel
theorem dX9_named_0 : decode cX9_named 0 = .ok (.aload_n 0, 1) := by decide +kernel
theorem dX9_named_1 : decode cX9_named 1 = .ok (.getfield 36, 3) := by decide +kernel
theorem dX9_named_4 : decode cX9_named 4 = .ok (.aload_n 0, 1) := by decide +kernel
theorem dX9_named_5 : decode cX9_named 5 = .ok (.getfield 54, 3) := by decide +kernel
theorem dX9_named_8 : decode cX9_named 8 = .ok (.invokevirtual 163, 3) := by decide +kernel
theorem dX9_named_11 : decode cX9_named 11 = .ok (.istore_n 1, 1) := by decide +kernel
theorem dX9_named_12 : decode cX9_named 12 = .ok (.aload_n 0, 1) := by decide +kernel
theorem dX9_named_13 : decode cX9_named 13 = .ok (.iconst 0, 1) := by decide +kernel
theorem dX9_named_14 : decode cX9_named 14 = .ok (.putfield 54, 3) := by decide +kernel
theorem dX9_named_17 : decode cX9_named 17 = .ok (.iload_n 1, 1) := by decide +kernel
theorem dX9_named_18 : decode cX9_named 18 = .ok (.ireturn, 1) := by decide +kernel
theorem dX9_name_0 : decode cX9_name 0 = .ok (.iload_n 1, 1) := by decide +kernel
theorem dX9_name_1 : decode cX9_name 1 = .ok (.invokestatic 166, 3) := by decide +kernel
theorem dX9_name_4 : decode cX9_name 4 = .ok (.ifCond .eq 11, 3) := by decide +kernel
theorem dX9_name_7 : decode cX9_name 7 = .ok (.iload_n 1, 1) := by decide +kernel
theorem dX9_name_8 : decode cX9_name 8 = .ok (.iload_n 2, 1) := by decide +kernel
theorem dX9_name_9 : decode cX9_name 9 = .ok (.invokestatic 172, 3) := by decide +kernel
theorem dX9_name_12 : decode cX9_name 12 = .ok (.goto 4, 3) := by decide +kernel
theorem dX9_name_15 : decode cX9_name 15 = .ok (.iconst (-1), 1) := by decide +kernel
theorem dX9_name_16 : decode cX9_name 16 = .ok (.ireturn, 1) := by decide +kernel
theorem dX9_below_0 : decode cX9_below 0 = .ok (.iload_n 1, 1) := by decide +kernel
theorem dX9_below_1 : decode cX9_below 1 = .ok (.invokestatic 166, 3) := by decide +kernel
theorem dX9_below_4 : decode cX9_below 4 = .ok (.ifCond .eq 22, 3) := by decide +kernel
theorem dX9_below_7 : decode cX9_below 7 = .ok (.iload_n 2, 1) := by decide +kernel
theorem dX9_below_8 : decode cX9_below 8 = .ok (.invokestatic 166, 3) := by decide +kernel
theorem dX9_below_11 : decode cX9_below 11 = .ok (.ifCond .eq 15, 3) := by decide +kernel
theorem dX9_below_14 : decode cX9_below 14 = .ok (.iload_n 1, 1) := by decide +kernel
theorem dX9_below_15 : decode cX9_below 15 = .ok (.iload_n 2, 1) := by decide +kernel
theorem dX9_below_16 : decode cX9_below 16 = .ok (.invokestatic 176, 3) := by decide +kernel
theorem dX9_below_19 : decode cX9_below 19 = .ok (.ifCond .eq 7, 3) := by decide +kernel
theorem dX9_below_22 : decode cX9_below 22 = .ok (.iconst 1, 1) := by decide +kernel
theorem dX9_below_23 : decode cX9_below 23 = .ok (.goto 4, 3) := by decide +kernel
theorem dX9_below_26 : decode cX9_below 26 = .ok (.iconst 0, 1) := by decide +kernel
theorem dX9_below_27 : decode cX9_below 27 = .ok (.ireturn, 1) := by decide +kernel
theorem dX9_stores_0 : decode cX9_stores 0 = .ok (.iload_n 1, 1) := by decide +kernel
theorem dX9_stores_1 : decode cX9_stores 1 = .ok (.invokestatic 180, 3) := by decide +kernel
theorem dX9_stores_4 : decode cX9_stores 4 = .ok (.ifCond .eq 10, 3) := by decide +kernel
theorem dX9_stores_7 : decode cX9_stores 7 = .ok (.iload_n 2, 1) := by decide +kernel
theorem dX9_stores_8 : decode cX9_stores 8 = .ok (.invokestatic 166, 3) := by decide +kernel
theorem dX9_stores_11 : decode cX9_stores 11 = .ok (.ifCond .ne 5, 3) := by decide +kernel
theorem dX9_stores_14 : decode cX9_stores 14 = .ok (.iconst (-1), 1) := by decide +kernel
theorem dX9_stores_15 : decode cX9_stores 15 = .ok (.ireturn, 1) := by decide +kernel
theorem dX9_stores_16 : decode cX9_stores 16 = .ok (.iload_n 1, 1) := by decide +kernel
theorem dX9_stores_17 : decode cX9_stores 17 = .ok (.invokestatic 183, 3) := by decide +kernel
theorem dX9_stores_20 : decode cX9_stores 20 = .ok (.iload_n 2, 1) := by decide +kernel
theorem dX9_stores_21 : decode cX9_stores 21 = .ok (.invokestatic 186, 3) := by decide +kernel
theorem dX9_stores_24 : decode cX9_stores 24 = .ok (.ireturn, 1) := by decide +kernel
theorem dX9_copies_0 : decode cX9_copies 0 = .ok (.iload_n 3, 1) := by decide +kernel
theorem dX9_copies_1 : decode cX9_copies 1 = .ok (.invokestatic 180, 3) := by decide +kernel
theorem dX9_copies_4 : decode cX9_copies 4 = .ok (.ifCond .eq 12, 3) := by decide +kernel
theorem dX9_copies_7 : decode cX9_copies 7 = .ok (.aload_n 0, 1) := by decide +kernel
theorem dX9_copies_8 : decode cX9_copies 8 = .ok (.iload_n 1, 1) := by decide +kernel
theorem dX9_copies_9 : decode cX9_copies 9 = .ok (.iload_n 2, 1) := by decide +kernel
theorem dX9_copies_10 : decode cX9_copies 10 = .ok (.invokevirtual 189, 3) := by decide +kernel
theorem dX9_copies_13 : decode cX9_copies 13 = .ok (.ifCond .eq 5, 3) := by decide +kernel
theorem dX9_copies_16 : decode cX9_copies 16 = .ok (.iconst (-1), 1) := by decide +kernel
theorem dX9_copies_17 : decode cX9_copies 17 = .ok (.ireturn, 1) := by decide +kernel
theorem dX9_copies_18 : decode cX9_copies 18 = .ok (.iload_n 1, 1) := by decide +kernel
theorem dX9_copies_19 : decode cX9_copies 19 = .ok (.iload_n 3, 1) := by decide +kernel
theorem dX9_copies_20 : decode cX9_copies 20 = .ok (.invokestatic 192, 3) := by decide +kernel
theorem dX9_copies_23 : decode cX9_copies 23 = .ok (.ifCond .eq 6, 3) := by decide +kernel
theorem dX9_copies_26 : decode cX9_copies 26 = .ok (.bipush 6, 2) := by decide +kernel
theorem dX9_copies_28 : decode cX9_copies 28 = .ok (.ireturn, 1) := by decide +kernel
theorem dX9_copies_29 : decode cX9_copies 29 = .ok (.iload_n 1, 1) := by decide +kernel
theorem dX9_copies_30 : decode cX9_copies 30 = .ok (.invokestatic 195, 3) := by decide +kernel
theorem dX9_copies_33 : decode cX9_copies 33 = .ok (.ifCond .eq 7, 3) := by decide +kernel
theorem dX9_copies_36 : decode cX9_copies 36 = .ok (.iconst 0, 1) := by decide +kernel
theorem dX9_copies_37 : decode cX9_copies 37 = .ok (.goto 11, 3) := by decide +kernel
theorem dX9_copies_40 : decode cX9_copies 40 = .ok (.iload_n 3, 1) := by decide +kernel
theorem dX9_copies_41 : decode cX9_copies 41 = .ok (.invokestatic 183, 3) := by decide +kernel
theorem dX9_copies_44 : decode cX9_copies 44 = .ok (.iload_n 2, 1) := by decide +kernel
theorem dX9_copies_45 : decode cX9_copies 45 = .ok (.invokestatic 186, 3) := by decide +kernel
theorem dX9_copies_48 : decode cX9_copies 48 = .ok (.ireturn, 1) := by decide +kernel
theorem dX9_count_0 : decode cX9_count 0 = .ok (.iload_n 1, 1) := by decide +kernel
theorem dX9_count_1 : decode cX9_count 1 = .ok (.tableswitch 48 0 2 #[27, 35, 40], 27) := by decide +kernel
theorem dX9_count_28 : decode cX9_count 28 = .ok (.aload_n 0, 1) := by decide +kernel
theorem dX9_count_29 : decode cX9_count 29 = .ok (.getfield 19, 3) := by decide +kernel
theorem dX9_count_32 : decode cX9_count 32 = .ok (.getfield 85, 3) := by decide +kernel
theorem dX9_count_35 : decode cX9_count 35 = .ok (.ireturn, 1) := by decide +kernel
theorem dX9_count_36 : decode cX9_count 36 = .ok (.aload_n 0, 1) := by decide +kernel
theorem dX9_count_37 : decode cX9_count 37 = .ok (.getfield 54, 3) := by decide +kernel
theorem dX9_count_40 : decode cX9_count 40 = .ok (.ireturn, 1) := by decide +kernel
theorem dX9_count_41 : decode cX9_count 41 = .ok (.aload_n 0, 1) := by decide +kernel
theorem dX9_count_42 : decode cX9_count 42 = .ok (.getfield 43, 3) := by decide +kernel
theorem dX9_count_45 : decode cX9_count 45 = .ok (.getfield 113, 3) := by decide +kernel
theorem dX9_count_48 : decode cX9_count 48 = .ok (.ireturn, 1) := by decide +kernel
theorem dX9_count_49 : decode cX9_count 49 = .ok (.aload_n 0, 1) := by decide +kernel
theorem dX9_count_50 : decode cX9_count 50 = .ok (.getfield 50, 3) := by decide +kernel
theorem dX9_count_53 : decode cX9_count 53 = .ok (.iload_n 1, 1) := by decide +kernel
theorem dX9_count_54 : decode cX9_count 54 = .ok (.invokevirtual 198, 3) := by decide +kernel
theorem dX9_count_57 : decode cX9_count 57 = .ok (.ireturn, 1) := by decide +kernel
theorem dX9_compile_0 : decode cX9_compile 0 = .ok (.aload_n 0, 1) := by decide +kernel
theorem dX9_compile_1 : decode cX9_compile 1 = .ok (.getfield 36, 3) := by decide +kernel
theorem dX9_compile_4 : decode cX9_compile 4 = .ok (.aload_n 0, 1) := by decide +kernel
theorem dX9_compile_5 : decode cX9_compile 5 = .ok (.getfield 54, 3) := by decide +kernel
theorem dX9_compile_8 : decode cX9_compile 8 = .ok (.aload_n 0, 1) := by decide +kernel
theorem dX9_compile_9 : decode cX9_compile 9 = .ok (.getfield 23, 3) := by decide +kernel
theorem dX9_compile_12 : decode cX9_compile 12 = .ok (.invokevirtual 62, 3) := by decide +kernel
theorem dX9_compile_15 : decode cX9_compile 15 = .ok (.istore_n 1, 1) := by decide +kernel
theorem dX9_compile_16 : decode cX9_compile 16 = .ok (.aload_n 0, 1) := by decide +kernel
theorem dX9_compile_17 : decode cX9_compile 17 = .ok (.aload_n 0, 1) := by decide +kernel
theorem dX9_compile_18 : decode cX9_compile 18 = .ok (.getfield 36, 3) := by decide +kernel
theorem dX9_compile_21 : decode cX9_compile 21 = .ok (.getfield 66, 3) := by decide +kernel
theorem dX9_compile_24 : decode cX9_compile 24 = .ok (.putfield 69, 3) := by decide +kernel
theorem dX9_compile_27 : decode cX9_compile 27 = .ok (.iload_n 1, 1) := by decide +kernel
theorem dX9_compile_28 : decode cX9_compile 28 = .ok (.ifCond .eq 13, 3) := by decide +kernel
theorem dX9_compile_31 : decode cX9_compile 31 = .ok (.aload_n 0, 1) := by decide +kernel
theorem dX9_compile_32 : decode cX9_compile 32 = .ok (.getfield 54, 3) := by decide +kernel
theorem dX9_compile_35 : decode cX9_compile 35 = .ok (.sipush 3000, 3) := by decide +kernel
theorem dX9_compile_38 : decode cX9_compile 38 = .ok (.if_icmp .le 13, 3) := by decide +kernel
theorem dX9_compile_41 : decode cX9_compile 41 = .ok (.iconst (-1), 1) := by decide +kernel
theorem dX9_compile_42 : decode cX9_compile 42 = .ok (.aload_n 0, 1) := by decide +kernel
theorem dX9_compile_43 : decode cX9_compile 43 = .ok (.getfield 36, 3) := by decide +kernel
theorem dX9_compile_46 : decode cX9_compile 46 = .ok (.getfield 70, 3) := by decide +kernel
theorem dX9_compile_49 : decode cX9_compile 49 = .ok (.isub, 1) := by decide +kernel
theorem dX9_compile_50 : decode cX9_compile 50 = .ok (.ireturn, 1) := by decide +kernel
theorem dX9_compile_51 : decode cX9_compile 51 = .ok (.aload_n 0, 1) := by decide +kernel
theorem dX9_compile_52 : decode cX9_compile 52 = .ok (.getfield 19, 3) := by decide +kernel
theorem dX9_compile_55 : decode cX9_compile 55 = .ok (.astore_n 2, 1) := by decide +kernel
theorem dX9_compile_56 : decode cX9_compile 56 = .ok (.aload_n 0, 1) := by decide +kernel
theorem dX9_compile_57 : decode cX9_compile 57 = .ok (.aload_n 0, 1) := by decide +kernel
theorem dX9_compile_58 : decode cX9_compile 58 = .ok (.getfield 23, 3) := by decide +kernel
theorem dX9_compile_61 : decode cX9_compile 61 = .ok (.putfield 19, 3) := by decide +kernel
theorem dX9_compile_64 : decode cX9_compile 64 = .ok (.aload_n 0, 1) := by decide +kernel
theorem dX9_compile_65 : decode cX9_compile 65 = .ok (.aload_n 2, 1) := by decide +kernel
theorem dX9_compile_66 : decode cX9_compile 66 = .ok (.putfield 23, 3) := by decide +kernel
theorem dX9_compile_69 : decode cX9_compile 69 = .ok (.aload_n 0, 1) := by decide +kernel
theorem dX9_compile_70 : decode cX9_compile 70 = .ok (.getfield 9, 3) := by decide +kernel
theorem dX9_compile_73 : decode cX9_compile 73 = .ok (.iconst 0, 1) := by decide +kernel
theorem dX9_compile_74 : decode cX9_compile 74 = .ok (.aload_n 0, 1) := by decide +kernel
theorem dX9_compile_75 : decode cX9_compile 75 = .ok (.getfield 13, 3) := by decide +kernel
theorem dX9_compile_78 : decode cX9_compile 78 = .ok (.iconst 0, 1) := by decide +kernel
theorem dX9_compile_79 : decode cX9_compile 79 = .ok (.aload_n 0, 1) := by decide +kernel
theorem dX9_compile_80 : decode cX9_compile 80 = .ok (.getfield 54, 3) := by decide +kernel
theorem dX9_compile_83 : decode cX9_compile 83 = .ok (.invokestatic 73, 3) := by decide +kernel
theorem dX9_compile_86 : decode cX9_compile 86 = .ok (.aload_n 0, 1) := by decide +kernel
theorem dX9_compile_87 : decode cX9_compile 87 = .ok (.aload_n 0, 1) := by decide +kernel
theorem dX9_compile_88 : decode cX9_compile 88 = .ok (.getfield 54, 3) := by decide +kernel
theorem dX9_compile_91 : decode cX9_compile 91 = .ok (.putfield 79, 3) := by decide +kernel
theorem dX9_compile_94 : decode cX9_compile 94 = .ok (.aload_n 0, 1) := by decide +kernel
theorem dX9_compile_95 : decode cX9_compile 95 = .ok (.iconst 0, 1) := by decide +kernel
theorem dX9_compile_96 : decode cX9_compile 96 = .ok (.putfield 54, 3) := by decide +kernel
theorem dX9_compile_99 : decode cX9_compile 99 = .ok (.aload_n 0, 1) := by decide +kernel
theorem dX9_compile_100 : decode cX9_compile 100 = .ok (.getfield 50, 3) := by decide +kernel
theorem dX9_compile_103 : decode cX9_compile 103 = .ok (.invokevirtual 82, 3) := by decide +kernel
theorem dX9_compile_106 : decode cX9_compile 106 = .ok (.aload_n 0, 1) := by decide +kernel
theorem dX9_compile_107 : decode cX9_compile 107 = .ok (.getfield 19, 3) := by decide +kernel
theorem dX9_compile_110 : decode cX9_compile 110 = .ok (.getfield 85, 3) := by decide +kernel
theorem dX9_compile_113 : decode cX9_compile 113 = .ok (.ireturn, 1) := by decide +kernel
theorem dX9_step_0 : decode cX9_step 0 = .ok (.iload_n 1, 1) := by decide +kernel
theorem dX9_step_1 : decode cX9_step 1 = .ok (.ifCond .lt 23, 3) := by decide +kernel
theorem dX9_step_4 : decode cX9_step 4 = .ok (.iload_n 1, 1) := by decide +kernel
theorem dX9_step_5 : decode cX9_step 5 = .ok (.aload_n 0, 1) := by decide +kernel
theorem dX9_step_6 : decode cX9_step 6 = .ok (.getfield 19, 3) := by decide +kernel
theorem dX9_step_9 : decode cX9_step 9 = .ok (.getfield 85, 3) := by decide +kernel
theorem dX9_step_12 : decode cX9_step 12 = .ok (.if_icmp .ge 12, 3) := by decide +kernel
theorem dX9_step_15 : decode cX9_step 15 = .ok (.iload_n 2, 1) := by decide +kernel
theorem dX9_step_16 : decode cX9_step 16 = .ok (.ifCond .lt 8, 3) := by decide +kernel
theorem dX9_step_19 : decode cX9_step 19 = .ok (.iload_n 2, 1) := by decide +kernel
theorem dX9_step_20 : decode cX9_step 20 = .ok (.iconst 3, 1) := by decide +kernel
theorem dX9_step_21 : decode cX9_step 21 = .ok (.if_icmp .le 11, 3) := by decide +kernel
theorem dX9_step_24 : decode cX9_step 24 = .ok (.new 88, 3) := by decide +kernel
theorem dX9_step_27 : decode cX9_step 27 = .ok (.dup, 1) := by decide +kernel
theorem dX9_step_28 : decode cX9_step 28 = .ok (.invokespecial 90, 3) := by decide +kernel
theorem dX9_step_31 : decode cX9_step 31 = .ok (.athrow, 1) := by decide +kernel
theorem dX9_step_32 : decode cX9_step 32 = .ok (.aload_n 0, 1) := by decide +kernel
theorem dX9_step_33 : decode cX9_step 33 = .ok (.getfield 19, 3) := by decide +kernel
theorem dX9_step_36 : decode cX9_step 36 = .ok (.iload_n 1, 1) := by decide +kernel
theorem dX9_step_37 : decode cX9_step 37 = .ok (.invokevirtual 91, 3) := by decide +kernel
theorem dX9_step_40 : decode cX9_step 40 = .ok (.astore_n 3, 1) := by decide +kernel
theorem dX9_step_41 : decode cX9_step 41 = .ok (.iload_n 2, 1) := by decide +kernel
theorem dX9_step_42 : decode cX9_step 42 = .ok (.tableswitch 41 0 2 #[26, 31, 36], 26) := by decide +kernel
theorem dX9_step_68 : decode cX9_step 68 = .ok (.aload_n 3, 1) := by decide +kernel
theorem dX9_step_69 : decode cX9_step 69 = .ok (.getfield 95, 3) := by decide +kernel
theorem dX9_step_72 : decode cX9_step 72 = .ok (.ireturn, 1) := by decide +kernel
theorem dX9_step_73 : decode cX9_step 73 = .ok (.aload_n 3, 1) := by decide +kernel
theorem dX9_step_74 : decode cX9_step 74 = .ok (.getfield 100, 3) := by decide +kernel
theorem dX9_step_77 : decode cX9_step 77 = .ok (.ireturn, 1) := by decide +kernel
theorem dX9_step_78 : decode cX9_step 78 = .ok (.aload_n 3, 1) := by decide +kernel
theorem dX9_step_79 : decode cX9_step 79 = .ok (.getfield 103, 3) := by decide +kernel
theorem dX9_step_82 : decode cX9_step 82 = .ok (.ireturn, 1) := by decide +kernel
theorem dX9_step_83 : decode cX9_step 83 = .ok (.aload_n 3, 1) := by decide +kernel
theorem dX9_step_84 : decode cX9_step 84 = .ok (.getfield 106, 3) := by decide +kernel
theorem dX9_step_87 : decode cX9_step 87 = .ok (.ireturn, 1) := by decide +kernel
theorem dX9_spell_0 : decode cX9_spell 0 = .ok (.iload_n 1, 1) := by decide +kernel
theorem dX9_spell_1 : decode cX9_spell 1 = .ok (.ifCond .lt 14, 3) := by decide +kernel
theorem dX9_spell_4 : decode cX9_spell 4 = .ok (.iload_n 1, 1) := by decide +kernel
theorem dX9_spell_5 : decode cX9_spell 5 = .ok (.aload_n 0, 1) := by decide +kernel
theorem dX9_spell_6 : decode cX9_spell 6 = .ok (.getfield 19, 3) := by decide +kernel
theorem dX9_spell_9 : decode cX9_spell 9 = .ok (.getfield 85, 3) := by decide +kernel
theorem dX9_spell_12 : decode cX9_spell 12 = .ok (.if_icmp .lt 11, 3) := by decide +kernel
theorem dX9_spell_15 : decode cX9_spell 15 = .ok (.new 88, 3) := by decide +kernel
theorem dX9_spell_18 : decode cX9_spell 18 = .ok (.dup, 1) := by decide +kernel
theorem dX9_spell_19 : decode cX9_spell 19 = .ok (.invokespecial 90, 3) := by decide +kernel
theorem dX9_spell_22 : decode cX9_spell 22 = .ok (.athrow, 1) := by decide +kernel
theorem dX9_spell_23 : decode cX9_spell 23 = .ok (.aload_n 0, 1) := by decide +kernel
theorem dX9_spell_24 : decode cX9_spell 24 = .ok (.getfield 43, 3) := by decide +kernel
theorem dX9_spell_27 : decode cX9_spell 27 = .ok (.aload_n 0, 1) := by decide +kernel
theorem dX9_spell_28 : decode cX9_spell 28 = .ok (.getfield 79, 3) := by decide +kernel
theorem dX9_spell_31 : decode cX9_spell 31 = .ok (.aload_n 0, 1) := by decide +kernel
theorem dX9_spell_32 : decode cX9_spell 32 = .ok (.getfield 19, 3) := by decide +kernel
theorem dX9_spell_35 : decode cX9_spell 35 = .ok (.iload_n 1, 1) := by decide +kernel
theorem dX9_spell_36 : decode cX9_spell 36 = .ok (.invokevirtual 91, 3) := by decide +kernel
theorem dX9_spell_39 : decode cX9_spell 39 = .ok (.getfield 106, 3) := by decide +kernel
theorem dX9_spell_42 : decode cX9_spell 42 = .ok (.invokevirtual 109, 3) := by decide +kernel
theorem dX9_spell_45 : decode cX9_spell 45 = .ok (.aload_n 0, 1) := by decide +kernel
theorem dX9_spell_46 : decode cX9_spell 46 = .ok (.getfield 43, 3) := by decide +kernel
theorem dX9_spell_49 : decode cX9_spell 49 = .ok (.getfield 113, 3) := by decide +kernel
theorem dX9_spell_52 : decode cX9_spell 52 = .ok (.ireturn, 1) := by decide +kernel
theorem dX9_octet_0 : decode cX9_octet 0 = .ok (.iload_n 1, 1) := by decide +kernel
theorem dX9_octet_1 : decode cX9_octet 1 = .ok (.ifCond .lt 14, 3) := by decide +kernel
theorem dX9_octet_4 : decode cX9_octet 4 = .ok (.iload_n 1, 1) := by decide +kernel
theorem dX9_octet_5 : decode cX9_octet 5 = .ok (.aload_n 0, 1) := by decide +kernel
theorem dX9_octet_6 : decode cX9_octet 6 = .ok (.getfield 43, 3) := by decide +kernel
theorem dX9_octet_9 : decode cX9_octet 9 = .ok (.getfield 113, 3) := by decide +kernel
theorem dX9_octet_12 : decode cX9_octet 12 = .ok (.if_icmp .lt 11, 3) := by decide +kernel
theorem dX9_octet_15 : decode cX9_octet 15 = .ok (.new 88, 3) := by decide +kernel
theorem dX9_octet_18 : decode cX9_octet 18 = .ok (.dup, 1) := by decide +kernel
theorem dX9_octet_19 : decode cX9_octet 19 = .ok (.invokespecial 90, 3) := by decide +kernel
theorem dX9_octet_22 : decode cX9_octet 22 = .ok (.athrow, 1) := by decide +kernel
theorem dX9_octet_23 : decode cX9_octet 23 = .ok (.aload_n 0, 1) := by decide +kernel
theorem dX9_octet_24 : decode cX9_octet 24 = .ok (.getfield 43, 3) := by decide +kernel
theorem dX9_octet_27 : decode cX9_octet 27 = .ok (.iload_n 1, 1) := by decide +kernel
theorem dX9_octet_28 : decode cX9_octet 28 = .ok (.invokevirtual 114, 3) := by decide +kernel
theorem dX9_octet_31 : decode cX9_octet 31 = .ok (.ireturn, 1) := by decide +kernel
theorem dX9_run_0 : decode cX9_run 0 = .ok (.aload_n 0, 1) := by decide +kernel
theorem dX9_run_1 : decode cX9_run 1 = .ok (.getfield 19, 3) := by decide +kernel
theorem dX9_run_4 : decode cX9_run 4 = .ok (.getfield 85, 3) := by decide +kernel
theorem dX9_run_7 : decode cX9_run 7 = .ok (.ifCond .ne 11, 3) := by decide +kernel
theorem dX9_run_10 : decode cX9_run 10 = .ok (.new 118, 3) := by decide +kernel
theorem dX9_run_13 : decode cX9_run 13 = .ok (.dup, 1) := by decide +kernel
theorem dX9_run_14 : decode cX9_run 14 = .ok (.invokespecial 120, 3) := by decide +kernel
theorem dX9_run_17 : decode cX9_run 17 = .ok (.athrow, 1) := by decide +kernel
theorem dX9_run_18 : decode cX9_run 18 = .ok (.aload_n 0, 1) := by decide +kernel
theorem dX9_run_19 : decode cX9_run 19 = .ok (.getfield 50, 3) := by decide +kernel
theorem dX9_run_22 : decode cX9_run 22 = .ok (.aload_n 0, 1) := by decide +kernel
theorem dX9_run_23 : decode cX9_run 23 = .ok (.getfield 19, 3) := by decide +kernel
theorem dX9_run_26 : decode cX9_run 26 = .ok (.invokevirtual 121, 3) := by decide +kernel
theorem dX9_run_29 : decode cX9_run 29 = .ok (.ireturn, 1) := by decide +kernel
theorem dX9_outcome_0 : decode cX9_outcome 0 = .ok (.iload_n 1, 1) := by decide +kernel
theorem dX9_outcome_1 : decode cX9_outcome 1 = .ok (.ifCond .lt 14, 3) := by decide +kernel
theorem dX9_outcome_4 : decode cX9_outcome 4 = .ok (.iload_n 1, 1) := by decide +kernel
theorem dX9_outcome_5 : decode cX9_outcome 5 = .ok (.aload_n 0, 1) := by decide +kernel
theorem dX9_outcome_6 : decode cX9_outcome 6 = .ok (.getfield 19, 3) := by decide +kernel
theorem dX9_outcome_9 : decode cX9_outcome 9 = .ok (.getfield 85, 3) := by decide +kernel
theorem dX9_outcome_12 : decode cX9_outcome 12 = .ok (.if_icmp .lt 11, 3) := by decide +kernel
theorem dX9_outcome_15 : decode cX9_outcome 15 = .ok (.new 88, 3) := by decide +kernel
theorem dX9_outcome_18 : decode cX9_outcome 18 = .ok (.dup, 1) := by decide +kernel
theorem dX9_outcome_19 : decode cX9_outcome 19 = .ok (.invokespecial 90, 3) := by decide +kernel
theorem dX9_outcome_22 : decode cX9_outcome 22 = .ok (.athrow, 1) := by decide +kernel
theorem dX9_outcome_23 : decode cX9_outcome 23 = .ok (.aload_n 0, 1) := by decide +kernel
theorem dX9_outcome_24 : decode cX9_outcome 24 = .ok (.getfield 50, 3) := by decide +kernel
theorem dX9_outcome_27 : decode cX9_outcome 27 = .ok (.iload_n 1, 1) := by decide +kernel
theorem dX9_outcome_28 : decode cX9_outcome 28 = .ok (.invokevirtual 125, 3) := by decide +kernel
theorem dX9_outcome_31 : decode cX9_outcome 31 = .ok (.ireturn, 1) := by decide +kernel
theorem dX9_value_0 : decode cX9_value 0 = .ok (.aload_n 0, 1) := by decide +kernel
theorem dX9_value_1 : decode cX9_value 1 = .ok (.getfield 50, 3) := by decide +kernel
theorem dX9_value_4 : decode cX9_value 4 = .ok (.iload_n 1, 1) := by decide +kernel
theorem dX9_value_5 : decode cX9_value 5 = .ok (.iload_n 2, 1) := by decide +kernel
theorem dX9_value_6 : decode cX9_value 6 = .ok (.iload_n 3, 1) := by decide +kernel
theorem dX9_value_7 : decode cX9_value 7 = .ok (.iload 4, 2) := by decide +kernel
theorem dX9_value_9 : decode cX9_value 9 = .ok (.invokevirtual 128, 3) := by decide +kernel
theorem dX9_value_12 : decode cX9_value 12 = .ok (.ifCond .eq 16, 3) := by decide +kernel
theorem dX9_value_15 : decode cX9_value 15 = .ok (.aload_n 0, 1) := by decide +kernel
theorem dX9_value_16 : decode cX9_value 16 = .ok (.getfield 50, 3) := by decide +kernel
theorem dX9_value_19 : decode cX9_value 19 = .ok (.getfield 132, 3) := by decide +kernel
theorem dX9_value_22 : decode cX9_value 22 = .ok (.invokevirtual 145, 3) := by decide +kernel
theorem dX9_value_25 : decode cX9_value 25 = .ok (.ifCond .ne 11, 3) := by decide +kernel
theorem dX9_value_28 : decode cX9_value 28 = .ok (.new 88, 3) := by decide +kernel
theorem dX9_value_31 : decode cX9_value 31 = .ok (.dup, 1) := by decide +kernel
theorem dX9_value_32 : decode cX9_value 32 = .ok (.invokespecial 90, 3) := by decide +kernel
theorem dX9_value_35 : decode cX9_value 35 = .ok (.athrow, 1) := by decide +kernel
theorem dX9_value_36 : decode cX9_value 36 = .ok (.aload_n 0, 1) := by decide +kernel
theorem dX9_value_37 : decode cX9_value 37 = .ok (.getfield 50, 3) := by decide +kernel
theorem dX9_value_40 : decode cX9_value 40 = .ok (.getfield 132, 3) := by decide +kernel
theorem dX9_value_43 : decode cX9_value 43 = .ok (.getfield 149, 3) := by decide +kernel
theorem dX9_value_46 : decode cX9_value 46 = .ok (.lreturn, 1) := by decide +kernel
theorem dX9_marked_0 : decode cX9_marked 0 = .ok (.iload_n 1, 1) := by decide +kernel
theorem dX9_marked_1 : decode cX9_marked 1 = .ok (.ifCond .lt 28, 3) := by decide +kernel
theorem dX9_marked_4 : decode cX9_marked 4 = .ok (.iload_n 1, 1) := by decide +kernel
theorem dX9_marked_5 : decode cX9_marked 5 = .ok (.aload_n 0, 1) := by decide +kernel
theorem dX9_marked_6 : decode cX9_marked 6 = .ok (.getfield 50, 3) := by decide +kernel
theorem dX9_marked_9 : decode cX9_marked 9 = .ok (.invokevirtual 156, 3) := by decide +kernel
theorem dX9_marked_12 : decode cX9_marked 12 = .ok (.if_icmp .ge 17, 3) := by decide +kernel
theorem dX9_marked_15 : decode cX9_marked 15 = .ok (.aload_n 0, 1) := by decide +kernel
theorem dX9_marked_16 : decode cX9_marked 16 = .ok (.getfield 50, 3) := by decide +kernel
theorem dX9_marked_19 : decode cX9_marked 19 = .ok (.iload_n 1, 1) := by decide +kernel
theorem dX9_marked_20 : decode cX9_marked 20 = .ok (.invokevirtual 159, 3) := by decide +kernel
theorem dX9_marked_23 : decode cX9_marked 23 = .ok (.invokevirtual 145, 3) := by decide +kernel
theorem dX9_marked_26 : decode cX9_marked 26 = .ok (.ifCond .ne 11, 3) := by decide +kernel
theorem dX9_marked_29 : decode cX9_marked 29 = .ok (.new 88, 3) := by decide +kernel
theorem dX9_marked_32 : decode cX9_marked 32 = .ok (.dup, 1) := by decide +kernel
theorem dX9_marked_33 : decode cX9_marked 33 = .ok (.invokespecial 90, 3) := by decide +kernel
theorem dX9_marked_36 : decode cX9_marked 36 = .ok (.athrow, 1) := by decide +kernel
theorem dX9_marked_37 : decode cX9_marked 37 = .ok (.aload_n 0, 1) := by decide +kernel
theorem dX9_marked_38 : decode cX9_marked 38 = .ok (.getfield 50, 3) := by decide +kernel
theorem dX9_marked_41 : decode cX9_marked 41 = .ok (.iload_n 1, 1) := by decide +kernel
theorem dX9_marked_42 : decode cX9_marked 42 = .ok (.invokevirtual 159, 3) := by decide +kernel
theorem dX9_marked_45 : decode cX9_marked 45 = .ok (.getfield 149, 3) := by decide +kernel
theorem dX9_marked_48 : decode cX9_marked 48 = .ok (.lreturn, 1) := by decide +kernel

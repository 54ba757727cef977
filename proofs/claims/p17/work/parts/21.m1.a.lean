theorem dX10_come_0 : decode cX10_come 0 = .ok (.bipush 24, 2) := by decide +kernel
theorem dX10_come_2 : decode cX10_come 2 = .ok (.istore_n 2, 1) := by decide +kernel
theorem dX10_come_3 : decode cX10_come 3 = .ok (.iload_n 2, 1) := by decide +kernel
theorem dX10_come_4 : decode cX10_come 4 = .ok (.ifCond .lt 35, 3) := by decide +kernel
theorem dX10_come_7 : decode cX10_come 7 = .ok (.aload_n 0, 1) := by decide +kernel
theorem dX10_come_8 : decode cX10_come 8 = .ok (.getfield 9, 3) := by decide +kernel
theorem dX10_come_11 : decode cX10_come 11 = .ok (.aload_n 0, 1) := by decide +kernel
theorem dX10_come_12 : decode cX10_come 12 = .ok (.getfield 126, 3) := by decide +kernel
theorem dX10_come_15 : decode cX10_come 15 = .ok (.iload_n 1, 1) := by decide +kernel
theorem dX10_come_16 : decode cX10_come 16 = .ok (.iload_n 2, 1) := by decide +kernel
theorem dX10_come_17 : decode cX10_come 17 = .ok (.iushr, 1) := by decide +kernel
theorem dX10_come_18 : decode cX10_come 18 = .ok (.sipush 255, 3) := by decide +kernel
theorem dX10_come_21 : decode cX10_come 21 = .ok (.iand, 1) := by decide +kernel
theorem dX10_come_22 : decode cX10_come 22 = .ok (.iastore, 1) := by decide +kernel
theorem dX10_come_23 : decode cX10_come 23 = .ok (.aload_n 0, 1) := by decide +kernel
theorem dX10_come_24 : decode cX10_come 24 = .ok (.dup, 1) := by decide +kernel
theorem dX10_come_25 : decode cX10_come 25 = .ok (.getfield 126, 3) := by decide +kernel
theorem dX10_come_28 : decode cX10_come 28 = .ok (.iconst 1, 1) := by decide +kernel
theorem dX10_come_29 : decode cX10_come 29 = .ok (.iadd, 1) := by decide +kernel
theorem dX10_come_30 : decode cX10_come 30 = .ok (.putfield 126, 3) := by decide +kernel
theorem dX10_come_33 : decode cX10_come 33 = .ok (.iinc 2 (-8), 3) := by decide +kernel
theorem dX10_come_36 : decode cX10_come 36 = .ok (.goto (-33), 3) := by decide +kernel
theorem dX10_come_39 : decode cX10_come 39 = .ok (.return_, 1) := by decide +kernel
theorem dX10_feed_0 : decode cX10_feed 0 = .ok (.aload_n 0, 1) := by decide +kernel
theorem dX10_feed_1 : decode cX10_feed 1 = .ok (.iconst 0, 1) := by decide +kernel
theorem dX10_feed_2 : decode cX10_feed 2 = .ok (.putfield 122, 3) := by decide +kernel
theorem dX10_feed_5 : decode cX10_feed 5 = .ok (.aload_n 0, 1) := by decide +kernel
theorem dX10_feed_6 : decode cX10_feed 6 = .ok (.getfield 126, 3) := by decide +kernel
theorem dX10_feed_9 : decode cX10_feed 9 = .ok (.bipush 20, 2) := by decide +kernel
theorem dX10_feed_11 : decode cX10_feed 11 = .ok (.iadd, 1) := by decide +kernel
theorem dX10_feed_12 : decode cX10_feed 12 = .ok (.sipush 3100, 3) := by decide +kernel
theorem dX10_feed_15 : decode cX10_feed 15 = .ok (.if_icmp .le 5, 3) := by decide +kernel
theorem dX10_feed_18 : decode cX10_feed 18 = .ok (.iconst (-1), 1) := by decide +kernel
theorem dX10_feed_19 : decode cX10_feed 19 = .ok (.ireturn, 1) := by decide +kernel
theorem dX10_feed_20 : decode cX10_feed 20 = .ok (.aload_n 0, 1) := by decide +kernel
theorem dX10_feed_21 : decode cX10_feed 21 = .ok (.iload_n 1, 1) := by decide +kernel
theorem dX10_feed_22 : decode cX10_feed 22 = .ok (.invokevirtual 129, 3) := by decide +kernel
theorem dX10_feed_25 : decode cX10_feed 25 = .ok (.aload_n 0, 1) := by decide +kernel
theorem dX10_feed_26 : decode cX10_feed 26 = .ok (.iload_n 2, 1) := by decide +kernel
theorem dX10_feed_27 : decode cX10_feed 27 = .ok (.invokevirtual 129, 3) := by decide +kernel
theorem dX10_feed_30 : decode cX10_feed 30 = .ok (.aload_n 0, 1) := by decide +kernel
theorem dX10_feed_31 : decode cX10_feed 31 = .ok (.iload_n 3, 1) := by decide +kernel
theorem dX10_feed_32 : decode cX10_feed 32 = .ok (.invokevirtual 129, 3) := by decide +kernel
theorem dX10_feed_35 : decode cX10_feed 35 = .ok (.aload_n 0, 1) := by decide +kernel
theorem dX10_feed_36 : decode cX10_feed 36 = .ok (.iload 4, 2) := by decide +kernel
theorem dX10_feed_38 : decode cX10_feed 38 = .ok (.invokevirtual 129, 3) := by decide +kernel
theorem dX10_feed_41 : decode cX10_feed 41 = .ok (.aload_n 0, 1) := by decide +kernel
theorem dX10_feed_42 : decode cX10_feed 42 = .ok (.iload 5, 2) := by decide +kernel
theorem dX10_feed_44 : decode cX10_feed 44 = .ok (.invokevirtual 129, 3) := by decide +kernel
theorem dX10_feed_47 : decode cX10_feed 47 = .ok (.aload_n 0, 1) := by decide +kernel
theorem dX10_feed_48 : decode cX10_feed 48 = .ok (.getfield 126, 3) := by decide +kernel
theorem dX10_feed_51 : decode cX10_feed 51 = .ok (.ireturn, 1) := by decide +kernel
theorem dX10_end_0 : decode cX10_end 0 = .ok (.aload_n 0, 1) := by decide +kernel
theorem dX10_end_1 : decode cX10_end 1 = .ok (.iconst 0, 1) := by decide +kernel
theorem dX10_end_2 : decode cX10_end 2 = .ok (.putfield 122, 3) := by decide +kernel
theorem dX10_end_5 : decode cX10_end 5 = .ok (.iload_n 1, 1) := by decide +kernel
theorem dX10_end_6 : decode cX10_end 6 = .ok (.ifCond .lt 11, 3) := by decide +kernel
theorem dX10_end_9 : decode cX10_end 9 = .ok (.iload_n 1, 1) := by decide +kernel
theorem dX10_end_10 : decode cX10_end 10 = .ok (.aload_n 0, 1) := by decide +kernel
theorem dX10_end_11 : decode cX10_end 11 = .ok (.getfield 126, 3) := by decide +kernel
theorem dX10_end_14 : decode cX10_end 14 = .ok (.if_icmp .le 5, 3) := by decide +kernel
theorem dX10_end_17 : decode cX10_end 17 = .ok (.iconst 0, 1) := by decide +kernel
theorem dX10_end_18 : decode cX10_end 18 = .ok (.ireturn, 1) := by decide +kernel
theorem dX10_end_19 : decode cX10_end 19 = .ok (.aload_n 0, 1) := by decide +kernel
theorem dX10_end_20 : decode cX10_end 20 = .ok (.iload_n 1, 1) := by decide +kernel
theorem dX10_end_21 : decode cX10_end 21 = .ok (.putfield 126, 3) := by decide +kernel
theorem dX10_end_24 : decode cX10_end 24 = .ok (.iconst 1, 1) := by decide +kernel
theorem dX10_end_25 : decode cX10_end 25 = .ok (.ireturn, 1) := by decide +kernel
theorem dX10_at_0 : decode cX10_at 0 = .ok (.iload_n 1, 1) := by decide +kernel
theorem dX10_at_1 : decode cX10_at 1 = .ok (.aload_n 0, 1) := by decide +kernel
theorem dX10_at_2 : decode cX10_at 2 = .ok (.getfield 261, 3) := by decide +kernel
theorem dX10_at_5 : decode cX10_at 5 = .ok (.if_icmp .ge 12, 3) := by decide +kernel
theorem dX10_at_8 : decode cX10_at 8 = .ok (.aload_n 0, 1) := by decide +kernel
theorem dX10_at_9 : decode cX10_at 9 = .ok (.getfield 9, 3) := by decide +kernel
theorem dX10_at_12 : decode cX10_at 12 = .ok (.iload_n 1, 1) := by decide +kernel
theorem dX10_at_13 : decode cX10_at 13 = .ok (.iaload, 1) := by decide +kernel
theorem dX10_at_14 : decode cX10_at 14 = .ok (.goto 4, 3) := by decide +kernel
theorem dX10_at_17 : decode cX10_at 17 = .ok (.iconst 0, 1) := by decide +kernel
theorem dX10_at_18 : decode cX10_at 18 = .ok (.ireturn, 1) := by decide +kernel
theorem dX10_isDigit_0 : decode cX10_isDigit 0 = .ok (.iload_n 0, 1) := by decide +kernel
theorem dX10_isDigit_1 : decode cX10_isDigit 1 = .ok (.bipush 48, 2) := by decide +kernel
theorem dX10_isDigit_3 : decode cX10_isDigit 3 = .ok (.if_icmp .lt 13, 3) := by decide +kernel
theorem dX10_isDigit_6 : decode cX10_isDigit 6 = .ok (.iload_n 0, 1) := by decide +kernel
theorem dX10_isDigit_7 : decode cX10_isDigit 7 = .ok (.bipush 57, 2) := by decide +kernel
theorem dX10_isDigit_9 : decode cX10_isDigit 9 = .ok (.if_icmp .gt 7, 3) := by decide +kernel
theorem dX10_isDigit_12 : decode cX10_isDigit 12 = .ok (.iconst 1, 1) := by decide +kernel
theorem dX10_isDigit_13 : decode cX10_isDigit 13 = .ok (.goto 4, 3) := by decide +kernel
theorem dX10_isDigit_16 : decode cX10_isDigit 16 = .ok (.iconst 0, 1) := by decide +kernel
theorem dX10_isDigit_17 : decode cX10_isDigit 17 = .ok (.ireturn, 1) := by decide +kernel
theorem dX10_isLetter_0 : decode cX10_isLetter 0 = .ok (.iload_n 0, 1) := by decide +kernel
theorem dX10_isLetter_1 : decode cX10_isLetter 1 = .ok (.bipush 97, 2) := by decide +kernel
theorem dX10_isLetter_3 : decode cX10_isLetter 3 = .ok (.if_icmp .lt 13, 3) := by decide +kernel
theorem dX10_isLetter_6 : decode cX10_isLetter 6 = .ok (.iload_n 0, 1) := by decide +kernel
theorem dX10_isLetter_7 : decode cX10_isLetter 7 = .ok (.bipush 122, 2) := by decide +kernel
theorem dX10_isLetter_9 : decode cX10_isLetter 9 = .ok (.if_icmp .gt 7, 3) := by decide +kernel
theorem dX10_isLetter_12 : decode cX10_isLetter 12 = .ok (.iconst 1, 1) := by decide +kernel
theorem dX10_isLetter_13 : decode cX10_isLetter 13 = .ok (.goto 4, 3) := by decide +kernel
theorem dX10_isLetter_16 : decode cX10_isLetter 16 = .ok (.iconst 0, 1) := by decide +kernel
theorem dX10_isLetter_17 : decode cX10_isLetter 17 = .ok (.ireturn, 1) := by decide +kernel
theorem dX10_readWord_0 : decode cX10_readWord 0 = .ok (.aload_n 0, 1) := by decide +kernel
theorem dX10_readWord_1 : decode cX10_readWord 1 = .ok (.lconst 0, 1) := by decide +kernel
theorem dX10_readWord_2 : decode cX10_readWord 2 = .ok (.putfield 289, 3) := by decide +kernel
theorem dX10_readWord_5 : decode cX10_readWord 5 = .ok (.aload_n 0, 1) := by decide +kernel
theorem dX10_readWord_6 : decode cX10_readWord 6 = .ok (.aload_n 0, 1) := by decide +kernel
theorem dX10_readWord_7 : decode cX10_readWord 7 = .ok (.getfield 263, 3) := by decide +kernel
theorem dX10_readWord_10 : decode cX10_readWord 10 = .ok (.aload_n 0, 1) := by decide +kernel
theorem dX10_readWord_11 : decode cX10_readWord 11 = .ok (.getfield 270, 3) := by decide +kernel
theorem dX10_readWord_14 : decode cX10_readWord 14 = .ok (.isub, 1) := by decide +kernel
theorem dX10_readWord_15 : decode cX10_readWord 15 = .ok (.putfield 293, 3) := by decide +kernel
theorem dX10_readWord_18 : decode cX10_readWord 18 = .ok (.aload_n 0, 1) := by decide +kernel
theorem dX10_readWord_19 : decode cX10_readWord 19 = .ok (.getfield 293, 3) := by decide +kernel
theorem dX10_readWord_22 : decode cX10_readWord 22 = .ok (.bipush 8, 2) := by decide +kernel
theorem dX10_readWord_24 : decode cX10_readWord 24 = .ok (.if_icmp .gt 7, 3) := by decide +kernel
theorem dX10_readWord_27 : decode cX10_readWord 27 = .ok (.iconst 1, 1) := by decide +kernel
theorem dX10_readWord_28 : decode cX10_readWord 28 = .ok (.goto 4, 3) := by decide +kernel
theorem dX10_readWord_31 : decode cX10_readWord 31 = .ok (.iconst 0, 1) := by decide +kernel
theorem dX10_readWord_32 : decode cX10_readWord 32 = .ok (.istore_n 1, 1) := by decide +kernel
theorem dX10_readWord_33 : decode cX10_readWord 33 = .ok (.aload_n 0, 1) := by decide +kernel
theorem dX10_readWord_34 : decode cX10_readWord 34 = .ok (.getfield 270, 3) := by decide +kernel
theorem dX10_readWord_37 : decode cX10_readWord 37 = .ok (.istore_n 2, 1) := by decide +kernel
theorem dX10_readWord_38 : decode cX10_readWord 38 = .ok (.iload_n 2, 1) := by decide +kernel
theorem dX10_readWord_39 : decode cX10_readWord 39 = .ok (.aload_n 0, 1) := by decide +kernel
theorem dX10_readWord_40 : decode cX10_readWord 40 = .ok (.getfield 263, 3) := by decide +kernel
theorem dX10_readWord_43 : decode cX10_readWord 43 = .ok (.if_icmp .ge 45, 3) := by decide +kernel
theorem dX10_readWord_46 : decode cX10_readWord 46 = .ok (.iload_n 1, 1) := by decide +kernel
theorem dX10_readWord_47 : decode cX10_readWord 47 = .ok (.ifCond .eq 41, 3) := by decide +kernel
theorem dX10_readWord_50 : decode cX10_readWord 50 = .ok (.aload_n 0, 1) := by decide +kernel
theorem dX10_readWord_51 : decode cX10_readWord 51 = .ok (.iload_n 2, 1) := by decide +kernel
theorem dX10_readWord_52 : decode cX10_readWord 52 = .ok (.invokevirtual 266, 3) := by decide +kernel
theorem dX10_readWord_55 : decode cX10_readWord 55 = .ok (.invokestatic 276, 3) := by decide +kernel
theorem dX10_readWord_58 : decode cX10_readWord 58 = .ok (.istore_n 1, 1) := by decide +kernel
theorem dX10_readWord_59 : decode cX10_readWord 59 = .ok (.aload_n 0, 1) := by decide +kernel
theorem dX10_readWord_60 : decode cX10_readWord 60 = .ok (.aload_n 0, 1) := by decide +kernel
theorem dX10_readWord_61 : decode cX10_readWord 61 = .ok (.getfield 289, 3) := by decide +kernel
theorem dX10_readWord_64 : decode cX10_readWord 64 = .ok (.ldc2_w 139, 3) := by decide +kernel
theorem dX10_readWord_67 : decode cX10_readWord 67 = .ok (.lmul, 1) := by decide +kernel
theorem dX10_readWord_68 : decode cX10_readWord 68 = .ok (.aload_n 0, 1) := by decide +kernel
theorem dX10_readWord_69 : decode cX10_readWord 69 = .ok (.iload_n 2, 1) := by decide +kernel
theorem dX10_readWord_70 : decode cX10_readWord 70 = .ok (.invokevirtual 266, 3) := by decide +kernel
theorem dX10_readWord_73 : decode cX10_readWord 73 = .ok (.i2l, 1) := by decide +kernel
theorem dX10_readWord_74 : decode cX10_readWord 74 = .ok (.ladd, 1) := by decide +kernel
theorem dX10_readWord_75 : decode cX10_readWord 75 = .ok (.ldc2_w 145, 3) := by decide +kernel
theorem dX10_readWord_78 : decode cX10_readWord 78 = .ok (.lsub, 1) := by decide +kernel
theorem dX10_readWord_79 : decode cX10_readWord 79 = .ok (.putfield 289, 3) := by decide +kernel
theorem dX10_readWord_82 : decode cX10_readWord 82 = .ok (.iinc 2 1, 3) := by decide +kernel
theorem dX10_readWord_85 : decode cX10_readWord 85 = .ok (.goto (-47), 3) := by decide +kernel
theorem dX10_readWord_88 : decode cX10_readWord 88 = .ok (.aload_n 0, 1) := by decide +kernel
theorem dX10_readWord_89 : decode cX10_readWord 89 = .ok (.iload_n 1, 1) := by decide +kernel
theorem dX10_readWord_90 : decode cX10_readWord 90 = .ok (.ifCond .eq 7, 3) := by decide +kernel
theorem dX10_readWord_93 : decode cX10_readWord 93 = .ok (.iconst 2, 1) := by decide +kernel
theorem dX10_readWord_94 : decode cX10_readWord 94 = .ok (.goto 4, 3) := by decide +kernel
theorem dX10_readWord_97 : decode cX10_readWord 97 = .ok (.iconst 1, 1) := by decide +kernel
theorem dX10_readWord_98 : decode cX10_readWord 98 = .ok (.putfield 273, 3) := by decide +kernel
theorem dX10_readWord_101 : decode cX10_readWord 101 = .ok (.return_, 1) := by decide +kernel
theorem dX10_readNumber_0 : decode cX10_readNumber 0 = .ok (.aload_n 0, 1) := by decide +kernel
theorem dX10_readNumber_1 : decode cX10_readNumber 1 = .ok (.getfield 263, 3) := by decide +kernel
theorem dX10_readNumber_4 : decode cX10_readNumber 4 = .ok (.istore_n 1, 1) := by decide +kernel
theorem dX10_readNumber_5 : decode cX10_readNumber 5 = .ok (.aload_n 0, 1) := by decide +kernel
theorem dX10_readNumber_6 : decode cX10_readNumber 6 = .ok (.iconst 0, 1) := by decide +kernel
theorem dX10_readNumber_7 : decode cX10_readNumber 7 = .ok (.putfield 296, 3) := by decide +kernel
theorem dX10_readNumber_10 : decode cX10_readNumber 10 = .ok (.aload_n 0, 1) := by decide +kernel
theorem dX10_readNumber_11 : decode cX10_readNumber 11 = .ok (.aload_n 0, 1) := by decide +kernel
theorem dX10_readNumber_12 : decode cX10_readNumber 12 = .ok (.getfield 263, 3) := by decide +kernel
theorem dX10_readNumber_15 : decode cX10_readNumber 15 = .ok (.iconst 1, 1) := by decide +kernel
theorem dX10_readNumber_16 : decode cX10_readNumber 16 = .ok (.isub, 1) := by decide +kernel
theorem dX10_readNumber_17 : decode cX10_readNumber 17 = .ok (.invokevirtual 266, 3) := by decide +kernel
theorem dX10_readNumber_20 : decode cX10_readNumber 20 = .ok (.invokestatic 276, 3) := by decide +kernel
theorem dX10_readNumber_23 : decode cX10_readNumber 23 = .ok (.ifCond .eq 20, 3) := by decide +kernel
theorem dX10_readNumber_26 : decode cX10_readNumber 26 = .ok (.aload_n 0, 1) := by decide +kernel
theorem dX10_readNumber_27 : decode cX10_readNumber 27 = .ok (.aload_n 0, 1) := by decide +kernel
theorem dX10_readNumber_28 : decode cX10_readNumber 28 = .ok (.aload_n 0, 1) := by decide +kernel
theorem dX10_readNumber_29 : decode cX10_readNumber 29 = .ok (.getfield 263, 3) := by decide +kernel
theorem dX10_readNumber_32 : decode cX10_readNumber 32 = .ok (.iconst 1, 1) := by decide +kernel
theorem dX10_readNumber_33 : decode cX10_readNumber 33 = .ok (.isub, 1) := by decide +kernel
theorem dX10_readNumber_34 : decode cX10_readNumber 34 = .ok (.invokevirtual 266, 3) := by decide +kernel
theorem dX10_readNumber_37 : decode cX10_readNumber 37 = .ok (.putfield 296, 3) := by decide +kernel
theorem dX10_readNumber_40 : decode cX10_readNumber 40 = .ok (.iinc 1 (-1), 3) := by decide +kernel
theorem dX10_readNumber_43 : decode cX10_readNumber 43 = .ok (.iload_n 1, 1) := by decide +kernel
theorem dX10_readNumber_44 : decode cX10_readNumber 44 = .ok (.aload_n 0, 1) := by decide +kernel
theorem dX10_readNumber_45 : decode cX10_readNumber 45 = .ok (.getfield 270, 3) := by decide +kernel
theorem dX10_readNumber_48 : decode cX10_readNumber 48 = .ok (.isub, 1) := by decide +kernel
theorem dX10_readNumber_49 : decode cX10_readNumber 49 = .ok (.bipush 19, 2) := by decide +kernel
theorem dX10_readNumber_51 : decode cX10_readNumber 51 = .ok (.if_icmp .gt 68, 3) := by decide +kernel
theorem dX10_readNumber_54 : decode cX10_readNumber 54 = .ok (.aload_n 0, 1) := by decide +kernel
theorem dX10_readNumber_55 : decode cX10_readNumber 55 = .ok (.getfield 296, 3) := by decide +kernel
theorem dX10_readNumber_58 : decode cX10_readNumber 58 = .ok (.ifCond .eq 57, 3) := by decide +kernel
theorem dX10_readNumber_61 : decode cX10_readNumber 61 = .ok (.aload_n 0, 1) := by decide +kernel
theorem dX10_readNumber_62 : decode cX10_readNumber 62 = .ok (.getfield 296, 3) := by decide +kernel
theorem dX10_readNumber_65 : decode cX10_readNumber 65 = .ok (.bipush 98, 2) := by decide +kernel
theorem dX10_readNumber_67 : decode cX10_readNumber 67 = .ok (.if_icmp .eq 48, 3) := by decide +kernel
theorem dX10_readNumber_70 : decode cX10_readNumber 70 = .ok (.aload_n 0, 1) := by decide +kernel
theorem dX10_readNumber_71 : decode cX10_readNumber 71 = .ok (.getfield 296, 3) := by decide +kernel
theorem dX10_readNumber_74 : decode cX10_readNumber 74 = .ok (.bipush 115, 2) := by decide +kernel
theorem dX10_readNumber_76 : decode cX10_readNumber 76 = .ok (.if_icmp .eq 39, 3) := by decide +kernel
theorem dX10_readNumber_79 : decode cX10_readNumber 79 = .ok (.aload_n 0, 1) := by decide +kernel
theorem dX10_readNumber_80 : decode cX10_readNumber 80 = .ok (.getfield 296, 3) := by decide +kernel
theorem dX10_readNumber_83 : decode cX10_readNumber 83 = .ok (.bipush 99, 2) := by decide +kernel
theorem dX10_readNumber_85 : decode cX10_readNumber 85 = .ok (.if_icmp .eq 30, 3) := by decide +kernel
theorem dX10_readNumber_88 : decode cX10_readNumber 88 = .ok (.aload_n 0, 1) := by decide +kernel
theorem dX10_readNumber_89 : decode cX10_readNumber 89 = .ok (.getfield 296, 3) := by decide +kernel
theorem dX10_readNumber_92 : decode cX10_readNumber 92 = .ok (.bipush 108, 2) := by decide +kernel
theorem dX10_readNumber_94 : decode cX10_readNumber 94 = .ok (.if_icmp .eq 21, 3) := by decide +kernel
theorem dX10_readNumber_97 : decode cX10_readNumber 97 = .ok (.aload_n 0, 1) := by decide +kernel
theorem dX10_readNumber_98 : decode cX10_readNumber 98 = .ok (.getfield 296, 3) := by decide +kernel
theorem dX10_readNumber_101 : decode cX10_readNumber 101 = .ok (.bipush 102, 2) := by decide +kernel
theorem dX10_readNumber_103 : decode cX10_readNumber 103 = .ok (.if_icmp .eq 12, 3) := by decide +kernel
theorem dX10_readNumber_106 : decode cX10_readNumber 106 = .ok (.aload_n 0, 1) := by decide +kernel
theorem dX10_readNumber_107 : decode cX10_readNumber 107 = .ok (.getfield 296, 3) := by decide +kernel
theorem dX10_readNumber_110 : decode cX10_readNumber 110 = .ok (.bipush 100, 2) := by decide +kernel
theorem dX10_readNumber_112 : decode cX10_readNumber 112 = .ok (.if_icmp .ne 7, 3) := by decide +kernel
theorem dX10_readNumber_115 : decode cX10_readNumber 115 = .ok (.iconst 1, 1) := by decide +kernel
theorem dX10_readNumber_116 : decode cX10_readNumber 116 = .ok (.goto 4, 3) := by decide +kernel
theorem dX10_readNumber_119 : decode cX10_readNumber 119 = .ok (.iconst 0, 1) := by decide +kernel
theorem dX10_readNumber_120 : decode cX10_readNumber 120 = .ok (.istore_n 2, 1) := by decide +kernel
theorem dX10_readNumber_121 : decode cX10_readNumber 121 = .ok (.aload_n 0, 1) := by decide +kernel
theorem dX10_readNumber_122 : decode cX10_readNumber 122 = .ok (.lconst 0, 1) := by decide +kernel
theorem dX10_readNumber_123 : decode cX10_readNumber 123 = .ok (.putfield 299, 3) := by decide +kernel
theorem dX10_readNumber_126 : decode cX10_readNumber 126 = .ok (.aload_n 0, 1) := by decide +kernel
theorem dX10_readNumber_127 : decode cX10_readNumber 127 = .ok (.iconst 0, 1) := by decide +kernel
theorem dX10_readNumber_128 : decode cX10_readNumber 128 = .ok (.putfield 302, 3) := by decide +kernel
theorem dX10_readNumber_131 : decode cX10_readNumber 131 = .ok (.aload_n 0, 1) := by decide +kernel
theorem dX10_readNumber_132 : decode cX10_readNumber 132 = .ok (.getfield 270, 3) := by decide +kernel
theorem dX10_readNumber_135 : decode cX10_readNumber 135 = .ok (.istore_n 3, 1) := by decide +kernel
theorem dX10_readNumber_136 : decode cX10_readNumber 136 = .ok (.iload_n 3, 1) := by decide +kernel
theorem dX10_readNumber_137 : decode cX10_readNumber 137 = .ok (.iload_n 1, 1) := by decide +kernel
theorem dX10_readNumber_138 : decode cX10_readNumber 138 = .ok (.if_icmp .ge 85, 3) := by decide +kernel
theorem dX10_readNumber_141 : decode cX10_readNumber 141 = .ok (.iload_n 2, 1) := by decide +kernel
theorem dX10_readNumber_142 : decode cX10_readNumber 142 = .ok (.ifCond .eq 81, 3) := by decide +kernel
theorem dX10_readNumber_145 : decode cX10_readNumber 145 = .ok (.aload_n 0, 1) := by decide +kernel
theorem dX10_readNumber_146 : decode cX10_readNumber 146 = .ok (.iload_n 3, 1) := by decide +kernel
theorem dX10_readNumber_147 : decode cX10_readNumber 147 = .ok (.invokevirtual 266, 3) := by decide +kernel
theorem dX10_readNumber_150 : decode cX10_readNumber 150 = .ok (.invokestatic 280, 3) := by decide +kernel
theorem dX10_readNumber_153 : decode cX10_readNumber 153 = .ok (.istore_n 2, 1) := by decide +kernel
theorem dX10_readNumber_154 : decode cX10_readNumber 154 = .ok (.aload_n 0, 1) := by decide +kernel
theorem dX10_readNumber_155 : decode cX10_readNumber 155 = .ok (.iload_n 3, 1) := by decide +kernel
theorem dX10_readNumber_156 : decode cX10_readNumber 156 = .ok (.invokevirtual 266, 3) := by decide +kernel
theorem dX10_readNumber_159 : decode cX10_readNumber 159 = .ok (.bipush 48, 2) := by decide +kernel
theorem dX10_readNumber_161 : decode cX10_readNumber 161 = .ok (.isub, 1) := by decide +kernel
theorem dX10_readNumber_162 : decode cX10_readNumber 162 = .ok (.istore 4, 2) := by decide +kernel
theorem dX10_readNumber_164 : decode cX10_readNumber 164 = .ok (.aload_n 0, 1) := by decide +kernel
theorem dX10_readNumber_165 : decode cX10_readNumber 165 = .ok (.getfield 299, 3) := by decide +kernel
theorem dX10_readNumber_168 : decode cX10_readNumber 168 = .ok (.ldc2_w 306, 3) := by decide +kernel
theorem dX10_readNumber_171 : decode cX10_readNumber 171 = .ok (.lcmp, 1) := by decide +kernel
theorem dX10_readNumber_172 : decode cX10_readNumber 172 = .ok (.ifCond .gt 21, 3) := by decide +kernel
theorem dX10_readNumber_175 : decode cX10_readNumber 175 = .ok (.aload_n 0, 1) := by decide +kernel
theorem dX10_readNumber_176 : decode cX10_readNumber 176 = .ok (.getfield 299, 3) := by decide +kernel
theorem dX10_readNumber_179 : decode cX10_readNumber 179 = .ok (.ldc2_w 306, 3) := by decide +kernel
theorem dX10_readNumber_182 : decode cX10_readNumber 182 = .ok (.lcmp, 1) := by decide +kernel
theorem dX10_readNumber_183 : decode cX10_readNumber 183 = .ok (.ifCond .ne 18, 3) := by decide +kernel
theorem dX10_readNumber_186 : decode cX10_readNumber 186 = .ok (.iload 4, 2) := by decide +kernel
theorem dX10_readNumber_188 : decode cX10_readNumber 188 = .ok (.bipush 8, 2) := by decide +kernel
theorem dX10_readNumber_190 : decode cX10_readNumber 190 = .ok (.if_icmp .le 11, 3) := by decide +kernel
theorem dX10_readNumber_193 : decode cX10_readNumber 193 = .ok (.aload_n 0, 1) := by decide +kernel
theorem dX10_readNumber_194 : decode cX10_readNumber 194 = .ok (.iconst 1, 1) := by decide +kernel
theorem dX10_readNumber_195 : decode cX10_readNumber 195 = .ok (.putfield 302, 3) := by decide +kernel
theorem dX10_readNumber_198 : decode cX10_readNumber 198 = .ok (.goto 19, 3) := by decide +kernel
theorem dX10_readNumber_201 : decode cX10_readNumber 201 = .ok (.aload_n 0, 1) := by decide +kernel
theorem dX10_readNumber_202 : decode cX10_readNumber 202 = .ok (.aload_n 0, 1) := by decide +kernel
theorem dX10_readNumber_203 : decode cX10_readNumber 203 = .ok (.getfield 299, 3) := by decide +kernel
theorem dX10_readNumber_206 : decode cX10_readNumber 206 = .ok (.ldc2_w 308, 3) := by decide +kernel
theorem dX10_readNumber_209 : decode cX10_readNumber 209 = .ok (.lmul, 1) := by decide +kernel
theorem dX10_readNumber_210 : decode cX10_readNumber 210 = .ok (.iload 4, 2) := by decide +kernel
theorem dX10_readNumber_212 : decode cX10_readNumber 212 = .ok (.i2l, 1) := by decide +kernel
theorem dX10_readNumber_213 : decode cX10_readNumber 213 = .ok (.ladd, 1) := by decide +kernel
theorem dX10_readNumber_214 : decode cX10_readNumber 214 = .ok (.putfield 299, 3) := by decide +kernel
theorem dX10_readNumber_217 : decode cX10_readNumber 217 = .ok (.iinc 3 1, 3) := by decide +kernel
theorem dX10_readNumber_220 : decode cX10_readNumber 220 = .ok (.goto (-84), 3) := by decide +kernel
theorem dX10_readNumber_223 : decode cX10_readNumber 223 = .ok (.aload_n 0, 1) := by decide +kernel
theorem dX10_readNumber_224 : decode cX10_readNumber 224 = .ok (.iload_n 2, 1) := by decide +kernel
theorem dX10_readNumber_225 : decode cX10_readNumber 225 = .ok (.ifCond .eq 7, 3) := by decide +kernel
theorem dX10_readNumber_228 : decode cX10_readNumber 228 = .ok (.iconst 3, 1) := by decide +kernel
theorem dX10_readNumber_229 : decode cX10_readNumber 229 = .ok (.goto 4, 3) := by decide +kernel
theorem dX10_readNumber_232 : decode cX10_readNumber 232 = .ok (.iconst 1, 1) := by decide +kernel
theorem dX10_readNumber_233 : decode cX10_readNumber 233 = .ok (.putfield 273, 3) := by decide +kernel
theorem dX10_readNumber_236 : decode cX10_readNumber 236 = .ok (.return_, 1) := by decide +kernel
theorem dX10_go_0 : decode cX10_go 0 = .ok (.aload_n 0, 1) := by decide +kernel
theorem dX10_go_1 : decode cX10_go 1 = .ok (.getfield 263, 3) := by decide +kernel
theorem dX10_go_4 : decode cX10_go 4 = .ok (.aload_n 0, 1) := by decide +kernel
theorem dX10_go_5 : decode cX10_go 5 = .ok (.getfield 261, 3) := by decide +kernel
theorem dX10_go_8 : decode cX10_go 8 = .ok (.if_icmp .ge 42, 3) := by decide +kernel
theorem dX10_go_11 : decode cX10_go 11 = .ok (.aload_n 0, 1) := by decide +kernel
theorem dX10_go_12 : decode cX10_go 12 = .ok (.aload_n 0, 1) := by decide +kernel
theorem dX10_go_13 : decode cX10_go 13 = .ok (.getfield 263, 3) := by decide +kernel
theorem dX10_go_16 : decode cX10_go 16 = .ok (.invokevirtual 266, 3) := by decide +kernel
theorem dX10_go_19 : decode cX10_go 19 = .ok (.bipush 32, 2) := by decide +kernel
theorem dX10_go_21 : decode cX10_go 21 = .ok (.if_icmp .eq 16, 3) := by decide +kernel
theorem dX10_go_24 : decode cX10_go 24 = .ok (.aload_n 0, 1) := by decide +kernel
theorem dX10_go_25 : decode cX10_go 25 = .ok (.aload_n 0, 1) := by decide +kernel
theorem dX10_go_26 : decode cX10_go 26 = .ok (.getfield 263, 3) := by decide +kernel
theorem dX10_go_29 : decode cX10_go 29 = .ok (.invokevirtual 266, 3) := by decide +kernel
theorem dX10_go_32 : decode cX10_go 32 = .ok (.bipush 10, 2) := by decide +kernel
theorem dX10_go_34 : decode cX10_go 34 = .ok (.if_icmp .ne 16, 3) := by decide +kernel
theorem dX10_go_37 : decode cX10_go 37 = .ok (.aload_n 0, 1) := by decide +kernel
theorem dX10_go_38 : decode cX10_go 38 = .ok (.dup, 1) := by decide +kernel
theorem dX10_go_39 : decode cX10_go 39 = .ok (.getfield 263, 3) := by decide +kernel
theorem dX10_go_42 : decode cX10_go 42 = .ok (.iconst 1, 1) := by decide +kernel
theorem dX10_go_43 : decode cX10_go 43 = .ok (.iadd, 1) := by decide +kernel
theorem dX10_go_44 : decode cX10_go 44 = .ok (.putfield 263, 3) := by decide +kernel
theorem dX10_go_47 : decode cX10_go 47 = .ok (.goto (-47), 3) := by decide +kernel
theorem dX10_go_50 : decode cX10_go 50 = .ok (.aload_n 0, 1) := by decide +kernel
theorem dX10_go_51 : decode cX10_go 51 = .ok (.aload_n 0, 1) := by decide +kernel
theorem dX10_go_52 : decode cX10_go 52 = .ok (.getfield 263, 3) := by decide +kernel
theorem dX10_go_55 : decode cX10_go 55 = .ok (.putfield 270, 3) := by decide +kernel
theorem dX10_go_58 : decode cX10_go 58 = .ok (.aload_n 0, 1) := by decide +kernel
theorem dX10_go_59 : decode cX10_go 59 = .ok (.getfield 261, 3) := by decide +kernel
theorem dX10_go_62 : decode cX10_go 62 = .ok (.sipush 3000, 3) := by decide +kernel
theorem dX10_go_65 : decode cX10_go 65 = .ok (.if_icmp .le 26, 3) := by decide +kernel
theorem dX10_go_68 : decode cX10_go 68 = .ok (.aload_n 0, 1) := by decide +kernel
theorem dX10_go_69 : decode cX10_go 69 = .ok (.getfield 263, 3) := by decide +kernel
theorem dX10_go_72 : decode cX10_go 72 = .ok (.sipush 3000, 3) := by decide +kernel
theorem dX10_go_75 : decode cX10_go 75 = .ok (.if_icmp .lt 16, 3) := by decide +kernel
theorem dX10_go_78 : decode cX10_go 78 = .ok (.aload_n 0, 1) := by decide +kernel
theorem dX10_go_79 : decode cX10_go 79 = .ok (.sipush 3000, 3) := by decide +kernel
theorem dX10_go_82 : decode cX10_go 82 = .ok (.putfield 270, 3) := by decide +kernel
theorem dX10_go_85 : decode cX10_go 85 = .ok (.aload_n 0, 1) := by decide +kernel
theorem dX10_go_86 : decode cX10_go 86 = .ok (.iconst 1, 1) := by decide +kernel
theorem dX10_go_87 : decode cX10_go 87 = .ok (.putfield 273, 3) := by decide +kernel
theorem dX10_go_90 : decode cX10_go 90 = .ok (.return_, 1) := by decide +kernel
theorem dX10_go_91 : decode cX10_go 91 = .ok (.aload_n 0, 1) := by decide +kernel
theorem dX10_go_92 : decode cX10_go 92 = .ok (.getfield 263, 3) := by decide +kernel
theorem dX10_go_95 : decode cX10_go 95 = .ok (.aload_n 0, 1) := by decide +kernel
theorem dX10_go_96 : decode cX10_go 96 = .ok (.getfield 261, 3) := by decide +kernel
theorem dX10_go_99 : decode cX10_go 99 = .ok (.if_icmp .lt 9, 3) := by decide +kernel
theorem dX10_go_102 : decode cX10_go 102 = .ok (.aload_n 0, 1) := by decide +kernel
theorem dX10_go_103 : decode cX10_go 103 = .ok (.iconst 0, 1) := by decide +kernel
theorem dX10_go_104 : decode cX10_go 104 = .ok (.putfield 273, 3) := by decide +kernel
theorem dX10_go_107 : decode cX10_go 107 = .ok (.return_, 1) := by decide +kernel
theorem dX10_go_108 : decode cX10_go 108 = .ok (.aload_n 0, 1) := by decide +kernel
theorem dX10_go_109 : decode cX10_go 109 = .ok (.aload_n 0, 1) := by decide +kernel
theorem dX10_go_110 : decode cX10_go 110 = .ok (.getfield 263, 3) := by decide +kernel
theorem dX10_go_113 : decode cX10_go 113 = .ok (.invokevirtual 266, 3) := by decide +kernel
theorem dX10_go_116 : decode cX10_go 116 = .ok (.istore_n 1, 1) := by decide +kernel
theorem dX10_go_117 : decode cX10_go 117 = .ok (.iload_n 1, 1) := by decide +kernel
theorem dX10_go_118 : decode cX10_go 118 = .ok (.invokestatic 276, 3) := by decide +kernel
theorem dX10_go_121 : decode cX10_go 121 = .ok (.ifCond .ne 10, 3) := by decide +kernel
theorem dX10_go_124 : decode cX10_go 124 = .ok (.iload_n 1, 1) := by decide +kernel
theorem dX10_go_125 : decode cX10_go 125 = .ok (.invokestatic 280, 3) := by decide +kernel
theorem dX10_go_128 : decode cX10_go 128 = .ok (.ifCond .eq 63, 3) := by decide +kernel
theorem dX10_go_131 : decode cX10_go 131 = .ok (.aload_n 0, 1) := by decide +kernel
theorem dX10_go_132 : decode cX10_go 132 = .ok (.aload_n 0, 1) := by decide +kernel
theorem dX10_go_133 : decode cX10_go 133 = .ok (.getfield 263, 3) := by decide +kernel
theorem dX10_go_136 : decode cX10_go 136 = .ok (.invokevirtual 266, 3) := by decide +kernel
theorem dX10_go_139 : decode cX10_go 139 = .ok (.invokestatic 276, 3) := by decide +kernel
theorem dX10_go_142 : decode cX10_go 142 = .ok (.ifCond .ne 17, 3) := by decide +kernel
theorem dX10_go_145 : decode cX10_go 145 = .ok (.aload_n 0, 1) := by decide +kernel
theorem dX10_go_146 : decode cX10_go 146 = .ok (.aload_n 0, 1) := by decide +kernel
theorem dX10_go_147 : decode cX10_go 147 = .ok (.getfield 263, 3) := by decide +kernel
theorem dX10_go_150 : decode cX10_go 150 = .ok (.invokevirtual 266, 3) := by decide +kernel
theorem dX10_go_153 : decode cX10_go 153 = .ok (.invokestatic 280, 3) := by decide +kernel
theorem dX10_go_156 : decode cX10_go 156 = .ok (.ifCond .eq 16, 3) := by decide +kernel
theorem dX10_go_159 : decode cX10_go 159 = .ok (.aload_n 0, 1) := by decide +kernel
theorem dX10_go_160 : decode cX10_go 160 = .ok (.dup, 1) := by decide +kernel
theorem dX10_go_161 : decode cX10_go 161 = .ok (.getfield 263, 3) := by decide +kernel
theorem dX10_go_164 : decode cX10_go 164 = .ok (.iconst 1, 1) := by decide +kernel
theorem dX10_go_165 : decode cX10_go 165 = .ok (.iadd, 1) := by decide +kernel
theorem dX10_go_166 : decode cX10_go 166 = .ok (.putfield 263, 3) := by decide +kernel
theorem dX10_go_169 : decode cX10_go 169 = .ok (.goto (-38), 3) := by decide +kernel
theorem dX10_go_172 : decode cX10_go 172 = .ok (.iload_n 1, 1) := by decide +kernel
theorem dX10_go_173 : decode cX10_go 173 = .ok (.invokestatic 276, 3) := by decide +kernel
theorem dX10_go_176 : decode cX10_go 176 = .ok (.ifCond .eq 10, 3) := by decide +kernel
theorem dX10_go_179 : decode cX10_go 179 = .ok (.aload_n 0, 1) := by decide +kernel
theorem dX10_go_180 : decode cX10_go 180 = .ok (.invokevirtual 283, 3) := by decide +kernel
theorem dX10_go_183 : decode cX10_go 183 = .ok (.goto 7, 3) := by decide +kernel
theorem dX10_go_186 : decode cX10_go 186 = .ok (.aload_n 0, 1) := by decide +kernel
theorem dX10_go_187 : decode cX10_go 187 = .ok (.invokevirtual 286, 3) := by decide +kernel
theorem dX10_go_190 : decode cX10_go 190 = .ok (.return_, 1) := by decide +kernel
theorem dX10_go_191 : decode cX10_go 191 = .ok (.aload_n 0, 1) := by decide +kernel
theorem dX10_go_192 : decode cX10_go 192 = .ok (.iload_n 1, 1) := by decide +kernel
theorem dX10_go_193 : decode cX10_go 193 = .ok (.bipush 91, 2) := by decide +kernel
theorem dX10_go_195 : decode cX10_go 195 = .ok (.if_icmp .eq 27, 3) := by decide +kernel
theorem dX10_go_198 : decode cX10_go 198 = .ok (.iload_n 1, 1) := by decide +kernel
theorem dX10_go_199 : decode cX10_go 199 = .ok (.bipush 93, 2) := by decide +kernel
theorem dX10_go_201 : decode cX10_go 201 = .ok (.if_icmp .eq 21, 3) := by decide +kernel
theorem dX10_go_204 : decode cX10_go 204 = .ok (.iload_n 1, 1) := by decide +kernel
theorem dX10_go_205 : decode cX10_go 205 = .ok (.bipush 61, 2) := by decide +kernel
theorem dX10_go_207 : decode cX10_go 207 = .ok (.if_icmp .eq 15, 3) := by decide +kernel
theorem dX10_go_210 : decode cX10_go 210 = .ok (.iload_n 1, 1) := by decide +kernel
theorem dX10_go_211 : decode cX10_go 211 = .ok (.bipush 59, 2) := by decide +kernel
theorem dX10_go_213 : decode cX10_go 213 = .ok (.if_icmp .eq 9, 3) := by decide +kernel
theorem dX10_go_216 : decode cX10_go 216 = .ok (.iload_n 1, 1) := by decide +kernel
theorem dX10_go_217 : decode cX10_go 217 = .ok (.bipush 45, 2) := by decide +kernel
theorem dX10_go_219 : decode cX10_go 219 = .ok (.if_icmp .ne 7, 3) := by decide +kernel
theorem dX10_go_222 : decode cX10_go 222 = .ok (.iconst 4, 1) := by decide +kernel
theorem dX10_go_223 : decode cX10_go 223 = .ok (.goto 4, 3) := by decide +kernel
theorem dX10_go_226 : decode cX10_go 226 = .ok (.iconst 1, 1) := by decide +kernel
theorem dX10_go_227 : decode cX10_go 227 = .ok (.putfield 273, 3) := by decide +kernel
theorem dX10_go_230 : decode cX10_go 230 = .ok (.aload_n 0, 1) := by decide +kernel
theorem dX10_go_231 : decode cX10_go 231 = .ok (.iload_n 1, 1) := by decide +kernel
theorem dX10_go_232 : decode cX10_go 232 = .ok (.i2l, 1) := by decide +kernel
theorem dX10_go_233 : decode cX10_go 233 = .ok (.putfield 289, 3) := by decide +kernel
theorem dX10_go_236 : decode cX10_go 236 = .ok (.aload_n 0, 1) := by decide +kernel
theorem dX10_go_237 : decode cX10_go 237 = .ok (.dup, 1) := by decide +kernel
theorem dX10_go_238 : decode cX10_go 238 = .ok (.getfield 263, 3) := by decide +kernel
theorem dX10_go_241 : decode cX10_go 241 = .ok (.iconst 1, 1) := by decide +kernel
theorem dX10_go_242 : decode cX10_go 242 = .ok (.iadd, 1) := by decide +kernel
theorem dX10_go_243 : decode cX10_go 243 = .ok (.putfield 263, 3) := by decide +kernel
theorem dX10_go_246 : decode cX10_go 246 = .ok (.return_, 1) := by decide +kernel

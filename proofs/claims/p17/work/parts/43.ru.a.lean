theorem dX4_variable_0 : decode cX4_variable 0 = .ok (.iload_n 1, 1) := by decide +kernel
theorem dX4_variable_1 : decode cX4_variable 1 = .ok (.ifCond .lt 18, 3) := by decide +kernel
theorem dX4_variable_4 : decode cX4_variable 4 = .ok (.iload_n 1, 1) := by decide +kernel
theorem dX4_variable_5 : decode cX4_variable 5 = .ok (.bipush 26, 2) := by decide +kernel
theorem dX4_variable_7 : decode cX4_variable 7 = .ok (.if_icmp .ge 12, 3) := by decide +kernel
theorem dX4_variable_10 : decode cX4_variable 10 = .ok (.aload_n 0, 1) := by decide +kernel
theorem dX4_variable_11 : decode cX4_variable 11 = .ok (.getfield 20, 3) := by decide +kernel
theorem dX4_variable_14 : decode cX4_variable 14 = .ok (.iload_n 1, 1) := by decide +kernel
theorem dX4_variable_15 : decode cX4_variable 15 = .ok (.aaload, 1) := by decide +kernel
theorem dX4_variable_16 : decode cX4_variable 16 = .ok (.goto 7, 3) := by decide +kernel
theorem dX4_variable_19 : decode cX4_variable 19 = .ok (.aload_n 0, 1) := by decide +kernel
theorem dX4_variable_20 : decode cX4_variable 20 = .ok (.getfield 41, 3) := by decide +kernel
theorem dX4_variable_23 : decode cX4_variable 23 = .ok (.areturn, 1) := by decide +kernel
theorem dX4_outcomeAt_0 : decode cX4_outcomeAt 0 = .ok (.iload_n 1, 1) := by decide +kernel
theorem dX4_outcomeAt_1 : decode cX4_outcomeAt 1 = .ok (.ifCond .lt 18, 3) := by decide +kernel
theorem dX4_outcomeAt_4 : decode cX4_outcomeAt 4 = .ok (.iload_n 1, 1) := by decide +kernel
theorem dX4_outcomeAt_5 : decode cX4_outcomeAt 5 = .ok (.bipush 100, 2) := by decide +kernel
theorem dX4_outcomeAt_7 : decode cX4_outcomeAt 7 = .ok (.if_icmp .ge 12, 3) := by decide +kernel
theorem dX4_outcomeAt_10 : decode cX4_outcomeAt 10 = .ok (.aload_n 0, 1) := by decide +kernel
theorem dX4_outcomeAt_11 : decode cX4_outcomeAt 11 = .ok (.getfield 27, 3) := by decide +kernel
theorem dX4_outcomeAt_14 : decode cX4_outcomeAt 14 = .ok (.iload_n 1, 1) := by decide +kernel
theorem dX4_outcomeAt_15 : decode cX4_outcomeAt 15 = .ok (.iaload, 1) := by decide +kernel
theorem dX4_outcomeAt_16 : decode cX4_outcomeAt 16 = .ok (.goto 4, 3) := by decide +kernel
theorem dX4_outcomeAt_19 : decode cX4_outcomeAt 19 = .ok (.iconst (-1), 1) := by decide +kernel
theorem dX4_outcomeAt_20 : decode cX4_outcomeAt 20 = .ok (.ireturn, 1) := by decide +kernel
theorem dX4_tally_0 : decode cX4_tally 0 = .ok (.iload_n 1, 1) := by decide +kernel
theorem dX4_tally_1 : decode cX4_tally 1 = .ok (.tableswitch 84 3 9 #[43, 48, 56, 64, 69, 74, 79], 43) := by decide +kernel
theorem dX4_tally_44 : decode cX4_tally 44 = .ok (.aload_n 0, 1) := by decide +kernel
theorem dX4_tally_45 : decode cX4_tally 45 = .ok (.getfield 58, 3) := by decide +kernel
theorem dX4_tally_48 : decode cX4_tally 48 = .ok (.ireturn, 1) := by decide +kernel
theorem dX4_tally_49 : decode cX4_tally 49 = .ok (.aload_n 0, 1) := by decide +kernel
theorem dX4_tally_50 : decode cX4_tally 50 = .ok (.getfield 12, 3) := by decide +kernel
theorem dX4_tally_53 : decode cX4_tally 53 = .ok (.getfield 96, 3) := by decide +kernel
theorem dX4_tally_56 : decode cX4_tally 56 = .ok (.ireturn, 1) := by decide +kernel
theorem dX4_tally_57 : decode cX4_tally 57 = .ok (.aload_n 0, 1) := by decide +kernel
theorem dX4_tally_58 : decode cX4_tally 58 = .ok (.getfield 12, 3) := by decide +kernel
theorem dX4_tally_61 : decode cX4_tally 61 = .ok (.getfield 99, 3) := by decide +kernel
theorem dX4_tally_64 : decode cX4_tally 64 = .ok (.ireturn, 1) := by decide +kernel
theorem dX4_tally_65 : decode cX4_tally 65 = .ok (.aload_n 0, 1) := by decide +kernel
theorem dX4_tally_66 : decode cX4_tally 66 = .ok (.getfield 62, 3) := by decide +kernel
theorem dX4_tally_69 : decode cX4_tally 69 = .ok (.ireturn, 1) := by decide +kernel
theorem dX4_tally_70 : decode cX4_tally 70 = .ok (.aload_n 0, 1) := by decide +kernel
theorem dX4_tally_71 : decode cX4_tally 71 = .ok (.getfield 65, 3) := by decide +kernel
theorem dX4_tally_74 : decode cX4_tally 74 = .ok (.ireturn, 1) := by decide +kernel
theorem dX4_tally_75 : decode cX4_tally 75 = .ok (.aload_n 0, 1) := by decide +kernel
theorem dX4_tally_76 : decode cX4_tally 76 = .ok (.getfield 68, 3) := by decide +kernel
theorem dX4_tally_79 : decode cX4_tally 79 = .ok (.ireturn, 1) := by decide +kernel
theorem dX4_tally_80 : decode cX4_tally 80 = .ok (.aload_n 0, 1) := by decide +kernel
theorem dX4_tally_81 : decode cX4_tally 81 = .ok (.getfield 71, 3) := by decide +kernel
theorem dX4_tally_84 : decode cX4_tally 84 = .ok (.ireturn, 1) := by decide +kernel
theorem dX4_tally_85 : decode cX4_tally 85 = .ok (.iconst (-1), 1) := by decide +kernel
theorem dX4_tally_86 : decode cX4_tally 86 = .ok (.ireturn, 1) := by decide +kernel
theorem dX4_marksKept_0 : decode cX4_marksKept 0 = .ok (.aload_n 0, 1) := by decide +kernel
theorem dX4_marksKept_1 : decode cX4_marksKept 1 = .ok (.getfield 58, 3) := by decide +kernel
theorem dX4_marksKept_4 : decode cX4_marksKept 4 = .ok (.bipush 50, 2) := by decide +kernel
theorem dX4_marksKept_6 : decode cX4_marksKept 6 = .ok (.invokestatic 102, 3) := by decide +kernel
theorem dX4_marksKept_9 : decode cX4_marksKept 9 = .ok (.ireturn, 1) := by decide +kernel
theorem dX4_markAt_0 : decode cX4_markAt 0 = .ok (.iload_n 1, 1) := by decide +kernel
theorem dX4_markAt_1 : decode cX4_markAt 1 = .ok (.ifCond .lt 18, 3) := by decide +kernel
theorem dX4_markAt_4 : decode cX4_markAt 4 = .ok (.iload_n 1, 1) := by decide +kernel
theorem dX4_markAt_5 : decode cX4_markAt 5 = .ok (.bipush 50, 2) := by decide +kernel
theorem dX4_markAt_7 : decode cX4_markAt 7 = .ok (.if_icmp .ge 12, 3) := by decide +kernel
theorem dX4_markAt_10 : decode cX4_markAt 10 = .ok (.aload_n 0, 1) := by decide +kernel
theorem dX4_markAt_11 : decode cX4_markAt 11 = .ok (.getfield 24, 3) := by decide +kernel
theorem dX4_markAt_14 : decode cX4_markAt 14 = .ok (.iload_n 1, 1) := by decide +kernel
theorem dX4_markAt_15 : decode cX4_markAt 15 = .ok (.aaload, 1) := by decide +kernel
theorem dX4_markAt_16 : decode cX4_markAt 16 = .ok (.goto 7, 3) := by decide +kernel
theorem dX4_markAt_19 : decode cX4_markAt 19 = .ok (.aload_n 0, 1) := by decide +kernel
theorem dX4_markAt_20 : decode cX4_markAt 20 = .ok (.getfield 41, 3) := by decide +kernel
theorem dX4_markAt_23 : decode cX4_markAt 23 = .ok (.areturn, 1) := by decide +kernel
theorem dX4_tell_0 : decode cX4_tell 0 = .ok (.aload_n 0, 1) := by decide +kernel
theorem dX4_tell_1 : decode cX4_tell 1 = .ok (.aload_n 1, 1) := by decide +kernel
theorem dX4_tell_2 : decode cX4_tell 2 = .ok (.getfield 213, 3) := by decide +kernel
theorem dX4_tell_5 : decode cX4_tell 5 = .ok (.invokevirtual 50, 3) := by decide +kernel
theorem dX4_tell_8 : decode cX4_tell 8 = .ok (.iload_n 2, 1) := by decide +kernel
theorem dX4_tell_9 : decode cX4_tell 9 = .ok (.lload_n 3, 1) := by decide +kernel
theorem dX4_tell_10 : decode cX4_tell 10 = .ok (.invokevirtual 54, 3) := by decide +kernel
theorem dX4_tell_13 : decode cX4_tell 13 = .ok (.iconst 0, 1) := by decide +kernel
theorem dX4_tell_14 : decode cX4_tell 14 = .ok (.ireturn, 1) := by decide +kernel
theorem dX4_tellTruth_0 : decode cX4_tellTruth 0 = .ok (.aload_n 0, 1) := by decide +kernel
theorem dX4_tellTruth_1 : decode cX4_tellTruth 1 = .ok (.aload_n 1, 1) := by decide +kernel
theorem dX4_tellTruth_2 : decode cX4_tellTruth 2 = .ok (.iconst 0, 1) := by decide +kernel
theorem dX4_tellTruth_3 : decode cX4_tellTruth 3 = .ok (.iload_n 2, 1) := by decide +kernel
theorem dX4_tellTruth_4 : decode cX4_tellTruth 4 = .ok (.ifCond .eq 7, 3) := by decide +kernel
theorem dX4_tellTruth_7 : decode cX4_tellTruth 7 = .ok (.lconst 1, 1) := by decide +kernel
theorem dX4_tellTruth_8 : decode cX4_tellTruth 8 = .ok (.goto 4, 3) := by decide +kernel
theorem dX4_tellTruth_11 : decode cX4_tellTruth 11 = .ok (.lconst 0, 1) := by decide +kernel
theorem dX4_tellTruth_12 : decode cX4_tellTruth 12 = .ok (.invokevirtual 159, 3) := by decide +kernel
theorem dX4_tellTruth_15 : decode cX4_tellTruth 15 = .ok (.ireturn, 1) := by decide +kernel
theorem dX4_forget_0 : decode cX4_forget 0 = .ok (.aload_n 0, 1) := by decide +kernel
theorem dX4_forget_1 : decode cX4_forget 1 = .ok (.getfield 12, 3) := by decide +kernel
theorem dX4_forget_4 : decode cX4_forget 4 = .ok (.invokevirtual 47, 3) := by decide +kernel
theorem dX4_forget_7 : decode cX4_forget 7 = .ok (.iconst 0, 1) := by decide +kernel
theorem dX4_forget_8 : decode cX4_forget 8 = .ok (.istore_n 1, 1) := by decide +kernel
theorem dX4_forget_9 : decode cX4_forget 9 = .ok (.iload_n 1, 1) := by decide +kernel
theorem dX4_forget_10 : decode cX4_forget 10 = .ok (.bipush 26, 2) := by decide +kernel
theorem dX4_forget_12 : decode cX4_forget 12 = .ok (.if_icmp .ge 19, 3) := by decide +kernel
theorem dX4_forget_15 : decode cX4_forget 15 = .ok (.aload_n 0, 1) := by decide +kernel
theorem dX4_forget_16 : decode cX4_forget 16 = .ok (.iload_n 1, 1) := by decide +kernel
theorem dX4_forget_17 : decode cX4_forget 17 = .ok (.invokevirtual 50, 3) := by decide +kernel
theorem dX4_forget_20 : decode cX4_forget 20 = .ok (.iconst (-1), 1) := by decide +kernel
theorem dX4_forget_21 : decode cX4_forget 21 = .ok (.lconst 0, 1) := by decide +kernel
theorem dX4_forget_22 : decode cX4_forget 22 = .ok (.invokevirtual 54, 3) := by decide +kernel
theorem dX4_forget_25 : decode cX4_forget 25 = .ok (.iinc 1 1, 3) := by decide +kernel
theorem dX4_forget_28 : decode cX4_forget 28 = .ok (.goto (-19), 3) := by decide +kernel
theorem dX4_forget_31 : decode cX4_forget 31 = .ok (.iconst 0, 1) := by decide +kernel
theorem dX4_forget_32 : decode cX4_forget 32 = .ok (.istore_n 1, 1) := by decide +kernel
theorem dX4_forget_33 : decode cX4_forget 33 = .ok (.iload_n 1, 1) := by decide +kernel
theorem dX4_forget_34 : decode cX4_forget 34 = .ok (.bipush 100, 2) := by decide +kernel
theorem dX4_forget_36 : decode cX4_forget 36 = .ok (.if_icmp .ge 16, 3) := by decide +kernel
theorem dX4_forget_39 : decode cX4_forget 39 = .ok (.aload_n 0, 1) := by decide +kernel
theorem dX4_forget_40 : decode cX4_forget 40 = .ok (.getfield 27, 3) := by decide +kernel
theorem dX4_forget_43 : decode cX4_forget 43 = .ok (.iload_n 1, 1) := by decide +kernel
theorem dX4_forget_44 : decode cX4_forget 44 = .ok (.iconst (-1), 1) := by decide +kernel
theorem dX4_forget_45 : decode cX4_forget 45 = .ok (.iastore, 1) := by decide +kernel
theorem dX4_forget_46 : decode cX4_forget 46 = .ok (.iinc 1 1, 3) := by decide +kernel
theorem dX4_forget_49 : decode cX4_forget 49 = .ok (.goto (-16), 3) := by decide +kernel
theorem dX4_forget_52 : decode cX4_forget 52 = .ok (.aload_n 0, 1) := by decide +kernel
theorem dX4_forget_53 : decode cX4_forget 53 = .ok (.iconst 0, 1) := by decide +kernel
theorem dX4_forget_54 : decode cX4_forget 54 = .ok (.putfield 58, 3) := by decide +kernel
theorem dX4_forget_57 : decode cX4_forget 57 = .ok (.aload_n 0, 1) := by decide +kernel
theorem dX4_forget_58 : decode cX4_forget 58 = .ok (.iconst 0, 1) := by decide +kernel
theorem dX4_forget_59 : decode cX4_forget 59 = .ok (.putfield 62, 3) := by decide +kernel
theorem dX4_forget_62 : decode cX4_forget 62 = .ok (.aload_n 0, 1) := by decide +kernel
theorem dX4_forget_63 : decode cX4_forget 63 = .ok (.iconst 0, 1) := by decide +kernel
theorem dX4_forget_64 : decode cX4_forget 64 = .ok (.putfield 65, 3) := by decide +kernel
theorem dX4_forget_67 : decode cX4_forget 67 = .ok (.aload_n 0, 1) := by decide +kernel
theorem dX4_forget_68 : decode cX4_forget 68 = .ok (.iconst 0, 1) := by decide +kernel
theorem dX4_forget_69 : decode cX4_forget 69 = .ok (.putfield 68, 3) := by decide +kernel
theorem dX4_forget_72 : decode cX4_forget 72 = .ok (.aload_n 0, 1) := by decide +kernel
theorem dX4_forget_73 : decode cX4_forget 73 = .ok (.iconst 0, 1) := by decide +kernel
theorem dX4_forget_74 : decode cX4_forget 74 = .ok (.putfield 71, 3) := by decide +kernel
theorem dX4_forget_77 : decode cX4_forget 77 = .ok (.return_, 1) := by decide +kernel
theorem dX4_walk_0 : decode cX4_walk 0 = .ok (.iload_n 1, 1) := by decide +kernel
theorem dX4_walk_1 : decode cX4_walk 1 = .ok (.ifCond .lt 9, 3) := by decide +kernel
theorem dX4_walk_4 : decode cX4_walk 4 = .ok (.iload_n 1, 1) := by decide +kernel
theorem dX4_walk_5 : decode cX4_walk 5 = .ok (.bipush 26, 2) := by decide +kernel
theorem dX4_walk_7 : decode cX4_walk 7 = .ok (.if_icmp .lt 5, 3) := by decide +kernel
theorem dX4_walk_10 : decode cX4_walk 10 = .ok (.iconst 0, 1) := by decide +kernel
theorem dX4_walk_11 : decode cX4_walk 11 = .ok (.ireturn, 1) := by decide +kernel
theorem dX4_walk_12 : decode cX4_walk 12 = .ok (.aload_n 0, 1) := by decide +kernel
theorem dX4_walk_13 : decode cX4_walk 13 = .ok (.getfield 44, 3) := by decide +kernel
theorem dX4_walk_16 : decode cX4_walk 16 = .ok (.aload_n 0, 1) := by decide +kernel
theorem dX4_walk_17 : decode cX4_walk 17 = .ok (.getfield 20, 3) := by decide +kernel
theorem dX4_walk_20 : decode cX4_walk 20 = .ok (.iload_n 1, 1) := by decide +kernel
theorem dX4_walk_21 : decode cX4_walk 21 = .ok (.aaload, 1) := by decide +kernel
theorem dX4_walk_22 : decode cX4_walk 22 = .ok (.invokevirtual 108, 3) := by decide +kernel
theorem dX4_walk_25 : decode cX4_walk 25 = .ok (.iload_n 2, 1) := by decide +kernel
theorem dX4_walk_26 : decode cX4_walk 26 = .ok (.iconst (-1), 1) := by decide +kernel
theorem dX4_walk_27 : decode cX4_walk 27 = .ok (.if_icmp .ne 5, 3) := by decide +kernel
theorem dX4_walk_30 : decode cX4_walk 30 = .ok (.iconst 1, 1) := by decide +kernel
theorem dX4_walk_31 : decode cX4_walk 31 = .ok (.ireturn, 1) := by decide +kernel
theorem dX4_walk_32 : decode cX4_walk 32 = .ok (.aload_n 0, 1) := by decide +kernel
theorem dX4_walk_33 : decode cX4_walk 33 = .ok (.getfield 12, 3) := by decide +kernel
theorem dX4_walk_36 : decode cX4_walk 36 = .ok (.aload_n 0, 1) := by decide +kernel
theorem dX4_walk_37 : decode cX4_walk 37 = .ok (.getfield 44, 3) := by decide +kernel
theorem dX4_walk_40 : decode cX4_walk 40 = .ok (.iload_n 2, 1) := by decide +kernel
theorem dX4_walk_41 : decode cX4_walk 41 = .ok (.invokevirtual 112, 3) := by decide +kernel
theorem dX4_walk_44 : decode cX4_walk 44 = .ok (.ifCond .ne 5, 3) := by decide +kernel
theorem dX4_walk_47 : decode cX4_walk 47 = .ok (.iconst 0, 1) := by decide +kernel
theorem dX4_walk_48 : decode cX4_walk 48 = .ok (.ireturn, 1) := by decide +kernel
theorem dX4_walk_49 : decode cX4_walk 49 = .ok (.iload_n 3, 1) := by decide +kernel
theorem dX4_walk_50 : decode cX4_walk 50 = .ok (.iconst (-1), 1) := by decide +kernel
theorem dX4_walk_51 : decode cX4_walk 51 = .ok (.if_icmp .ne 5, 3) := by decide +kernel
theorem dX4_walk_54 : decode cX4_walk 54 = .ok (.iconst 1, 1) := by decide +kernel
theorem dX4_walk_55 : decode cX4_walk 55 = .ok (.ireturn, 1) := by decide +kernel
theorem dX4_walk_56 : decode cX4_walk 56 = .ok (.aload_n 0, 1) := by decide +kernel
theorem dX4_walk_57 : decode cX4_walk 57 = .ok (.getfield 12, 3) := by decide +kernel
theorem dX4_walk_60 : decode cX4_walk 60 = .ok (.aload_n 0, 1) := by decide +kernel
theorem dX4_walk_61 : decode cX4_walk 61 = .ok (.getfield 44, 3) := by decide +kernel
theorem dX4_walk_64 : decode cX4_walk 64 = .ok (.iload_n 3, 1) := by decide +kernel
theorem dX4_walk_65 : decode cX4_walk 65 = .ok (.invokevirtual 112, 3) := by decide +kernel
theorem dX4_walk_68 : decode cX4_walk 68 = .ok (.ifCond .eq 29, 3) := by decide +kernel
theorem dX4_walk_71 : decode cX4_walk 71 = .ok (.iload 4, 2) := by decide +kernel
theorem dX4_walk_73 : decode cX4_walk 73 = .ok (.iconst (-1), 1) := by decide +kernel
theorem dX4_walk_74 : decode cX4_walk 74 = .ok (.if_icmp .eq 19, 3) := by decide +kernel
theorem dX4_walk_77 : decode cX4_walk 77 = .ok (.aload_n 0, 1) := by decide +kernel
theorem dX4_walk_78 : decode cX4_walk 78 = .ok (.getfield 12, 3) := by decide +kernel
theorem dX4_walk_81 : decode cX4_walk 81 = .ok (.aload_n 0, 1) := by decide +kernel
theorem dX4_walk_82 : decode cX4_walk 82 = .ok (.getfield 44, 3) := by decide +kernel
theorem dX4_walk_85 : decode cX4_walk 85 = .ok (.iload 4, 2) := by decide +kernel
theorem dX4_walk_87 : decode cX4_walk 87 = .ok (.invokevirtual 112, 3) := by decide +kernel
theorem dX4_walk_90 : decode cX4_walk 90 = .ok (.ifCond .eq 7, 3) := by decide +kernel
theorem dX4_walk_93 : decode cX4_walk 93 = .ok (.iconst 1, 1) := by decide +kernel
theorem dX4_walk_94 : decode cX4_walk 94 = .ok (.goto 4, 3) := by decide +kernel
theorem dX4_walk_97 : decode cX4_walk 97 = .ok (.iconst 0, 1) := by decide +kernel
theorem dX4_walk_98 : decode cX4_walk 98 = .ok (.ireturn, 1) := by decide +kernel
theorem dX4_handLength_0 : decode cX4_handLength 0 = .ok (.aload_n 0, 1) := by decide +kernel
theorem dX4_handLength_1 : decode cX4_handLength 1 = .ok (.getfield 44, 3) := by decide +kernel
theorem dX4_handLength_4 : decode cX4_handLength 4 = .ok (.invokevirtual 116, 3) := by decide +kernel
theorem dX4_handLength_7 : decode cX4_handLength 7 = .ok (.ifCond .eq 20, 3) := by decide +kernel
theorem dX4_handLength_10 : decode cX4_handLength 10 = .ok (.aload_n 0, 1) := by decide +kernel
theorem dX4_handLength_11 : decode cX4_handLength 11 = .ok (.getfield 12, 3) := by decide +kernel
theorem dX4_handLength_14 : decode cX4_handLength 14 = .ok (.aload_n 0, 1) := by decide +kernel
theorem dX4_handLength_15 : decode cX4_handLength 15 = .ok (.getfield 44, 3) := by decide +kernel
theorem dX4_handLength_18 : decode cX4_handLength 18 = .ok (.invokevirtual 120, 3) := by decide +kernel
theorem dX4_handLength_21 : decode cX4_handLength 21 = .ok (.invokevirtual 124, 3) := by decide +kernel
theorem dX4_handLength_24 : decode cX4_handLength 24 = .ok (.goto 4, 3) := by decide +kernel
theorem dX4_handLength_27 : decode cX4_handLength 27 = .ok (.iconst (-1), 1) := by decide +kernel
theorem dX4_handLength_28 : decode cX4_handLength 28 = .ok (.ireturn, 1) := by decide +kernel
theorem dX4_holdSameThing_0 : decode cX4_holdSameThing 0 = .ok (.aload_n 0, 1) := by decide +kernel
theorem dX4_holdSameThing_1 : decode cX4_holdSameThing 1 = .ok (.iload_n 1, 1) := by decide +kernel
theorem dX4_holdSameThing_2 : decode cX4_holdSameThing 2 = .ok (.iload_n 2, 1) := by decide +kernel
theorem dX4_holdSameThing_3 : decode cX4_holdSameThing 3 = .ok (.iconst (-1), 1) := by decide +kernel
theorem dX4_holdSameThing_4 : decode cX4_holdSameThing 4 = .ok (.iconst (-1), 1) := by decide +kernel
theorem dX4_holdSameThing_5 : decode cX4_holdSameThing 5 = .ok (.invokevirtual 128, 3) := by decide +kernel
theorem dX4_holdSameThing_8 : decode cX4_holdSameThing 8 = .ok (.ifCond .eq 23, 3) := by decide +kernel
theorem dX4_holdSameThing_11 : decode cX4_holdSameThing 11 = .ok (.aload_n 0, 1) := by decide +kernel
theorem dX4_holdSameThing_12 : decode cX4_holdSameThing 12 = .ok (.getfield 44, 3) := by decide +kernel
theorem dX4_holdSameThing_15 : decode cX4_holdSameThing 15 = .ok (.invokevirtual 132, 3) := by decide +kernel
theorem dX4_holdSameThing_18 : decode cX4_holdSameThing 18 = .ok (.ifCond .ne 13, 3) := by decide +kernel
theorem dX4_holdSameThing_21 : decode cX4_holdSameThing 21 = .ok (.aload_n 0, 1) := by decide +kernel
theorem dX4_holdSameThing_22 : decode cX4_holdSameThing 22 = .ok (.getfield 44, 3) := by decide +kernel
theorem dX4_holdSameThing_25 : decode cX4_holdSameThing 25 = .ok (.invokevirtual 135, 3) := by decide +kernel
theorem dX4_holdSameThing_28 : decode cX4_holdSameThing 28 = .ok (.ifCond .eq 5, 3) := by decide +kernel
theorem dX4_holdSameThing_31 : decode cX4_holdSameThing 31 = .ok (.iconst 0, 1) := by decide +kernel
theorem dX4_holdSameThing_32 : decode cX4_holdSameThing 32 = .ok (.ireturn, 1) := by decide +kernel
theorem dX4_holdSameThing_33 : decode cX4_holdSameThing 33 = .ok (.aload_n 0, 1) := by decide +kernel
theorem dX4_holdSameThing_34 : decode cX4_holdSameThing 34 = .ok (.getfield 41, 3) := by decide +kernel
theorem dX4_holdSameThing_37 : decode cX4_holdSameThing 37 = .ok (.aload_n 0, 1) := by decide +kernel
theorem dX4_holdSameThing_38 : decode cX4_holdSameThing 38 = .ok (.getfield 44, 3) := by decide +kernel
theorem dX4_holdSameThing_41 : decode cX4_holdSameThing 41 = .ok (.invokevirtual 108, 3) := by decide +kernel
theorem dX4_holdSameThing_44 : decode cX4_holdSameThing 44 = .ok (.aload_n 0, 1) := by decide +kernel
theorem dX4_holdSameThing_45 : decode cX4_holdSameThing 45 = .ok (.iload_n 3, 1) := by decide +kernel
theorem dX4_holdSameThing_46 : decode cX4_holdSameThing 46 = .ok (.iload 4, 2) := by decide +kernel
theorem dX4_holdSameThing_48 : decode cX4_holdSameThing 48 = .ok (.iconst (-1), 1) := by decide +kernel
theorem dX4_holdSameThing_49 : decode cX4_holdSameThing 49 = .ok (.iconst (-1), 1) := by decide +kernel
theorem dX4_holdSameThing_50 : decode cX4_holdSameThing 50 = .ok (.invokevirtual 128, 3) := by decide +kernel
theorem dX4_holdSameThing_53 : decode cX4_holdSameThing 53 = .ok (.ifCond .eq 21, 3) := by decide +kernel
theorem dX4_holdSameThing_56 : decode cX4_holdSameThing 56 = .ok (.aload_n 0, 1) := by decide +kernel
theorem dX4_holdSameThing_57 : decode cX4_holdSameThing 57 = .ok (.getfield 44, 3) := by decide +kernel
theorem dX4_holdSameThing_60 : decode cX4_holdSameThing 60 = .ok (.aload_n 0, 1) := by decide +kernel
theorem dX4_holdSameThing_61 : decode cX4_holdSameThing 61 = .ok (.getfield 41, 3) := by decide +kernel
theorem dX4_holdSameThing_64 : decode cX4_holdSameThing 64 = .ok (.invokevirtual 138, 3) := by decide +kernel
theorem dX4_holdSameThing_67 : decode cX4_holdSameThing 67 = .ok (.ifCond .eq 7, 3) := by decide +kernel
theorem dX4_holdSameThing_70 : decode cX4_holdSameThing 70 = .ok (.iconst 1, 1) := by decide +kernel
theorem dX4_holdSameThing_71 : decode cX4_holdSameThing 71 = .ok (.goto 4, 3) := by decide +kernel
theorem dX4_holdSameThing_74 : decode cX4_holdSameThing 74 = .ok (.iconst 0, 1) := by decide +kernel
theorem dX4_holdSameThing_75 : decode cX4_holdSameThing 75 = .ok (.ireturn, 1) := by decide +kernel
theorem dX4_needArray_0 : decode cX4_needArray 0 = .ok (.aload_n 0, 1) := by decide +kernel
theorem dX4_needArray_1 : decode cX4_needArray 1 = .ok (.invokevirtual 132, 3) := by decide +kernel
theorem dX4_needArray_4 : decode cX4_needArray 4 = .ok (.ifCond .eq 5, 3) := by decide +kernel
theorem dX4_needArray_7 : decode cX4_needArray 7 = .ok (.iconst 1, 1) := by decide +kernel
theorem dX4_needArray_8 : decode cX4_needArray 8 = .ok (.ireturn, 1) := by decide +kernel
theorem dX4_needArray_9 : decode cX4_needArray 9 = .ok (.aload_n 0, 1) := by decide +kernel
theorem dX4_needArray_10 : decode cX4_needArray 10 = .ok (.invokevirtual 116, 3) := by decide +kernel
theorem dX4_needArray_13 : decode cX4_needArray 13 = .ok (.ifCond .eq 7, 3) := by decide +kernel
theorem dX4_needArray_16 : decode cX4_needArray 16 = .ok (.iconst 0, 1) := by decide +kernel
theorem dX4_needArray_17 : decode cX4_needArray 17 = .ok (.goto 5, 3) := by decide +kernel
theorem dX4_needArray_20 : decode cX4_needArray 20 = .ok (.bipush 6, 2) := by decide +kernel
theorem dX4_needArray_22 : decode cX4_needArray 22 = .ok (.ireturn, 1) := by decide +kernel
theorem dX4_lastIndex_0 : decode cX4_lastIndex 0 = .ok (.aload_n 1, 1) := by decide +kernel
theorem dX4_lastIndex_1 : decode cX4_lastIndex 1 = .ok (.getfield 246, 3) := by decide +kernel
theorem dX4_lastIndex_4 : decode cX4_lastIndex 4 = .ok (.iconst 1, 1) := by decide +kernel
theorem dX4_lastIndex_5 : decode cX4_lastIndex 5 = .ok (.isub, 1) := by decide +kernel
theorem dX4_lastIndex_6 : decode cX4_lastIndex 6 = .ok (.istore_n 2, 1) := by decide +kernel
theorem dX4_lastIndex_7 : decode cX4_lastIndex 7 = .ok (.iload_n 2, 1) := by decide +kernel
theorem dX4_lastIndex_8 : decode cX4_lastIndex 8 = .ok (.ifCond .lt 21, 3) := by decide +kernel
theorem dX4_lastIndex_11 : decode cX4_lastIndex 11 = .ok (.iload_n 2, 1) := by decide +kernel
theorem dX4_lastIndex_12 : decode cX4_lastIndex 12 = .ok (.aload_n 0, 1) := by decide +kernel
theorem dX4_lastIndex_13 : decode cX4_lastIndex 13 = .ok (.getfield 33, 3) := by decide +kernel
theorem dX4_lastIndex_16 : decode cX4_lastIndex 16 = .ok (.arraylength, 1) := by decide +kernel
theorem dX4_lastIndex_17 : decode cX4_lastIndex 17 = .ok (.if_icmp .ge 12, 3) := by decide +kernel
theorem dX4_lastIndex_20 : decode cX4_lastIndex 20 = .ok (.aload_n 0, 1) := by decide +kernel
theorem dX4_lastIndex_21 : decode cX4_lastIndex 21 = .ok (.getfield 33, 3) := by decide +kernel
theorem dX4_lastIndex_24 : decode cX4_lastIndex 24 = .ok (.iload_n 2, 1) := by decide +kernel
theorem dX4_lastIndex_25 : decode cX4_lastIndex 25 = .ok (.iaload, 1) := by decide +kernel
theorem dX4_lastIndex_26 : decode cX4_lastIndex 26 = .ok (.goto 4, 3) := by decide +kernel
theorem dX4_lastIndex_29 : decode cX4_lastIndex 29 = .ok (.iconst (-1), 1) := by decide +kernel
theorem dX4_lastIndex_30 : decode cX4_lastIndex 30 = .ok (.ireturn, 1) := by decide +kernel
theorem dX4_readIndexes_0 : decode cX4_readIndexes 0 = .ok (.iconst 0, 1) := by decide +kernel
theorem dX4_readIndexes_1 : decode cX4_readIndexes 1 = .ok (.istore_n 2, 1) := by decide +kernel
theorem dX4_readIndexes_2 : decode cX4_readIndexes 2 = .ok (.iload_n 2, 1) := by decide +kernel
theorem dX4_readIndexes_3 : decode cX4_readIndexes 3 = .ok (.aload_n 1, 1) := by decide +kernel
theorem dX4_readIndexes_4 : decode cX4_readIndexes 4 = .ok (.getfield 246, 3) := by decide +kernel
theorem dX4_readIndexes_7 : decode cX4_readIndexes 7 = .ok (.if_icmp .ge 92, 3) := by decide +kernel
theorem dX4_readIndexes_10 : decode cX4_readIndexes 10 = .ok (.iload_n 2, 1) := by decide +kernel
theorem dX4_readIndexes_11 : decode cX4_readIndexes 11 = .ok (.aload_n 0, 1) := by decide +kernel
theorem dX4_readIndexes_12 : decode cX4_readIndexes 12 = .ok (.getfield 33, 3) := by decide +kernel
theorem dX4_readIndexes_15 : decode cX4_readIndexes 15 = .ok (.arraylength, 1) := by decide +kernel
theorem dX4_readIndexes_16 : decode cX4_readIndexes 16 = .ok (.if_icmp .ge 83, 3) := by decide +kernel
theorem dX4_readIndexes_19 : decode cX4_readIndexes 19 = .ok (.aload_n 1, 1) := by decide +kernel
theorem dX4_readIndexes_20 : decode cX4_readIndexes 20 = .ok (.getfield 248, 3) := by decide +kernel
theorem dX4_readIndexes_23 : decode cX4_readIndexes 23 = .ok (.iload_n 2, 1) := by decide +kernel
theorem dX4_readIndexes_24 : decode cX4_readIndexes 24 = .ok (.iaload, 1) := by decide +kernel
theorem dX4_readIndexes_25 : decode cX4_readIndexes 25 = .ok (.iconst (-1), 1) := by decide +kernel
theorem dX4_readIndexes_26 : decode cX4_readIndexes 26 = .ok (.if_icmp .ne 18, 3) := by decide +kernel
theorem dX4_readIndexes_29 : decode cX4_readIndexes 29 = .ok (.aload_n 0, 1) := by decide +kernel
theorem dX4_readIndexes_30 : decode cX4_readIndexes 30 = .ok (.getfield 33, 3) := by decide +kernel
theorem dX4_readIndexes_33 : decode cX4_readIndexes 33 = .ok (.iload_n 2, 1) := by decide +kernel
theorem dX4_readIndexes_34 : decode cX4_readIndexes 34 = .ok (.aload_n 1, 1) := by decide +kernel
theorem dX4_readIndexes_35 : decode cX4_readIndexes 35 = .ok (.getfield 251, 3) := by decide +kernel
theorem dX4_readIndexes_38 : decode cX4_readIndexes 38 = .ok (.iload_n 2, 1) := by decide +kernel
theorem dX4_readIndexes_39 : decode cX4_readIndexes 39 = .ok (.iaload, 1) := by decide +kernel
theorem dX4_readIndexes_40 : decode cX4_readIndexes 40 = .ok (.iastore, 1) := by decide +kernel
theorem dX4_readIndexes_41 : decode cX4_readIndexes 41 = .ok (.goto 52, 3) := by decide +kernel
theorem dX4_readIndexes_44 : decode cX4_readIndexes 44 = .ok (.aload_n 0, 1) := by decide +kernel
theorem dX4_readIndexes_45 : decode cX4_readIndexes 45 = .ok (.aload_n 1, 1) := by decide +kernel
theorem dX4_readIndexes_46 : decode cX4_readIndexes 46 = .ok (.getfield 248, 3) := by decide +kernel
theorem dX4_readIndexes_49 : decode cX4_readIndexes 49 = .ok (.iload_n 2, 1) := by decide +kernel
theorem dX4_readIndexes_50 : decode cX4_readIndexes 50 = .ok (.iaload, 1) := by decide +kernel
theorem dX4_readIndexes_51 : decode cX4_readIndexes 51 = .ok (.invokevirtual 50, 3) := by decide +kernel
theorem dX4_readIndexes_54 : decode cX4_readIndexes 54 = .ok (.astore_n 3, 1) := by decide +kernel
theorem dX4_readIndexes_55 : decode cX4_readIndexes 55 = .ok (.aload_n 3, 1) := by decide +kernel
theorem dX4_readIndexes_56 : decode cX4_readIndexes 56 = .ok (.invokevirtual 132, 3) := by decide +kernel
theorem dX4_readIndexes_59 : decode cX4_readIndexes 59 = .ok (.ifCond .eq 5, 3) := by decide +kernel
theorem dX4_readIndexes_62 : decode cX4_readIndexes 62 = .ok (.iconst 1, 1) := by decide +kernel
theorem dX4_readIndexes_63 : decode cX4_readIndexes 63 = .ok (.ireturn, 1) := by decide +kernel
theorem dX4_readIndexes_64 : decode cX4_readIndexes 64 = .ok (.aload_n 3, 1) := by decide +kernel
theorem dX4_readIndexes_65 : decode cX4_readIndexes 65 = .ok (.getfield 152, 3) := by decide +kernel
theorem dX4_readIndexes_68 : decode cX4_readIndexes 68 = .ok (.ifCond .eq 11, 3) := by decide +kernel
theorem dX4_readIndexes_71 : decode cX4_readIndexes 71 = .ok (.aload_n 3, 1) := by decide +kernel
theorem dX4_readIndexes_72 : decode cX4_readIndexes 72 = .ok (.getfield 152, 3) := by decide +kernel
theorem dX4_readIndexes_75 : decode cX4_readIndexes 75 = .ok (.iconst 4, 1) := by decide +kernel
theorem dX4_readIndexes_76 : decode cX4_readIndexes 76 = .ok (.if_icmp .le 6, 3) := by decide +kernel
theorem dX4_readIndexes_79 : decode cX4_readIndexes 79 = .ok (.bipush 6, 2) := by decide +kernel
theorem dX4_readIndexes_81 : decode cX4_readIndexes 81 = .ok (.ireturn, 1) := by decide +kernel
theorem dX4_readIndexes_82 : decode cX4_readIndexes 82 = .ok (.aload_n 0, 1) := by decide +kernel
theorem dX4_readIndexes_83 : decode cX4_readIndexes 83 = .ok (.getfield 33, 3) := by decide +kernel
theorem dX4_readIndexes_86 : decode cX4_readIndexes 86 = .ok (.iload_n 2, 1) := by decide +kernel
theorem dX4_readIndexes_87 : decode cX4_readIndexes 87 = .ok (.aload_n 3, 1) := by decide +kernel
theorem dX4_readIndexes_88 : decode cX4_readIndexes 88 = .ok (.getfield 155, 3) := by decide +kernel
theorem dX4_readIndexes_91 : decode cX4_readIndexes 91 = .ok (.l2i, 1) := by decide +kernel
theorem dX4_readIndexes_92 : decode cX4_readIndexes 92 = .ok (.iastore, 1) := by decide +kernel
theorem dX4_readIndexes_93 : decode cX4_readIndexes 93 = .ok (.iinc 2 1, 3) := by decide +kernel
theorem dX4_readIndexes_96 : decode cX4_readIndexes 96 = .ok (.goto (-94), 3) := by decide +kernel
theorem dX4_readIndexes_99 : decode cX4_readIndexes 99 = .ok (.iconst 0, 1) := by decide +kernel
theorem dX4_readIndexes_100 : decode cX4_readIndexes 100 = .ok (.ireturn, 1) := by decide +kernel
theorem dX4_readAtom_0 : decode cX4_readAtom 0 = .ok (.aload_n 1, 1) := by decide +kernel
theorem dX4_readAtom_1 : decode cX4_readAtom 1 = .ok (.getfield 254, 3) := by decide +kernel
theorem dX4_readAtom_4 : decode cX4_readAtom 4 = .ok (.iconst (-1), 1) := by decide +kernel
theorem dX4_readAtom_5 : decode cX4_readAtom 5 = .ok (.if_icmp .eq 21, 3) := by decide +kernel
theorem dX4_readAtom_8 : decode cX4_readAtom 8 = .ok (.aload_n 0, 1) := by decide +kernel
theorem dX4_readAtom_9 : decode cX4_readAtom 9 = .ok (.getfield 37, 3) := by decide +kernel
theorem dX4_readAtom_12 : decode cX4_readAtom 12 = .ok (.aload_n 0, 1) := by decide +kernel
theorem dX4_readAtom_13 : decode cX4_readAtom 13 = .ok (.aload_n 1, 1) := by decide +kernel
theorem dX4_readAtom_14 : decode cX4_readAtom 14 = .ok (.getfield 254, 3) := by decide +kernel
theorem dX4_readAtom_17 : decode cX4_readAtom 17 = .ok (.invokevirtual 50, 3) := by decide +kernel
theorem dX4_readAtom_20 : decode cX4_readAtom 20 = .ok (.invokevirtual 108, 3) := by decide +kernel
theorem dX4_readAtom_23 : decode cX4_readAtom 23 = .ok (.goto 53, 3) := by decide +kernel
theorem dX4_readAtom_26 : decode cX4_readAtom 26 = .ok (.aload_n 1, 1) := by decide +kernel
theorem dX4_readAtom_27 : decode cX4_readAtom 27 = .ok (.getfield 257, 3) := by decide +kernel
theorem dX4_readAtom_30 : decode cX4_readAtom 30 = .ok (.bipush 8, 2) := by decide +kernel
theorem dX4_readAtom_32 : decode cX4_readAtom 32 = .ok (.if_icmp .lt 29, 3) := by decide +kernel
theorem dX4_readAtom_35 : decode cX4_readAtom 35 = .ok (.aload_n 0, 1) := by decide +kernel
theorem dX4_readAtom_36 : decode cX4_readAtom 36 = .ok (.getfield 37, 3) := by decide +kernel
theorem dX4_readAtom_39 : decode cX4_readAtom 39 = .ok (.aload_n 1, 1) := by decide +kernel
theorem dX4_readAtom_40 : decode cX4_readAtom 40 = .ok (.getfield 257, 3) := by decide +kernel
theorem dX4_readAtom_43 : decode cX4_readAtom 43 = .ok (.aload_n 0, 1) := by decide +kernel
theorem dX4_readAtom_44 : decode cX4_readAtom 44 = .ok (.getfield 12, 3) := by decide +kernel
theorem dX4_readAtom_47 : decode cX4_readAtom 47 = .ok (.aload_n 1, 1) := by decide +kernel
theorem dX4_readAtom_48 : decode cX4_readAtom 48 = .ok (.getfield 257, 3) := by decide +kernel
theorem dX4_readAtom_51 : decode cX4_readAtom 51 = .ok (.invokevirtual 260, 3) := by decide +kernel
theorem dX4_readAtom_54 : decode cX4_readAtom 54 = .ok (.i2l, 1) := by decide +kernel
theorem dX4_readAtom_55 : decode cX4_readAtom 55 = .ok (.invokevirtual 54, 3) := by decide +kernel
theorem dX4_readAtom_58 : decode cX4_readAtom 58 = .ok (.goto 18, 3) := by decide +kernel
theorem dX4_readAtom_61 : decode cX4_readAtom 61 = .ok (.aload_n 0, 1) := by decide +kernel
theorem dX4_readAtom_62 : decode cX4_readAtom 62 = .ok (.getfield 37, 3) := by decide +kernel
theorem dX4_readAtom_65 : decode cX4_readAtom 65 = .ok (.aload_n 1, 1) := by decide +kernel
theorem dX4_readAtom_66 : decode cX4_readAtom 66 = .ok (.getfield 257, 3) := by decide +kernel
theorem dX4_readAtom_69 : decode cX4_readAtom 69 = .ok (.aload_n 1, 1) := by decide +kernel
theorem dX4_readAtom_70 : decode cX4_readAtom 70 = .ok (.getfield 263, 3) := by decide +kernel
theorem dX4_readAtom_73 : decode cX4_readAtom 73 = .ok (.invokevirtual 54, 3) := by decide +kernel
theorem dX4_readAtom_76 : decode cX4_readAtom 76 = .ok (.return_, 1) := by decide +kernel
theorem dX4_reach_0 : decode cX4_reach 0 = .ok (.aload_n 0, 1) := by decide +kernel
theorem dX4_reach_1 : decode cX4_reach 1 = .ok (.getfield 44, 3) := by decide +kernel
theorem dX4_reach_4 : decode cX4_reach 4 = .ok (.aload_n 0, 1) := by decide +kernel
theorem dX4_reach_5 : decode cX4_reach 5 = .ok (.aload_n 1, 1) := by decide +kernel
theorem dX4_reach_6 : decode cX4_reach 6 = .ok (.getfield 266, 3) := by decide +kernel
theorem dX4_reach_9 : decode cX4_reach 9 = .ok (.invokevirtual 50, 3) := by decide +kernel
theorem dX4_reach_12 : decode cX4_reach 12 = .ok (.invokevirtual 108, 3) := by decide +kernel
theorem dX4_reach_15 : decode cX4_reach 15 = .ok (.iconst 0, 1) := by decide +kernel
theorem dX4_reach_16 : decode cX4_reach 16 = .ok (.istore_n 2, 1) := by decide +kernel
theorem dX4_reach_17 : decode cX4_reach 17 = .ok (.iload_n 2, 1) := by decide +kernel
theorem dX4_reach_18 : decode cX4_reach 18 = .ok (.iconst 1, 1) := by decide +kernel
theorem dX4_reach_19 : decode cX4_reach 19 = .ok (.iadd, 1) := by decide +kernel
theorem dX4_reach_20 : decode cX4_reach 20 = .ok (.aload_n 1, 1) := by decide +kernel
theorem dX4_reach_21 : decode cX4_reach 21 = .ok (.getfield 246, 3) := by decide +kernel
theorem dX4_reach_24 : decode cX4_reach 24 = .ok (.if_icmp .ge 54, 3) := by decide +kernel
theorem dX4_reach_27 : decode cX4_reach 27 = .ok (.iload_n 2, 1) := by decide +kernel
theorem dX4_reach_28 : decode cX4_reach 28 = .ok (.aload_n 0, 1) := by decide +kernel
theorem dX4_reach_29 : decode cX4_reach 29 = .ok (.getfield 33, 3) := by decide +kernel
theorem dX4_reach_32 : decode cX4_reach 32 = .ok (.arraylength, 1) := by decide +kernel
theorem dX4_reach_33 : decode cX4_reach 33 = .ok (.if_icmp .ge 45, 3) := by decide +kernel
theorem dX4_reach_36 : decode cX4_reach 36 = .ok (.aload_n 0, 1) := by decide +kernel
theorem dX4_reach_37 : decode cX4_reach 37 = .ok (.getfield 44, 3) := by decide +kernel
theorem dX4_reach_40 : decode cX4_reach 40 = .ok (.invokestatic 269, 3) := by decide +kernel
theorem dX4_reach_43 : decode cX4_reach 43 = .ok (.istore_n 3, 1) := by decide +kernel
theorem dX4_reach_44 : decode cX4_reach 44 = .ok (.iload_n 3, 1) := by decide +kernel
theorem dX4_reach_45 : decode cX4_reach 45 = .ok (.ifCond .eq 5, 3) := by decide +kernel
theorem dX4_reach_48 : decode cX4_reach 48 = .ok (.iload_n 3, 1) := by decide +kernel
theorem dX4_reach_49 : decode cX4_reach 49 = .ok (.ireturn, 1) := by decide +kernel
theorem dX4_reach_50 : decode cX4_reach 50 = .ok (.aload_n 0, 1) := by decide +kernel
theorem dX4_reach_51 : decode cX4_reach 51 = .ok (.getfield 12, 3) := by decide +kernel
theorem dX4_reach_54 : decode cX4_reach 54 = .ok (.aload_n 0, 1) := by decide +kernel
theorem dX4_reach_55 : decode cX4_reach 55 = .ok (.getfield 44, 3) := by decide +kernel
theorem dX4_reach_58 : decode cX4_reach 58 = .ok (.aload_n 0, 1) := by decide +kernel
theorem dX4_reach_59 : decode cX4_reach 59 = .ok (.getfield 33, 3) := by decide +kernel
theorem dX4_reach_62 : decode cX4_reach 62 = .ok (.iload_n 2, 1) := by decide +kernel
theorem dX4_reach_63 : decode cX4_reach 63 = .ok (.iaload, 1) := by decide +kernel
theorem dX4_reach_64 : decode cX4_reach 64 = .ok (.invokevirtual 112, 3) := by decide +kernel
theorem dX4_reach_67 : decode cX4_reach 67 = .ok (.ifCond .ne 5, 3) := by decide +kernel
theorem dX4_reach_70 : decode cX4_reach 70 = .ok (.iconst 2, 1) := by decide +kernel
theorem dX4_reach_71 : decode cX4_reach 71 = .ok (.ireturn, 1) := by decide +kernel
theorem dX4_reach_72 : decode cX4_reach 72 = .ok (.iinc 2 1, 3) := by decide +kernel
theorem dX4_reach_75 : decode cX4_reach 75 = .ok (.goto (-58), 3) := by decide +kernel
theorem dX4_reach_78 : decode cX4_reach 78 = .ok (.aload_n 0, 1) := by decide +kernel
theorem dX4_reach_79 : decode cX4_reach 79 = .ok (.getfield 44, 3) := by decide +kernel
theorem dX4_reach_82 : decode cX4_reach 82 = .ok (.invokestatic 269, 3) := by decide +kernel
theorem dX4_reach_85 : decode cX4_reach 85 = .ok (.ireturn, 1) := by decide +kernel
theorem dX4_writeAtom_0 : decode cX4_writeAtom 0 = .ok (.aload_n 0, 1) := by decide +kernel
theorem dX4_writeAtom_1 : decode cX4_writeAtom 1 = .ok (.getfield 12, 3) := by decide +kernel
theorem dX4_writeAtom_4 : decode cX4_writeAtom 4 = .ok (.aload_n 1, 1) := by decide +kernel
theorem dX4_writeAtom_5 : decode cX4_writeAtom 5 = .ok (.invokevirtual 120, 3) := by decide +kernel
theorem dX4_writeAtom_8 : decode cX4_writeAtom 8 = .ok (.iload_n 2, 1) := by decide +kernel
theorem dX4_writeAtom_9 : decode cX4_writeAtom 9 = .ok (.aload_n 0, 1) := by decide +kernel
theorem dX4_writeAtom_10 : decode cX4_writeAtom 10 = .ok (.getfield 37, 3) := by decide +kernel
theorem dX4_writeAtom_13 : decode cX4_writeAtom 13 = .ok (.getfield 155, 3) := by decide +kernel
theorem dX4_writeAtom_16 : decode cX4_writeAtom 16 = .ok (.aload_n 1, 1) := by decide +kernel
theorem dX4_writeAtom_17 : decode cX4_writeAtom 17 = .ok (.getfield 152, 3) := by decide +kernel
theorem dX4_writeAtom_20 : decode cX4_writeAtom 20 = .ok (.invokestatic 230, 3) := by decide +kernel
theorem dX4_writeAtom_23 : decode cX4_writeAtom 23 = .ok (.invokestatic 220, 3) := by decide +kernel
theorem dX4_writeAtom_26 : decode cX4_writeAtom 26 = .ok (.invokevirtual 273, 3) := by decide +kernel
theorem dX4_writeAtom_29 : decode cX4_writeAtom 29 = .ok (.return_, 1) := by decide +kernel
theorem dX4_refusalAtCell_0 : decode cX4_refusalAtCell 0 = .ok (.aload_n 0, 1) := by decide +kernel
theorem dX4_refusalAtCell_1 : decode cX4_refusalAtCell 1 = .ok (.getfield 44, 3) := by decide +kernel
theorem dX4_refusalAtCell_4 : decode cX4_refusalAtCell 4 = .ok (.getfield 152, 3) := by decide +kernel
theorem dX4_refusalAtCell_7 : decode cX4_refusalAtCell 7 = .ok (.invokestatic 230, 3) := by decide +kernel
theorem dX4_refusalAtCell_10 : decode cX4_refusalAtCell 10 = .ok (.istore_n 3, 1) := by decide +kernel
theorem dX4_refusalAtCell_11 : decode cX4_refusalAtCell 11 = .ok (.iload_n 3, 1) := by decide +kernel
theorem dX4_refusalAtCell_12 : decode cX4_refusalAtCell 12 = .ok (.invokestatic 233, 3) := by decide +kernel
theorem dX4_refusalAtCell_15 : decode cX4_refusalAtCell 15 = .ok (.istore 4, 2) := by decide +kernel
theorem dX4_refusalAtCell_17 : decode cX4_refusalAtCell 17 = .ok (.aload_n 1, 1) := by decide +kernel
theorem dX4_refusalAtCell_18 : decode cX4_refusalAtCell 18 = .ok (.getfield 149, 3) := by decide +kernel
theorem dX4_refusalAtCell_21 : decode cX4_refusalAtCell 21 = .ok (.iconst 4, 1) := by decide +kernel
theorem dX4_refusalAtCell_22 : decode cX4_refusalAtCell 22 = .ok (.if_icmp .eq 11, 3) := by decide +kernel
theorem dX4_refusalAtCell_25 : decode cX4_refusalAtCell 25 = .ok (.aload_n 1, 1) := by decide +kernel
theorem dX4_refusalAtCell_26 : decode cX4_refusalAtCell 26 = .ok (.getfield 149, 3) := by decide +kernel
theorem dX4_refusalAtCell_29 : decode cX4_refusalAtCell 29 = .ok (.iconst 5, 1) := by decide +kernel
theorem dX4_refusalAtCell_30 : decode cX4_refusalAtCell 30 = .ok (.if_icmp .ne 7, 3) := by decide +kernel
theorem dX4_refusalAtCell_33 : decode cX4_refusalAtCell 33 = .ok (.iconst 1, 1) := by decide +kernel
theorem dX4_refusalAtCell_34 : decode cX4_refusalAtCell 34 = .ok (.goto 4, 3) := by decide +kernel
theorem dX4_refusalAtCell_37 : decode cX4_refusalAtCell 37 = .ok (.iconst 0, 1) := by decide +kernel
theorem dX4_refusalAtCell_38 : decode cX4_refusalAtCell 38 = .ok (.istore 5, 2) := by decide +kernel
theorem dX4_refusalAtCell_40 : decode cX4_refusalAtCell 40 = .ok (.iload 5, 2) := by decide +kernel
theorem dX4_refusalAtCell_42 : decode cX4_refusalAtCell 42 = .ok (.ifCond .eq 8, 3) := by decide +kernel
theorem dX4_refusalAtCell_45 : decode cX4_refusalAtCell 45 = .ok (.iload 4, 2) := by decide +kernel
theorem dX4_refusalAtCell_47 : decode cX4_refusalAtCell 47 = .ok (.ifCond .eq 27, 3) := by decide +kernel
theorem dX4_refusalAtCell_50 : decode cX4_refusalAtCell 50 = .ok (.aload_n 1, 1) := by decide +kernel
theorem dX4_refusalAtCell_51 : decode cX4_refusalAtCell 51 = .ok (.getfield 149, 3) := by decide +kernel
theorem dX4_refusalAtCell_54 : decode cX4_refusalAtCell 54 = .ok (.bipush 7, 2) := by decide +kernel
theorem dX4_refusalAtCell_56 : decode cX4_refusalAtCell 56 = .ok (.if_icmp .ne 21, 3) := by decide +kernel
theorem dX4_refusalAtCell_59 : decode cX4_refusalAtCell 59 = .ok (.iload 4, 2) := by decide +kernel
theorem dX4_refusalAtCell_61 : decode cX4_refusalAtCell 61 = .ok (.ifCond .eq 16, 3) := by decide +kernel
theorem dX4_refusalAtCell_64 : decode cX4_refusalAtCell 64 = .ok (.aload_n 0, 1) := by decide +kernel
theorem dX4_refusalAtCell_65 : decode cX4_refusalAtCell 65 = .ok (.getfield 37, 3) := by decide +kernel
theorem dX4_refusalAtCell_68 : decode cX4_refusalAtCell 68 = .ok (.invokevirtual 135, 3) := by decide +kernel
theorem dX4_refusalAtCell_71 : decode cX4_refusalAtCell 71 = .ok (.ifCond .ne 6, 3) := by decide +kernel
theorem dX4_refusalAtCell_74 : decode cX4_refusalAtCell 74 = .ok (.bipush 6, 2) := by decide +kernel
theorem dX4_refusalAtCell_76 : decode cX4_refusalAtCell 76 = .ok (.ireturn, 1) := by decide +kernel
theorem dX4_refusalAtCell_77 : decode cX4_refusalAtCell 77 = .ok (.aload_n 0, 1) := by decide +kernel
theorem dX4_refusalAtCell_78 : decode cX4_refusalAtCell 78 = .ok (.getfield 12, 3) := by decide +kernel
theorem dX4_refusalAtCell_81 : decode cX4_refusalAtCell 81 = .ok (.aload_n 0, 1) := by decide +kernel
theorem dX4_refusalAtCell_82 : decode cX4_refusalAtCell 82 = .ok (.getfield 44, 3) := by decide +kernel
theorem dX4_refusalAtCell_85 : decode cX4_refusalAtCell 85 = .ok (.invokevirtual 120, 3) := by decide +kernel
theorem dX4_refusalAtCell_88 : decode cX4_refusalAtCell 88 = .ok (.iload_n 2, 1) := by decide +kernel
theorem dX4_refusalAtCell_89 : decode cX4_refusalAtCell 89 = .ok (.invokevirtual 236, 3) := by decide +kernel
theorem dX4_refusalAtCell_92 : decode cX4_refusalAtCell 92 = .ok (.ifCond .ne 5, 3) := by decide +kernel
theorem dX4_refusalAtCell_95 : decode cX4_refusalAtCell 95 = .ok (.iconst 2, 1) := by decide +kernel
theorem dX4_refusalAtCell_96 : decode cX4_refusalAtCell 96 = .ok (.ireturn, 1) := by decide +kernel
theorem dX4_refusalAtCell_97 : decode cX4_refusalAtCell 97 = .ok (.aload_n 1, 1) := by decide +kernel
theorem dX4_refusalAtCell_98 : decode cX4_refusalAtCell 98 = .ok (.getfield 149, 3) := by decide +kernel
theorem dX4_refusalAtCell_101 : decode cX4_refusalAtCell 101 = .ok (.tableswitch 104 3 7 #[35, 47, 65, 104, 83], 35) := by decide +kernel
theorem dX4_refusalAtCell_136 : decode cX4_refusalAtCell 136 = .ok (.iload_n 3, 1) := by decide +kernel
theorem dX4_refusalAtCell_137 : decode cX4_refusalAtCell 137 = .ok (.aload_n 0, 1) := by decide +kernel
theorem dX4_refusalAtCell_138 : decode cX4_refusalAtCell 138 = .ok (.getfield 37, 3) := by decide +kernel
theorem dX4_refusalAtCell_141 : decode cX4_refusalAtCell 141 = .ok (.getfield 152, 3) := by decide +kernel
theorem dX4_refusalAtCell_144 : decode cX4_refusalAtCell 144 = .ok (.invokestatic 240, 3) := by decide +kernel
theorem dX4_refusalAtCell_147 : decode cX4_refusalAtCell 147 = .ok (.ireturn, 1) := by decide +kernel
theorem dX4_refusalAtCell_148 : decode cX4_refusalAtCell 148 = .ok (.iload_n 3, 1) := by decide +kernel
theorem dX4_refusalAtCell_149 : decode cX4_refusalAtCell 149 = .ok (.aload_n 1, 1) := by decide +kernel
theorem dX4_refusalAtCell_150 : decode cX4_refusalAtCell 150 = .ok (.getfield 202, 3) := by decide +kernel
theorem dX4_refusalAtCell_153 : decode cX4_refusalAtCell 153 = .ok (.invokestatic 243, 3) := by decide +kernel
theorem dX4_refusalAtCell_156 : decode cX4_refusalAtCell 156 = .ok (.ifCond .eq 7, 3) := by decide +kernel
theorem dX4_refusalAtCell_159 : decode cX4_refusalAtCell 159 = .ok (.iconst 0, 1) := by decide +kernel
theorem dX4_refusalAtCell_160 : decode cX4_refusalAtCell 160 = .ok (.goto 5, 3) := by decide +kernel
theorem dX4_refusalAtCell_163 : decode cX4_refusalAtCell 163 = .ok (.bipush 6, 2) := by decide +kernel
theorem dX4_refusalAtCell_165 : decode cX4_refusalAtCell 165 = .ok (.ireturn, 1) := by decide +kernel
theorem dX4_refusalAtCell_166 : decode cX4_refusalAtCell 166 = .ok (.aload_n 1, 1) := by decide +kernel
theorem dX4_refusalAtCell_167 : decode cX4_refusalAtCell 167 = .ok (.getfield 202, 3) := by decide +kernel
theorem dX4_refusalAtCell_170 : decode cX4_refusalAtCell 170 = .ok (.iload_n 3, 1) := by decide +kernel
theorem dX4_refusalAtCell_171 : decode cX4_refusalAtCell 171 = .ok (.invokestatic 243, 3) := by decide +kernel
theorem dX4_refusalAtCell_174 : decode cX4_refusalAtCell 174 = .ok (.ifCond .eq 7, 3) := by decide +kernel
theorem dX4_refusalAtCell_177 : decode cX4_refusalAtCell 177 = .ok (.iconst 0, 1) := by decide +kernel
theorem dX4_refusalAtCell_178 : decode cX4_refusalAtCell 178 = .ok (.goto 5, 3) := by decide +kernel
theorem dX4_refusalAtCell_181 : decode cX4_refusalAtCell 181 = .ok (.bipush 6, 2) := by decide +kernel
theorem dX4_refusalAtCell_183 : decode cX4_refusalAtCell 183 = .ok (.ireturn, 1) := by decide +kernel
theorem dX4_refusalAtCell_184 : decode cX4_refusalAtCell 184 = .ok (.iload_n 3, 1) := by decide +kernel
theorem dX4_refusalAtCell_185 : decode cX4_refusalAtCell 185 = .ok (.aload_n 0, 1) := by decide +kernel
theorem dX4_refusalAtCell_186 : decode cX4_refusalAtCell 186 = .ok (.getfield 37, 3) := by decide +kernel
theorem dX4_refusalAtCell_189 : decode cX4_refusalAtCell 189 = .ok (.getfield 152, 3) := by decide +kernel
theorem dX4_refusalAtCell_192 : decode cX4_refusalAtCell 192 = .ok (.invokestatic 240, 3) := by decide +kernel
theorem dX4_refusalAtCell_195 : decode cX4_refusalAtCell 195 = .ok (.ifCond .ne 7, 3) := by decide +kernel
theorem dX4_refusalAtCell_198 : decode cX4_refusalAtCell 198 = .ok (.iconst 0, 1) := by decide +kernel
theorem dX4_refusalAtCell_199 : decode cX4_refusalAtCell 199 = .ok (.goto 5, 3) := by decide +kernel
theorem dX4_refusalAtCell_202 : decode cX4_refusalAtCell 202 = .ok (.bipush 6, 2) := by decide +kernel
theorem dX4_refusalAtCell_204 : decode cX4_refusalAtCell 204 = .ok (.ireturn, 1) := by decide +kernel
theorem dX4_refusalAtCell_205 : decode cX4_refusalAtCell 205 = .ok (.iconst 0, 1) := by decide +kernel
theorem dX4_refusalAtCell_206 : decode cX4_refusalAtCell 206 = .ok (.ireturn, 1) := by decide +kernel
theorem dX4_usePlace_0 : decode cX4_usePlace 0 = .ok (.aload_n 1, 1) := by decide +kernel
theorem dX4_usePlace_1 : decode cX4_usePlace 1 = .ok (.getfield 149, 3) := by decide +kernel
theorem dX4_usePlace_4 : decode cX4_usePlace 4 = .ok (.iconst 5, 1) := by decide +kernel
theorem dX4_usePlace_5 : decode cX4_usePlace 5 = .ok (.if_icmp .ne 20, 3) := by decide +kernel
theorem dX4_usePlace_8 : decode cX4_usePlace 8 = .ok (.aload_n 0, 1) := by decide +kernel
theorem dX4_usePlace_9 : decode cX4_usePlace 9 = .ok (.getfield 37, 3) := by decide +kernel
theorem dX4_usePlace_12 : decode cX4_usePlace 12 = .ok (.getfield 152, 3) := by decide +kernel
theorem dX4_usePlace_15 : decode cX4_usePlace 15 = .ok (.aload_n 1, 1) := by decide +kernel
theorem dX4_usePlace_16 : decode cX4_usePlace 16 = .ok (.getfield 202, 3) := by decide +kernel
theorem dX4_usePlace_19 : decode cX4_usePlace 19 = .ok (.if_icmp .eq 6, 3) := by decide +kernel
theorem dX4_usePlace_22 : decode cX4_usePlace 22 = .ok (.bipush 6, 2) := by decide +kernel
theorem dX4_usePlace_24 : decode cX4_usePlace 24 = .ok (.ireturn, 1) := by decide +kernel
theorem dX4_usePlace_25 : decode cX4_usePlace 25 = .ok (.aload_n 0, 1) := by decide +kernel
theorem dX4_usePlace_26 : decode cX4_usePlace 26 = .ok (.aload_n 1, 1) := by decide +kernel
theorem dX4_usePlace_27 : decode cX4_usePlace 27 = .ok (.invokevirtual 203, 3) := by decide +kernel
theorem dX4_usePlace_30 : decode cX4_usePlace 30 = .ok (.istore_n 2, 1) := by decide +kernel
theorem dX4_usePlace_31 : decode cX4_usePlace 31 = .ok (.iload_n 2, 1) := by decide +kernel
theorem dX4_usePlace_32 : decode cX4_usePlace 32 = .ok (.ifCond .eq 5, 3) := by decide +kernel
theorem dX4_usePlace_35 : decode cX4_usePlace 35 = .ok (.iload_n 2, 1) := by decide +kernel
theorem dX4_usePlace_36 : decode cX4_usePlace 36 = .ok (.ireturn, 1) := by decide +kernel
theorem dX4_usePlace_37 : decode cX4_usePlace 37 = .ok (.aload_n 0, 1) := by decide +kernel
theorem dX4_usePlace_38 : decode cX4_usePlace 38 = .ok (.aload_n 1, 1) := by decide +kernel
theorem dX4_usePlace_39 : decode cX4_usePlace 39 = .ok (.aload_n 0, 1) := by decide +kernel
theorem dX4_usePlace_40 : decode cX4_usePlace 40 = .ok (.aload_n 1, 1) := by decide +kernel
theorem dX4_usePlace_41 : decode cX4_usePlace 41 = .ok (.invokevirtual 206, 3) := by decide +kernel
theorem dX4_usePlace_44 : decode cX4_usePlace 44 = .ok (.invokevirtual 209, 3) := by decide +kernel
theorem dX4_usePlace_47 : decode cX4_usePlace 47 = .ok (.istore_n 2, 1) := by decide +kernel
theorem dX4_usePlace_48 : decode cX4_usePlace 48 = .ok (.iload_n 2, 1) := by decide +kernel
theorem dX4_usePlace_49 : decode cX4_usePlace 49 = .ok (.ifCond .eq 5, 3) := by decide +kernel
theorem dX4_usePlace_52 : decode cX4_usePlace 52 = .ok (.iload_n 2, 1) := by decide +kernel
theorem dX4_usePlace_53 : decode cX4_usePlace 53 = .ok (.ireturn, 1) := by decide +kernel
theorem dX4_usePlace_54 : decode cX4_usePlace 54 = .ok (.aload_n 1, 1) := by decide +kernel
theorem dX4_usePlace_55 : decode cX4_usePlace 55 = .ok (.getfield 149, 3) := by decide +kernel
theorem dX4_usePlace_58 : decode cX4_usePlace 58 = .ok (.tableswitch 110 2 6 #[34, 110, 63, 110, 34], 34) := by decide +kernel
theorem dX4_usePlace_92 : decode cX4_usePlace 92 = .ok (.aload_n 0, 1) := by decide +kernel
theorem dX4_usePlace_93 : decode cX4_usePlace 93 = .ok (.getfield 12, 3) := by decide +kernel
theorem dX4_usePlace_96 : decode cX4_usePlace 96 = .ok (.aload_n 0, 1) := by decide +kernel
theorem dX4_usePlace_97 : decode cX4_usePlace 97 = .ok (.getfield 44, 3) := by decide +kernel
theorem dX4_usePlace_100 : decode cX4_usePlace 100 = .ok (.invokevirtual 120, 3) := by decide +kernel
theorem dX4_usePlace_103 : decode cX4_usePlace 103 = .ok (.aload_n 0, 1) := by decide +kernel
theorem dX4_usePlace_104 : decode cX4_usePlace 104 = .ok (.aload_n 1, 1) := by decide +kernel
theorem dX4_usePlace_105 : decode cX4_usePlace 105 = .ok (.invokevirtual 206, 3) := by decide +kernel
theorem dX4_usePlace_108 : decode cX4_usePlace 108 = .ok (.aload_n 0, 1) := by decide +kernel
theorem dX4_usePlace_109 : decode cX4_usePlace 109 = .ok (.aload_n 1, 1) := by decide +kernel
theorem dX4_usePlace_110 : decode cX4_usePlace 110 = .ok (.getfield 213, 3) := by decide +kernel
theorem dX4_usePlace_113 : decode cX4_usePlace 113 = .ok (.invokevirtual 50, 3) := by decide +kernel
theorem dX4_usePlace_116 : decode cX4_usePlace 116 = .ok (.invokevirtual 216, 3) := by decide +kernel
theorem dX4_usePlace_119 : decode cX4_usePlace 119 = .ok (.iconst 0, 1) := by decide +kernel
theorem dX4_usePlace_120 : decode cX4_usePlace 120 = .ok (.ireturn, 1) := by decide +kernel
theorem dX4_usePlace_121 : decode cX4_usePlace 121 = .ok (.aload_n 0, 1) := by decide +kernel
theorem dX4_usePlace_122 : decode cX4_usePlace 122 = .ok (.getfield 12, 3) := by decide +kernel
theorem dX4_usePlace_125 : decode cX4_usePlace 125 = .ok (.aload_n 0, 1) := by decide +kernel
theorem dX4_usePlace_126 : decode cX4_usePlace 126 = .ok (.getfield 44, 3) := by decide +kernel
theorem dX4_usePlace_129 : decode cX4_usePlace 129 = .ok (.invokevirtual 120, 3) := by decide +kernel
theorem dX4_usePlace_132 : decode cX4_usePlace 132 = .ok (.aload_n 0, 1) := by decide +kernel
theorem dX4_usePlace_133 : decode cX4_usePlace 133 = .ok (.aload_n 1, 1) := by decide +kernel
theorem dX4_usePlace_134 : decode cX4_usePlace 134 = .ok (.invokevirtual 206, 3) := by decide +kernel
theorem dX4_usePlace_137 : decode cX4_usePlace 137 = .ok (.aload_n 0, 1) := by decide +kernel
theorem dX4_usePlace_138 : decode cX4_usePlace 138 = .ok (.getfield 44, 3) := by decide +kernel
theorem dX4_usePlace_141 : decode cX4_usePlace 141 = .ok (.invokevirtual 216, 3) := by decide +kernel
theorem dX4_usePlace_144 : decode cX4_usePlace 144 = .ok (.aload_n 0, 1) := by decide +kernel
theorem dX4_usePlace_145 : decode cX4_usePlace 145 = .ok (.aload_n 1, 1) := by decide +kernel
theorem dX4_usePlace_146 : decode cX4_usePlace 146 = .ok (.aload_n 1, 1) := by decide +kernel
theorem dX4_usePlace_147 : decode cX4_usePlace 147 = .ok (.getfield 202, 3) := by decide +kernel
theorem dX4_usePlace_150 : decode cX4_usePlace 150 = .ok (.aload_n 0, 1) := by decide +kernel
theorem dX4_usePlace_151 : decode cX4_usePlace 151 = .ok (.getfield 44, 3) := by decide +kernel
theorem dX4_usePlace_154 : decode cX4_usePlace 154 = .ok (.getfield 155, 3) := by decide +kernel
theorem dX4_usePlace_157 : decode cX4_usePlace 157 = .ok (.aload_n 1, 1) := by decide +kernel
theorem dX4_usePlace_158 : decode cX4_usePlace 158 = .ok (.getfield 202, 3) := by decide +kernel
theorem dX4_usePlace_161 : decode cX4_usePlace 161 = .ok (.invokestatic 220, 3) := by decide +kernel
theorem dX4_usePlace_164 : decode cX4_usePlace 164 = .ok (.invokevirtual 159, 3) := by decide +kernel
theorem dX4_usePlace_167 : decode cX4_usePlace 167 = .ok (.ireturn, 1) := by decide +kernel
theorem dX4_usePlace_168 : decode cX4_usePlace 168 = .ok (.aload_n 0, 1) := by decide +kernel
theorem dX4_usePlace_169 : decode cX4_usePlace 169 = .ok (.aload_n 0, 1) := by decide +kernel
theorem dX4_usePlace_170 : decode cX4_usePlace 170 = .ok (.getfield 44, 3) := by decide +kernel
theorem dX4_usePlace_173 : decode cX4_usePlace 173 = .ok (.aload_n 0, 1) := by decide +kernel
theorem dX4_usePlace_174 : decode cX4_usePlace 174 = .ok (.aload_n 1, 1) := by decide +kernel
theorem dX4_usePlace_175 : decode cX4_usePlace 175 = .ok (.invokevirtual 206, 3) := by decide +kernel
theorem dX4_usePlace_178 : decode cX4_usePlace 178 = .ok (.invokevirtual 226, 3) := by decide +kernel
theorem dX4_usePlace_181 : decode cX4_usePlace 181 = .ok (.iconst 0, 1) := by decide +kernel
theorem dX4_usePlace_182 : decode cX4_usePlace 182 = .ok (.ireturn, 1) := by decide +kernel
theorem dX4_makeLevel_0 : decode cX4_makeLevel 0 = .ok (.iload_n 2, 1) := by decide +kernel
theorem dX4_makeLevel_1 : decode cX4_makeLevel 1 = .ok (.iload_n 3, 1) := by decide +kernel
theorem dX4_makeLevel_2 : decode cX4_makeLevel 2 = .ok (.if_icmp .ge 12, 3) := by decide +kernel
theorem dX4_makeLevel_5 : decode cX4_makeLevel 5 = .ok (.iload_n 2, 1) := by decide +kernel
theorem dX4_makeLevel_6 : decode cX4_makeLevel 6 = .ok (.aload_n 0, 1) := by decide +kernel
theorem dX4_makeLevel_7 : decode cX4_makeLevel 7 = .ok (.getfield 33, 3) := by decide +kernel
theorem dX4_makeLevel_10 : decode cX4_makeLevel 10 = .ok (.arraylength, 1) := by decide +kernel
theorem dX4_makeLevel_11 : decode cX4_makeLevel 11 = .ok (.if_icmp .lt 5, 3) := by decide +kernel
theorem dX4_makeLevel_14 : decode cX4_makeLevel 14 = .ok (.iconst 0, 1) := by decide +kernel
theorem dX4_makeLevel_15 : decode cX4_makeLevel 15 = .ok (.ireturn, 1) := by decide +kernel
theorem dX4_makeLevel_16 : decode cX4_makeLevel 16 = .ok (.aload_n 0, 1) := by decide +kernel
theorem dX4_makeLevel_17 : decode cX4_makeLevel 17 = .ok (.getfield 12, 3) := by decide +kernel
theorem dX4_makeLevel_20 : decode cX4_makeLevel 20 = .ok (.iload_n 1, 1) := by decide +kernel
theorem dX4_makeLevel_21 : decode cX4_makeLevel 21 = .ok (.aload_n 0, 1) := by decide +kernel
theorem dX4_makeLevel_22 : decode cX4_makeLevel 22 = .ok (.getfield 33, 3) := by decide +kernel
theorem dX4_makeLevel_25 : decode cX4_makeLevel 25 = .ok (.iload_n 2, 1) := by decide +kernel
theorem dX4_makeLevel_26 : decode cX4_makeLevel 26 = .ok (.iaload, 1) := by decide +kernel
theorem dX4_makeLevel_27 : decode cX4_makeLevel 27 = .ok (.invokevirtual 285, 3) := by decide +kernel
theorem dX4_makeLevel_30 : decode cX4_makeLevel 30 = .ok (.istore 4, 2) := by decide +kernel
theorem dX4_makeLevel_32 : decode cX4_makeLevel 32 = .ok (.iload_n 2, 1) := by decide +kernel
theorem dX4_makeLevel_33 : decode cX4_makeLevel 33 = .ok (.iconst 1, 1) := by decide +kernel
theorem dX4_makeLevel_34 : decode cX4_makeLevel 34 = .ok (.iadd, 1) := by decide +kernel
theorem dX4_makeLevel_35 : decode cX4_makeLevel 35 = .ok (.iload_n 3, 1) := by decide +kernel
theorem dX4_makeLevel_36 : decode cX4_makeLevel 36 = .ok (.if_icmp .ge 50, 3) := by decide +kernel
theorem dX4_makeLevel_39 : decode cX4_makeLevel 39 = .ok (.iconst 0, 1) := by decide +kernel
theorem dX4_makeLevel_40 : decode cX4_makeLevel 40 = .ok (.istore 5, 2) := by decide +kernel
theorem dX4_makeLevel_42 : decode cX4_makeLevel 42 = .ok (.iload 5, 2) := by decide +kernel
theorem dX4_makeLevel_44 : decode cX4_makeLevel 44 = .ok (.aload_n 0, 1) := by decide +kernel
theorem dX4_makeLevel_45 : decode cX4_makeLevel 45 = .ok (.getfield 12, 3) := by decide +kernel
theorem dX4_makeLevel_48 : decode cX4_makeLevel 48 = .ok (.iload 4, 2) := by decide +kernel
theorem dX4_makeLevel_50 : decode cX4_makeLevel 50 = .ok (.invokevirtual 124, 3) := by decide +kernel
theorem dX4_makeLevel_53 : decode cX4_makeLevel 53 = .ok (.if_icmp .ge 33, 3) := by decide +kernel
theorem dX4_makeLevel_56 : decode cX4_makeLevel 56 = .ok (.aload_n 0, 1) := by decide +kernel
theorem dX4_makeLevel_57 : decode cX4_makeLevel 57 = .ok (.getfield 12, 3) := by decide +kernel
theorem dX4_makeLevel_60 : decode cX4_makeLevel 60 = .ok (.iload 4, 2) := by decide +kernel
theorem dX4_makeLevel_62 : decode cX4_makeLevel 62 = .ok (.iload 5, 2) := by decide +kernel
theorem dX4_makeLevel_64 : decode cX4_makeLevel 64 = .ok (.aload_n 0, 1) := by decide +kernel
theorem dX4_makeLevel_65 : decode cX4_makeLevel 65 = .ok (.iload_n 1, 1) := by decide +kernel
theorem dX4_makeLevel_66 : decode cX4_makeLevel 66 = .ok (.invokestatic 230, 3) := by decide +kernel
theorem dX4_makeLevel_69 : decode cX4_makeLevel 69 = .ok (.iload_n 2, 1) := by decide +kernel
theorem dX4_makeLevel_70 : decode cX4_makeLevel 70 = .ok (.iconst 1, 1) := by decide +kernel
theorem dX4_makeLevel_71 : decode cX4_makeLevel 71 = .ok (.iadd, 1) := by decide +kernel
theorem dX4_makeLevel_72 : decode cX4_makeLevel 72 = .ok (.iload_n 3, 1) := by decide +kernel
theorem dX4_makeLevel_73 : decode cX4_makeLevel 73 = .ok (.invokevirtual 281, 3) := by decide +kernel
theorem dX4_makeLevel_76 : decode cX4_makeLevel 76 = .ok (.i2l, 1) := by decide +kernel
theorem dX4_makeLevel_77 : decode cX4_makeLevel 77 = .ok (.invokevirtual 273, 3) := by decide +kernel
theorem dX4_makeLevel_80 : decode cX4_makeLevel 80 = .ok (.iinc 5 1, 3) := by decide +kernel
theorem dX4_makeLevel_83 : decode cX4_makeLevel 83 = .ok (.goto (-41), 3) := by decide +kernel
theorem dX4_makeLevel_86 : decode cX4_makeLevel 86 = .ok (.iload 4, 2) := by decide +kernel
theorem dX4_makeLevel_88 : decode cX4_makeLevel 88 = .ok (.ireturn, 1) := by decide +kernel
theorem dX4_makeArrays_0 : decode cX4_makeArrays 0 = .ok (.lconst 0, 1) := by decide +kernel
theorem dX4_makeArrays_1 : decode cX4_makeArrays 1 = .ok (.lstore_n 2, 1) := by decide +kernel
theorem dX4_makeArrays_2 : decode cX4_makeArrays 2 = .ok (.lconst 0, 1) := by decide +kernel
theorem dX4_makeArrays_3 : decode cX4_makeArrays 3 = .ok (.lstore 4, 2) := by decide +kernel
theorem dX4_makeArrays_5 : decode cX4_makeArrays 5 = .ok (.lconst 1, 1) := by decide +kernel
theorem dX4_makeArrays_6 : decode cX4_makeArrays 6 = .ok (.lstore 6, 2) := by decide +kernel
theorem dX4_makeArrays_8 : decode cX4_makeArrays 8 = .ok (.iconst 0, 1) := by decide +kernel
theorem dX4_makeArrays_9 : decode cX4_makeArrays 9 = .ok (.istore 8, 2) := by decide +kernel
theorem dX4_makeArrays_11 : decode cX4_makeArrays 11 = .ok (.iload 8, 2) := by decide +kernel
theorem dX4_makeArrays_13 : decode cX4_makeArrays 13 = .ok (.aload_n 1, 1) := by decide +kernel
theorem dX4_makeArrays_14 : decode cX4_makeArrays 14 = .ok (.getfield 246, 3) := by decide +kernel
theorem dX4_makeArrays_17 : decode cX4_makeArrays 17 = .ok (.if_icmp .ge 31, 3) := by decide +kernel
theorem dX4_makeArrays_20 : decode cX4_makeArrays 20 = .ok (.iload 8, 2) := by decide +kernel
theorem dX4_makeArrays_22 : decode cX4_makeArrays 22 = .ok (.aload_n 0, 1) := by decide +kernel
theorem dX4_makeArrays_23 : decode cX4_makeArrays 23 = .ok (.getfield 33, 3) := by decide +kernel
theorem dX4_makeArrays_26 : decode cX4_makeArrays 26 = .ok (.arraylength, 1) := by decide +kernel
theorem dX4_makeArrays_27 : decode cX4_makeArrays 27 = .ok (.if_icmp .ge 21, 3) := by decide +kernel
theorem dX4_makeArrays_30 : decode cX4_makeArrays 30 = .ok (.aload_n 0, 1) := by decide +kernel
theorem dX4_makeArrays_31 : decode cX4_makeArrays 31 = .ok (.getfield 33, 3) := by decide +kernel
theorem dX4_makeArrays_34 : decode cX4_makeArrays 34 = .ok (.iload 8, 2) := by decide +kernel
theorem dX4_makeArrays_36 : decode cX4_makeArrays 36 = .ok (.iaload, 1) := by decide +kernel
theorem dX4_makeArrays_37 : decode cX4_makeArrays 37 = .ok (.ifCond .ge 5, 3) := by decide +kernel
theorem dX4_makeArrays_40 : decode cX4_makeArrays 40 = .ok (.iconst 3, 1) := by decide +kernel
theorem dX4_makeArrays_41 : decode cX4_makeArrays 41 = .ok (.ireturn, 1) := by decide +kernel
theorem dX4_makeArrays_42 : decode cX4_makeArrays 42 = .ok (.iinc 8 1, 3) := by decide +kernel
theorem dX4_makeArrays_45 : decode cX4_makeArrays 45 = .ok (.goto (-34), 3) := by decide +kernel
theorem dX4_makeArrays_48 : decode cX4_makeArrays 48 = .ok (.iconst 0, 1) := by decide +kernel
theorem dX4_makeArrays_49 : decode cX4_makeArrays 49 = .ok (.istore 8, 2) := by decide +kernel
theorem dX4_makeArrays_51 : decode cX4_makeArrays 51 = .ok (.iload 8, 2) := by decide +kernel
theorem dX4_makeArrays_53 : decode cX4_makeArrays 53 = .ok (.aload_n 1, 1) := by decide +kernel
theorem dX4_makeArrays_54 : decode cX4_makeArrays 54 = .ok (.getfield 246, 3) := by decide +kernel
theorem dX4_makeArrays_57 : decode cX4_makeArrays 57 = .ok (.if_icmp .ge 60, 3) := by decide +kernel
theorem dX4_makeArrays_60 : decode cX4_makeArrays 60 = .ok (.iload 8, 2) := by decide +kernel
theorem dX4_makeArrays_62 : decode cX4_makeArrays 62 = .ok (.aload_n 0, 1) := by decide +kernel
theorem dX4_makeArrays_63 : decode cX4_makeArrays 63 = .ok (.getfield 33, 3) := by decide +kernel
theorem dX4_makeArrays_66 : decode cX4_makeArrays 66 = .ok (.arraylength, 1) := by decide +kernel
theorem dX4_makeArrays_67 : decode cX4_makeArrays 67 = .ok (.if_icmp .ge 50, 3) := by decide +kernel
theorem dX4_makeArrays_70 : decode cX4_makeArrays 70 = .ok (.lload_n 2, 1) := by decide +kernel
theorem dX4_makeArrays_71 : decode cX4_makeArrays 71 = .ok (.lload 6, 2) := by decide +kernel
theorem dX4_makeArrays_73 : decode cX4_makeArrays 73 = .ok (.ladd, 1) := by decide +kernel
theorem dX4_makeArrays_74 : decode cX4_makeArrays 74 = .ok (.lstore_n 2, 1) := by decide +kernel
theorem dX4_makeArrays_75 : decode cX4_makeArrays 75 = .ok (.lload 6, 2) := by decide +kernel
theorem dX4_makeArrays_77 : decode cX4_makeArrays 77 = .ok (.aload_n 0, 1) := by decide +kernel
theorem dX4_makeArrays_78 : decode cX4_makeArrays 78 = .ok (.getfield 33, 3) := by decide +kernel
theorem dX4_makeArrays_81 : decode cX4_makeArrays 81 = .ok (.iload 8, 2) := by decide +kernel
theorem dX4_makeArrays_83 : decode cX4_makeArrays 83 = .ok (.iaload, 1) := by decide +kernel
theorem dX4_makeArrays_84 : decode cX4_makeArrays 84 = .ok (.i2l, 1) := by decide +kernel
theorem dX4_makeArrays_85 : decode cX4_makeArrays 85 = .ok (.lmul, 1) := by decide +kernel
theorem dX4_makeArrays_86 : decode cX4_makeArrays 86 = .ok (.lstore 6, 2) := by decide +kernel
theorem dX4_makeArrays_88 : decode cX4_makeArrays 88 = .ok (.lload 4, 2) := by decide +kernel
theorem dX4_makeArrays_90 : decode cX4_makeArrays 90 = .ok (.lload 6, 2) := by decide +kernel
theorem dX4_makeArrays_92 : decode cX4_makeArrays 92 = .ok (.ladd, 1) := by decide +kernel
theorem dX4_makeArrays_93 : decode cX4_makeArrays 93 = .ok (.lstore 4, 2) := by decide +kernel
theorem dX4_makeArrays_95 : decode cX4_makeArrays 95 = .ok (.aload_n 0, 1) := by decide +kernel
theorem dX4_makeArrays_96 : decode cX4_makeArrays 96 = .ok (.getfield 12, 3) := by decide +kernel
theorem dX4_makeArrays_99 : decode cX4_makeArrays 99 = .ok (.lload_n 2, 1) := by decide +kernel
theorem dX4_makeArrays_100 : decode cX4_makeArrays 100 = .ok (.lload 4, 2) := by decide +kernel
theorem dX4_makeArrays_102 : decode cX4_makeArrays 102 = .ok (.invokevirtual 277, 3) := by decide +kernel
theorem dX4_makeArrays_105 : decode cX4_makeArrays 105 = .ok (.ifCond .ne 6, 3) := by decide +kernel
theorem dX4_makeArrays_108 : decode cX4_makeArrays 108 = .ok (.bipush 7, 2) := by decide +kernel
theorem dX4_makeArrays_110 : decode cX4_makeArrays 110 = .ok (.ireturn, 1) := by decide +kernel
theorem dX4_makeArrays_111 : decode cX4_makeArrays 111 = .ok (.iinc 8 1, 3) := by decide +kernel
theorem dX4_makeArrays_114 : decode cX4_makeArrays 114 = .ok (.goto (-63), 3) := by decide +kernel
theorem dX4_makeArrays_117 : decode cX4_makeArrays 117 = .ok (.aload_n 0, 1) := by decide +kernel
theorem dX4_makeArrays_118 : decode cX4_makeArrays 118 = .ok (.aload_n 1, 1) := by decide +kernel
theorem dX4_makeArrays_119 : decode cX4_makeArrays 119 = .ok (.aload_n 1, 1) := by decide +kernel
theorem dX4_makeArrays_120 : decode cX4_makeArrays 120 = .ok (.getfield 202, 3) := by decide +kernel
theorem dX4_makeArrays_123 : decode cX4_makeArrays 123 = .ok (.aload_n 0, 1) := by decide +kernel
theorem dX4_makeArrays_124 : decode cX4_makeArrays 124 = .ok (.aload_n 1, 1) := by decide +kernel
theorem dX4_makeArrays_125 : decode cX4_makeArrays 125 = .ok (.getfield 202, 3) := by decide +kernel
theorem dX4_makeArrays_128 : decode cX4_makeArrays 128 = .ok (.iconst 0, 1) := by decide +kernel
theorem dX4_makeArrays_129 : decode cX4_makeArrays 129 = .ok (.aload_n 1, 1) := by decide +kernel
theorem dX4_makeArrays_130 : decode cX4_makeArrays 130 = .ok (.getfield 246, 3) := by decide +kernel
theorem dX4_makeArrays_133 : decode cX4_makeArrays 133 = .ok (.invokevirtual 281, 3) := by decide +kernel
theorem dX4_makeArrays_136 : decode cX4_makeArrays 136 = .ok (.i2l, 1) := by decide +kernel
theorem dX4_makeArrays_137 : decode cX4_makeArrays 137 = .ok (.invokevirtual 159, 3) := by decide +kernel
theorem dX4_makeArrays_140 : decode cX4_makeArrays 140 = .ok (.ireturn, 1) := by decide +kernel
theorem dX4_cloneArray_0 : decode cX4_cloneArray 0 = .ok (.aload_n 0, 1) := by decide +kernel
theorem dX4_cloneArray_1 : decode cX4_cloneArray 1 = .ok (.aload_n 1, 1) := by decide +kernel
theorem dX4_cloneArray_2 : decode cX4_cloneArray 2 = .ok (.getfield 266, 3) := by decide +kernel
theorem dX4_cloneArray_5 : decode cX4_cloneArray 5 = .ok (.invokevirtual 50, 3) := by decide +kernel
theorem dX4_cloneArray_8 : decode cX4_cloneArray 8 = .ok (.astore_n 2, 1) := by decide +kernel
theorem dX4_cloneArray_9 : decode cX4_cloneArray 9 = .ok (.aload_n 2, 1) := by decide +kernel
theorem dX4_cloneArray_10 : decode cX4_cloneArray 10 = .ok (.invokestatic 269, 3) := by decide +kernel
theorem dX4_cloneArray_13 : decode cX4_cloneArray 13 = .ok (.istore_n 3, 1) := by decide +kernel
theorem dX4_cloneArray_14 : decode cX4_cloneArray 14 = .ok (.iload_n 3, 1) := by decide +kernel
theorem dX4_cloneArray_15 : decode cX4_cloneArray 15 = .ok (.ifCond .eq 5, 3) := by decide +kernel
theorem dX4_cloneArray_18 : decode cX4_cloneArray 18 = .ok (.iload_n 3, 1) := by decide +kernel
theorem dX4_cloneArray_19 : decode cX4_cloneArray 19 = .ok (.ireturn, 1) := by decide +kernel
theorem dX4_cloneArray_20 : decode cX4_cloneArray 20 = .ok (.aload_n 0, 1) := by decide +kernel
theorem dX4_cloneArray_21 : decode cX4_cloneArray 21 = .ok (.getfield 12, 3) := by decide +kernel
theorem dX4_cloneArray_24 : decode cX4_cloneArray 24 = .ok (.lconst 1, 1) := by decide +kernel
theorem dX4_cloneArray_25 : decode cX4_cloneArray 25 = .ok (.aload_n 0, 1) := by decide +kernel
theorem dX4_cloneArray_26 : decode cX4_cloneArray 26 = .ok (.getfield 12, 3) := by decide +kernel
theorem dX4_cloneArray_29 : decode cX4_cloneArray 29 = .ok (.aload_n 2, 1) := by decide +kernel
theorem dX4_cloneArray_30 : decode cX4_cloneArray 30 = .ok (.invokevirtual 120, 3) := by decide +kernel
theorem dX4_cloneArray_33 : decode cX4_cloneArray 33 = .ok (.invokevirtual 124, 3) := by decide +kernel
theorem dX4_cloneArray_36 : decode cX4_cloneArray 36 = .ok (.i2l, 1) := by decide +kernel
theorem dX4_cloneArray_37 : decode cX4_cloneArray 37 = .ok (.invokevirtual 277, 3) := by decide +kernel
theorem dX4_cloneArray_40 : decode cX4_cloneArray 40 = .ok (.ifCond .ne 6, 3) := by decide +kernel
theorem dX4_cloneArray_43 : decode cX4_cloneArray 43 = .ok (.bipush 7, 2) := by decide +kernel
theorem dX4_cloneArray_45 : decode cX4_cloneArray 45 = .ok (.ireturn, 1) := by decide +kernel
theorem dX4_cloneArray_46 : decode cX4_cloneArray 46 = .ok (.aload_n 0, 1) := by decide +kernel
theorem dX4_cloneArray_47 : decode cX4_cloneArray 47 = .ok (.aload_n 1, 1) := by decide +kernel
theorem dX4_cloneArray_48 : decode cX4_cloneArray 48 = .ok (.aload_n 2, 1) := by decide +kernel
theorem dX4_cloneArray_49 : decode cX4_cloneArray 49 = .ok (.getfield 152, 3) := by decide +kernel
theorem dX4_cloneArray_52 : decode cX4_cloneArray 52 = .ok (.aload_n 0, 1) := by decide +kernel
theorem dX4_cloneArray_53 : decode cX4_cloneArray 53 = .ok (.getfield 12, 3) := by decide +kernel
theorem dX4_cloneArray_56 : decode cX4_cloneArray 56 = .ok (.aload_n 2, 1) := by decide +kernel
theorem dX4_cloneArray_57 : decode cX4_cloneArray 57 = .ok (.invokevirtual 120, 3) := by decide +kernel
theorem dX4_cloneArray_60 : decode cX4_cloneArray 60 = .ok (.invokevirtual 288, 3) := by decide +kernel
theorem dX4_cloneArray_63 : decode cX4_cloneArray 63 = .ok (.i2l, 1) := by decide +kernel
theorem dX4_cloneArray_64 : decode cX4_cloneArray 64 = .ok (.invokevirtual 159, 3) := by decide +kernel
theorem dX4_cloneArray_67 : decode cX4_cloneArray 67 = .ok (.ireturn, 1) := by decide +kernel
theorem dX4_castValue_0 : decode cX4_castValue 0 = .ok (.aload_n 0, 1) := by decide +kernel
theorem dX4_castValue_1 : decode cX4_castValue 1 = .ok (.aload_n 1, 1) := by decide +kernel
theorem dX4_castValue_2 : decode cX4_castValue 2 = .ok (.getfield 266, 3) := by decide +kernel
theorem dX4_castValue_5 : decode cX4_castValue 5 = .ok (.invokevirtual 50, 3) := by decide +kernel
theorem dX4_castValue_8 : decode cX4_castValue 8 = .ok (.astore_n 2, 1) := by decide +kernel
theorem dX4_castValue_9 : decode cX4_castValue 9 = .ok (.aload_n 2, 1) := by decide +kernel
theorem dX4_castValue_10 : decode cX4_castValue 10 = .ok (.invokevirtual 135, 3) := by decide +kernel
theorem dX4_castValue_13 : decode cX4_castValue 13 = .ok (.ifCond .eq 17, 3) := by decide +kernel
theorem dX4_castValue_16 : decode cX4_castValue 16 = .ok (.aload_n 2, 1) := by decide +kernel
theorem dX4_castValue_17 : decode cX4_castValue 17 = .ok (.getfield 152, 3) := by decide +kernel
theorem dX4_castValue_20 : decode cX4_castValue 20 = .ok (.aload_n 1, 1) := by decide +kernel
theorem dX4_castValue_21 : decode cX4_castValue 21 = .ok (.getfield 202, 3) := by decide +kernel
theorem dX4_castValue_24 : decode cX4_castValue 24 = .ok (.if_icmp .eq 6, 3) := by decide +kernel
theorem dX4_castValue_27 : decode cX4_castValue 27 = .ok (.bipush 6, 2) := by decide +kernel
theorem dX4_castValue_29 : decode cX4_castValue 29 = .ok (.ireturn, 1) := by decide +kernel
theorem dX4_castValue_30 : decode cX4_castValue 30 = .ok (.aload_n 2, 1) := by decide +kernel
theorem dX4_castValue_31 : decode cX4_castValue 31 = .ok (.invokevirtual 132, 3) := by decide +kernel
theorem dX4_castValue_34 : decode cX4_castValue 34 = .ok (.ifCond .ne 19, 3) := by decide +kernel
theorem dX4_castValue_37 : decode cX4_castValue 37 = .ok (.aload_n 2, 1) := by decide +kernel
theorem dX4_castValue_38 : decode cX4_castValue 38 = .ok (.getfield 152, 3) := by decide +kernel
theorem dX4_castValue_41 : decode cX4_castValue 41 = .ok (.aload_n 1, 1) := by decide +kernel
theorem dX4_castValue_42 : decode cX4_castValue 42 = .ok (.getfield 202, 3) := by decide +kernel
theorem dX4_castValue_45 : decode cX4_castValue 45 = .ok (.invokestatic 291, 3) := by decide +kernel
theorem dX4_castValue_48 : decode cX4_castValue 48 = .ok (.ifCond .ne 5, 3) := by decide +kernel
theorem dX4_castValue_51 : decode cX4_castValue 51 = .ok (.iconst 5, 1) := by decide +kernel
theorem dX4_castValue_52 : decode cX4_castValue 52 = .ok (.ireturn, 1) := by decide +kernel
theorem dX4_castValue_53 : decode cX4_castValue 53 = .ok (.aload_n 0, 1) := by decide +kernel
theorem dX4_castValue_54 : decode cX4_castValue 54 = .ok (.aload_n 1, 1) := by decide +kernel
theorem dX4_castValue_55 : decode cX4_castValue 55 = .ok (.aload_n 2, 1) := by decide +kernel
theorem dX4_castValue_56 : decode cX4_castValue 56 = .ok (.getfield 152, 3) := by decide +kernel
theorem dX4_castValue_59 : decode cX4_castValue 59 = .ok (.aload_n 2, 1) := by decide +kernel
theorem dX4_castValue_60 : decode cX4_castValue 60 = .ok (.getfield 155, 3) := by decide +kernel
theorem dX4_castValue_63 : decode cX4_castValue 63 = .ok (.invokevirtual 159, 3) := by decide +kernel
theorem dX4_castValue_66 : decode cX4_castValue 66 = .ok (.ireturn, 1) := by decide +kernel
theorem dX4_tellPlainly_0 : decode cX4_tellPlainly 0 = .ok (.aload_n 0, 1) := by decide +kernel
theorem dX4_tellPlainly_1 : decode cX4_tellPlainly 1 = .ok (.aload_n 1, 1) := by decide +kernel
theorem dX4_tellPlainly_2 : decode cX4_tellPlainly 2 = .ok (.getfield 266, 3) := by decide +kernel
theorem dX4_tellPlainly_5 : decode cX4_tellPlainly 5 = .ok (.invokevirtual 50, 3) := by decide +kernel
theorem dX4_tellPlainly_8 : decode cX4_tellPlainly 8 = .ok (.astore_n 2, 1) := by decide +kernel
theorem dX4_tellPlainly_9 : decode cX4_tellPlainly 9 = .ok (.aload_n 1, 1) := by decide +kernel
theorem dX4_tellPlainly_10 : decode cX4_tellPlainly 10 = .ok (.getfield 149, 3) := by decide +kernel
theorem dX4_tellPlainly_13 : decode cX4_tellPlainly 13 = .ok (.lookupswitch 77 #[(11, 27), (12, 59)], 27) := by decide +kernel
theorem dX4_tellPlainly_40 : decode cX4_tellPlainly 40 = .ok (.aload_n 0, 1) := by decide +kernel
theorem dX4_tellPlainly_41 : decode cX4_tellPlainly 41 = .ok (.aload_n 1, 1) := by decide +kernel
theorem dX4_tellPlainly_42 : decode cX4_tellPlainly 42 = .ok (.aload_n 2, 1) := by decide +kernel
theorem dX4_tellPlainly_43 : decode cX4_tellPlainly 43 = .ok (.invokevirtual 132, 3) := by decide +kernel
theorem dX4_tellPlainly_46 : decode cX4_tellPlainly 46 = .ok (.ifCond .ne 21, 3) := by decide +kernel
theorem dX4_tellPlainly_49 : decode cX4_tellPlainly 49 = .ok (.aload_n 2, 1) := by decide +kernel
theorem dX4_tellPlainly_50 : decode cX4_tellPlainly 50 = .ok (.getfield 152, 3) := by decide +kernel
theorem dX4_tellPlainly_53 : decode cX4_tellPlainly 53 = .ok (.aload_n 1, 1) := by decide +kernel
theorem dX4_tellPlainly_54 : decode cX4_tellPlainly 54 = .ok (.getfield 202, 3) := by decide +kernel
theorem dX4_tellPlainly_57 : decode cX4_tellPlainly 57 = .ok (.invokestatic 291, 3) := by decide +kernel
theorem dX4_tellPlainly_60 : decode cX4_tellPlainly 60 = .ok (.ifCond .eq 7, 3) := by decide +kernel
theorem dX4_tellPlainly_63 : decode cX4_tellPlainly 63 = .ok (.iconst 1, 1) := by decide +kernel
theorem dX4_tellPlainly_64 : decode cX4_tellPlainly 64 = .ok (.goto 4, 3) := by decide +kernel
theorem dX4_tellPlainly_67 : decode cX4_tellPlainly 67 = .ok (.iconst 0, 1) := by decide +kernel
theorem dX4_tellPlainly_68 : decode cX4_tellPlainly 68 = .ok (.invokevirtual 294, 3) := by decide +kernel
theorem dX4_tellPlainly_71 : decode cX4_tellPlainly 71 = .ok (.ireturn, 1) := by decide +kernel
theorem dX4_tellPlainly_72 : decode cX4_tellPlainly 72 = .ok (.aload_n 0, 1) := by decide +kernel
theorem dX4_tellPlainly_73 : decode cX4_tellPlainly 73 = .ok (.aload_n 1, 1) := by decide +kernel
theorem dX4_tellPlainly_74 : decode cX4_tellPlainly 74 = .ok (.aload_n 2, 1) := by decide +kernel
theorem dX4_tellPlainly_75 : decode cX4_tellPlainly 75 = .ok (.aload_n 0, 1) := by decide +kernel
theorem dX4_tellPlainly_76 : decode cX4_tellPlainly 76 = .ok (.aload_n 1, 1) := by decide +kernel
theorem dX4_tellPlainly_77 : decode cX4_tellPlainly 77 = .ok (.getfield 298, 3) := by decide +kernel
theorem dX4_tellPlainly_80 : decode cX4_tellPlainly 80 = .ok (.invokevirtual 50, 3) := by decide +kernel
theorem dX4_tellPlainly_83 : decode cX4_tellPlainly 83 = .ok (.invokevirtual 138, 3) := by decide +kernel
theorem dX4_tellPlainly_86 : decode cX4_tellPlainly 86 = .ok (.invokevirtual 294, 3) := by decide +kernel
theorem dX4_tellPlainly_89 : decode cX4_tellPlainly 89 = .ok (.ireturn, 1) := by decide +kernel
theorem dX4_tellPlainly_90 : decode cX4_tellPlainly 90 = .ok (.aload_n 0, 1) := by decide +kernel
theorem dX4_tellPlainly_91 : decode cX4_tellPlainly 91 = .ok (.aload_n 1, 1) := by decide +kernel
theorem dX4_tellPlainly_92 : decode cX4_tellPlainly 92 = .ok (.iconst 4, 1) := by decide +kernel
theorem dX4_tellPlainly_93 : decode cX4_tellPlainly 93 = .ok (.aload_n 2, 1) := by decide +kernel
theorem dX4_tellPlainly_94 : decode cX4_tellPlainly 94 = .ok (.getfield 152, 3) := by decide +kernel
theorem dX4_tellPlainly_97 : decode cX4_tellPlainly 97 = .ok (.i2l, 1) := by decide +kernel
theorem dX4_tellPlainly_98 : decode cX4_tellPlainly 98 = .ok (.invokevirtual 159, 3) := by decide +kernel
theorem dX4_tellPlainly_101 : decode cX4_tellPlainly 101 = .ok (.ireturn, 1) := by decide +kernel
theorem dX4_tellLength_0 : decode cX4_tellLength 0 = .ok (.aload_n 0, 1) := by decide +kernel
theorem dX4_tellLength_1 : decode cX4_tellLength 1 = .ok (.aload_n 1, 1) := by decide +kernel
theorem dX4_tellLength_2 : decode cX4_tellLength 2 = .ok (.getfield 266, 3) := by decide +kernel
theorem dX4_tellLength_5 : decode cX4_tellLength 5 = .ok (.invokevirtual 50, 3) := by decide +kernel
theorem dX4_tellLength_8 : decode cX4_tellLength 8 = .ok (.astore_n 2, 1) := by decide +kernel
theorem dX4_tellLength_9 : decode cX4_tellLength 9 = .ok (.aload_n 2, 1) := by decide +kernel
theorem dX4_tellLength_10 : decode cX4_tellLength 10 = .ok (.invokestatic 269, 3) := by decide +kernel
theorem dX4_tellLength_13 : decode cX4_tellLength 13 = .ok (.istore_n 3, 1) := by decide +kernel
theorem dX4_tellLength_14 : decode cX4_tellLength 14 = .ok (.iload_n 3, 1) := by decide +kernel
theorem dX4_tellLength_15 : decode cX4_tellLength 15 = .ok (.ifCond .eq 7, 3) := by decide +kernel
theorem dX4_tellLength_18 : decode cX4_tellLength 18 = .ok (.iload_n 3, 1) := by decide +kernel
theorem dX4_tellLength_19 : decode cX4_tellLength 19 = .ok (.goto 21, 3) := by decide +kernel
theorem dX4_tellLength_22 : decode cX4_tellLength 22 = .ok (.aload_n 0, 1) := by decide +kernel
theorem dX4_tellLength_23 : decode cX4_tellLength 23 = .ok (.aload_n 1, 1) := by decide +kernel
theorem dX4_tellLength_24 : decode cX4_tellLength 24 = .ok (.iconst 4, 1) := by decide +kernel
theorem dX4_tellLength_25 : decode cX4_tellLength 25 = .ok (.aload_n 0, 1) := by decide +kernel
theorem dX4_tellLength_26 : decode cX4_tellLength 26 = .ok (.getfield 12, 3) := by decide +kernel
theorem dX4_tellLength_29 : decode cX4_tellLength 29 = .ok (.aload_n 2, 1) := by decide +kernel
theorem dX4_tellLength_30 : decode cX4_tellLength 30 = .ok (.invokevirtual 120, 3) := by decide +kernel
theorem dX4_tellLength_33 : decode cX4_tellLength 33 = .ok (.invokevirtual 124, 3) := by decide +kernel
theorem dX4_tellLength_36 : decode cX4_tellLength 36 = .ok (.i2l, 1) := by decide +kernel
theorem dX4_tellLength_37 : decode cX4_tellLength 37 = .ok (.invokevirtual 159, 3) := by decide +kernel
theorem dX4_tellLength_40 : decode cX4_tellLength 40 = .ok (.ireturn, 1) := by decide +kernel
theorem dX4_tellHash_0 : decode cX4_tellHash 0 = .ok (.aload_n 0, 1) := by decide +kernel
theorem dX4_tellHash_1 : decode cX4_tellHash 1 = .ok (.aload_n 1, 1) := by decide +kernel
theorem dX4_tellHash_2 : decode cX4_tellHash 2 = .ok (.getfield 266, 3) := by decide +kernel
theorem dX4_tellHash_5 : decode cX4_tellHash 5 = .ok (.invokevirtual 50, 3) := by decide +kernel
theorem dX4_tellHash_8 : decode cX4_tellHash 8 = .ok (.astore_n 2, 1) := by decide +kernel
theorem dX4_tellHash_9 : decode cX4_tellHash 9 = .ok (.aload_n 0, 1) := by decide +kernel
theorem dX4_tellHash_10 : decode cX4_tellHash 10 = .ok (.getfield 12, 3) := by decide +kernel
theorem dX4_tellHash_13 : decode cX4_tellHash 13 = .ok (.aload_n 2, 1) := by decide +kernel
theorem dX4_tellHash_14 : decode cX4_tellHash 14 = .ok (.invokevirtual 301, 3) := by decide +kernel
theorem dX4_tellHash_17 : decode cX4_tellHash 17 = .ok (.istore_n 3, 1) := by decide +kernel
theorem dX4_tellHash_18 : decode cX4_tellHash 18 = .ok (.aload_n 0, 1) := by decide +kernel
theorem dX4_tellHash_19 : decode cX4_tellHash 19 = .ok (.getfield 12, 3) := by decide +kernel
theorem dX4_tellHash_22 : decode cX4_tellHash 22 = .ok (.getfield 304, 3) := by decide +kernel
theorem dX4_tellHash_25 : decode cX4_tellHash 25 = .ok (.ifCond .eq 8, 3) := by decide +kernel
theorem dX4_tellHash_28 : decode cX4_tellHash 28 = .ok (.bipush 7, 2) := by decide +kernel
theorem dX4_tellHash_30 : decode cX4_tellHash 30 = .ok (.goto 11, 3) := by decide +kernel
theorem dX4_tellHash_33 : decode cX4_tellHash 33 = .ok (.aload_n 0, 1) := by decide +kernel
theorem dX4_tellHash_34 : decode cX4_tellHash 34 = .ok (.aload_n 1, 1) := by decide +kernel
theorem dX4_tellHash_35 : decode cX4_tellHash 35 = .ok (.iconst 4, 1) := by decide +kernel
theorem dX4_tellHash_36 : decode cX4_tellHash 36 = .ok (.iload_n 3, 1) := by decide +kernel
theorem dX4_tellHash_37 : decode cX4_tellHash 37 = .ok (.i2l, 1) := by decide +kernel
theorem dX4_tellHash_38 : decode cX4_tellHash 38 = .ok (.invokevirtual 159, 3) := by decide +kernel
theorem dX4_tellHash_41 : decode cX4_tellHash 41 = .ok (.ireturn, 1) := by decide +kernel
theorem dX4_tellEqual_0 : decode cX4_tellEqual 0 = .ok (.aload_n 0, 1) := by decide +kernel
theorem dX4_tellEqual_1 : decode cX4_tellEqual 1 = .ok (.getfield 12, 3) := by decide +kernel
theorem dX4_tellEqual_4 : decode cX4_tellEqual 4 = .ok (.aload_n 0, 1) := by decide +kernel
theorem dX4_tellEqual_5 : decode cX4_tellEqual 5 = .ok (.aload_n 1, 1) := by decide +kernel
theorem dX4_tellEqual_6 : decode cX4_tellEqual 6 = .ok (.getfield 266, 3) := by decide +kernel
theorem dX4_tellEqual_9 : decode cX4_tellEqual 9 = .ok (.invokevirtual 50, 3) := by decide +kernel
theorem dX4_tellEqual_12 : decode cX4_tellEqual 12 = .ok (.aload_n 0, 1) := by decide +kernel
theorem dX4_tellEqual_13 : decode cX4_tellEqual 13 = .ok (.aload_n 1, 1) := by decide +kernel
theorem dX4_tellEqual_14 : decode cX4_tellEqual 14 = .ok (.getfield 298, 3) := by decide +kernel
theorem dX4_tellEqual_17 : decode cX4_tellEqual 17 = .ok (.invokevirtual 50, 3) := by decide +kernel
theorem dX4_tellEqual_20 : decode cX4_tellEqual 20 = .ok (.invokevirtual 308, 3) := by decide +kernel
theorem dX4_tellEqual_23 : decode cX4_tellEqual 23 = .ok (.istore_n 2, 1) := by decide +kernel
theorem dX4_tellEqual_24 : decode cX4_tellEqual 24 = .ok (.aload_n 0, 1) := by decide +kernel
theorem dX4_tellEqual_25 : decode cX4_tellEqual 25 = .ok (.getfield 12, 3) := by decide +kernel
theorem dX4_tellEqual_28 : decode cX4_tellEqual 28 = .ok (.getfield 304, 3) := by decide +kernel
theorem dX4_tellEqual_31 : decode cX4_tellEqual 31 = .ok (.ifCond .eq 8, 3) := by decide +kernel
theorem dX4_tellEqual_34 : decode cX4_tellEqual 34 = .ok (.bipush 7, 2) := by decide +kernel
theorem dX4_tellEqual_36 : decode cX4_tellEqual 36 = .ok (.goto 9, 3) := by decide +kernel
theorem dX4_tellEqual_39 : decode cX4_tellEqual 39 = .ok (.aload_n 0, 1) := by decide +kernel
theorem dX4_tellEqual_40 : decode cX4_tellEqual 40 = .ok (.aload_n 1, 1) := by decide +kernel
theorem dX4_tellEqual_41 : decode cX4_tellEqual 41 = .ok (.iload_n 2, 1) := by decide +kernel
theorem dX4_tellEqual_42 : decode cX4_tellEqual 42 = .ok (.invokevirtual 294, 3) := by decide +kernel
theorem dX4_tellEqual_45 : decode cX4_tellEqual 45 = .ok (.ireturn, 1) := by decide +kernel
theorem dX4_copyCells_0 : decode cX4_copyCells 0 = .ok (.aload_n 0, 1) := by decide +kernel
theorem dX4_copyCells_1 : decode cX4_copyCells 1 = .ok (.aload_n 1, 1) := by decide +kernel
theorem dX4_copyCells_2 : decode cX4_copyCells 2 = .ok (.getfield 266, 3) := by decide +kernel
theorem dX4_copyCells_5 : decode cX4_copyCells 5 = .ok (.invokevirtual 50, 3) := by decide +kernel
theorem dX4_copyCells_8 : decode cX4_copyCells 8 = .ok (.astore_n 2, 1) := by decide +kernel
theorem dX4_copyCells_9 : decode cX4_copyCells 9 = .ok (.aload_n 0, 1) := by decide +kernel
theorem dX4_copyCells_10 : decode cX4_copyCells 10 = .ok (.aload_n 1, 1) := by decide +kernel
theorem dX4_copyCells_11 : decode cX4_copyCells 11 = .ok (.getfield 298, 3) := by decide +kernel
theorem dX4_copyCells_14 : decode cX4_copyCells 14 = .ok (.invokevirtual 50, 3) := by decide +kernel
theorem dX4_copyCells_17 : decode cX4_copyCells 17 = .ok (.astore_n 3, 1) := by decide +kernel
theorem dX4_copyCells_18 : decode cX4_copyCells 18 = .ok (.aload_n 2, 1) := by decide +kernel
theorem dX4_copyCells_19 : decode cX4_copyCells 19 = .ok (.invokevirtual 132, 3) := by decide +kernel
theorem dX4_copyCells_22 : decode cX4_copyCells 22 = .ok (.ifCond .ne 10, 3) := by decide +kernel
theorem dX4_copyCells_25 : decode cX4_copyCells 25 = .ok (.aload_n 3, 1) := by decide +kernel
theorem dX4_copyCells_26 : decode cX4_copyCells 26 = .ok (.invokevirtual 132, 3) := by decide +kernel
theorem dX4_copyCells_29 : decode cX4_copyCells 29 = .ok (.ifCond .eq 5, 3) := by decide +kernel
theorem dX4_copyCells_32 : decode cX4_copyCells 32 = .ok (.iconst 1, 1) := by decide +kernel
theorem dX4_copyCells_33 : decode cX4_copyCells 33 = .ok (.ireturn, 1) := by decide +kernel
theorem dX4_copyCells_34 : decode cX4_copyCells 34 = .ok (.aload_n 2, 1) := by decide +kernel
theorem dX4_copyCells_35 : decode cX4_copyCells 35 = .ok (.invokevirtual 116, 3) := by decide +kernel
theorem dX4_copyCells_38 : decode cX4_copyCells 38 = .ok (.ifCond .eq 24, 3) := by decide +kernel
theorem dX4_copyCells_41 : decode cX4_copyCells 41 = .ok (.aload_n 3, 1) := by decide +kernel
theorem dX4_copyCells_42 : decode cX4_copyCells 42 = .ok (.invokevirtual 116, 3) := by decide +kernel
theorem dX4_copyCells_45 : decode cX4_copyCells 45 = .ok (.ifCond .eq 17, 3) := by decide +kernel
theorem dX4_copyCells_48 : decode cX4_copyCells 48 = .ok (.aload_n 2, 1) := by decide +kernel
theorem dX4_copyCells_49 : decode cX4_copyCells 49 = .ok (.getfield 152, 3) := by decide +kernel
theorem dX4_copyCells_52 : decode cX4_copyCells 52 = .ok (.aload_n 3, 1) := by decide +kernel
theorem dX4_copyCells_53 : decode cX4_copyCells 53 = .ok (.getfield 152, 3) := by decide +kernel
theorem dX4_copyCells_56 : decode cX4_copyCells 56 = .ok (.invokestatic 312, 3) := by decide +kernel
theorem dX4_copyCells_59 : decode cX4_copyCells 59 = .ok (.ifCond .eq 6, 3) := by decide +kernel
theorem dX4_copyCells_62 : decode cX4_copyCells 62 = .ok (.bipush 6, 2) := by decide +kernel
theorem dX4_copyCells_64 : decode cX4_copyCells 64 = .ok (.ireturn, 1) := by decide +kernel
theorem dX4_copyCells_65 : decode cX4_copyCells 65 = .ok (.aload_n 0, 1) := by decide +kernel
theorem dX4_copyCells_66 : decode cX4_copyCells 66 = .ok (.getfield 12, 3) := by decide +kernel
theorem dX4_copyCells_69 : decode cX4_copyCells 69 = .ok (.aload_n 2, 1) := by decide +kernel
theorem dX4_copyCells_70 : decode cX4_copyCells 70 = .ok (.invokevirtual 120, 3) := by decide +kernel
theorem dX4_copyCells_73 : decode cX4_copyCells 73 = .ok (.aload_n 0, 1) := by decide +kernel
theorem dX4_copyCells_74 : decode cX4_copyCells 74 = .ok (.getfield 33, 3) := by decide +kernel
theorem dX4_copyCells_77 : decode cX4_copyCells 77 = .ok (.iconst 0, 1) := by decide +kernel
theorem dX4_copyCells_78 : decode cX4_copyCells 78 = .ok (.iaload, 1) := by decide +kernel
theorem dX4_copyCells_79 : decode cX4_copyCells 79 = .ok (.aload_n 3, 1) := by decide +kernel
theorem dX4_copyCells_80 : decode cX4_copyCells 80 = .ok (.invokevirtual 120, 3) := by decide +kernel
theorem dX4_copyCells_83 : decode cX4_copyCells 83 = .ok (.aload_n 0, 1) := by decide +kernel
theorem dX4_copyCells_84 : decode cX4_copyCells 84 = .ok (.getfield 33, 3) := by decide +kernel
theorem dX4_copyCells_87 : decode cX4_copyCells 87 = .ok (.iconst 1, 1) := by decide +kernel
theorem dX4_copyCells_88 : decode cX4_copyCells 88 = .ok (.iaload, 1) := by decide +kernel
theorem dX4_copyCells_89 : decode cX4_copyCells 89 = .ok (.aload_n 0, 1) := by decide +kernel
theorem dX4_copyCells_90 : decode cX4_copyCells 90 = .ok (.getfield 33, 3) := by decide +kernel
theorem dX4_copyCells_93 : decode cX4_copyCells 93 = .ok (.iconst 2, 1) := by decide +kernel
theorem dX4_copyCells_94 : decode cX4_copyCells 94 = .ok (.iaload, 1) := by decide +kernel
theorem dX4_copyCells_95 : decode cX4_copyCells 95 = .ok (.invokevirtual 315, 3) := by decide +kernel
theorem dX4_copyCells_98 : decode cX4_copyCells 98 = .ok (.ireturn, 1) := by decide +kernel
theorem dX4_fillCells_0 : decode cX4_fillCells 0 = .ok (.aload_n 0, 1) := by decide +kernel
theorem dX4_fillCells_1 : decode cX4_fillCells 1 = .ok (.aload_n 1, 1) := by decide +kernel
theorem dX4_fillCells_2 : decode cX4_fillCells 2 = .ok (.getfield 266, 3) := by decide +kernel
theorem dX4_fillCells_5 : decode cX4_fillCells 5 = .ok (.invokevirtual 50, 3) := by decide +kernel
theorem dX4_fillCells_8 : decode cX4_fillCells 8 = .ok (.astore_n 2, 1) := by decide +kernel
theorem dX4_fillCells_9 : decode cX4_fillCells 9 = .ok (.aload_n 2, 1) := by decide +kernel
theorem dX4_fillCells_10 : decode cX4_fillCells 10 = .ok (.invokestatic 269, 3) := by decide +kernel
theorem dX4_fillCells_13 : decode cX4_fillCells 13 = .ok (.istore_n 3, 1) := by decide +kernel
theorem dX4_fillCells_14 : decode cX4_fillCells 14 = .ok (.aload_n 0, 1) := by decide +kernel
theorem dX4_fillCells_15 : decode cX4_fillCells 15 = .ok (.getfield 12, 3) := by decide +kernel
theorem dX4_fillCells_18 : decode cX4_fillCells 18 = .ok (.aload_n 2, 1) := by decide +kernel
theorem dX4_fillCells_19 : decode cX4_fillCells 19 = .ok (.invokevirtual 120, 3) := by decide +kernel
theorem dX4_fillCells_22 : decode cX4_fillCells 22 = .ok (.invokevirtual 124, 3) := by decide +kernel
theorem dX4_fillCells_25 : decode cX4_fillCells 25 = .ok (.istore 4, 2) := by decide +kernel
theorem dX4_fillCells_27 : decode cX4_fillCells 27 = .ok (.iload_n 3, 1) := by decide +kernel
theorem dX4_fillCells_28 : decode cX4_fillCells 28 = .ok (.ifCond .ne 26, 3) := by decide +kernel
theorem dX4_fillCells_31 : decode cX4_fillCells 31 = .ok (.iload 4, 2) := by decide +kernel
theorem dX4_fillCells_33 : decode cX4_fillCells 33 = .ok (.ifCond .le 21, 3) := by decide +kernel
theorem dX4_fillCells_36 : decode cX4_fillCells 36 = .ok (.aload_n 2, 1) := by decide +kernel
theorem dX4_fillCells_37 : decode cX4_fillCells 37 = .ok (.getfield 152, 3) := by decide +kernel
theorem dX4_fillCells_40 : decode cX4_fillCells 40 = .ok (.invokestatic 230, 3) := by decide +kernel
theorem dX4_fillCells_43 : decode cX4_fillCells 43 = .ok (.aload_n 0, 1) := by decide +kernel
theorem dX4_fillCells_44 : decode cX4_fillCells 44 = .ok (.getfield 37, 3) := by decide +kernel
theorem dX4_fillCells_47 : decode cX4_fillCells 47 = .ok (.getfield 152, 3) := by decide +kernel
theorem dX4_fillCells_50 : decode cX4_fillCells 50 = .ok (.invokestatic 240, 3) := by decide +kernel
theorem dX4_fillCells_53 : decode cX4_fillCells 53 = .ok (.istore_n 3, 1) := by decide +kernel
theorem dX4_fillCells_54 : decode cX4_fillCells 54 = .ok (.iload_n 3, 1) := by decide +kernel
theorem dX4_fillCells_55 : decode cX4_fillCells 55 = .ok (.ifCond .eq 5, 3) := by decide +kernel
theorem dX4_fillCells_58 : decode cX4_fillCells 58 = .ok (.iload_n 3, 1) := by decide +kernel
theorem dX4_fillCells_59 : decode cX4_fillCells 59 = .ok (.ireturn, 1) := by decide +kernel
theorem dX4_fillCells_60 : decode cX4_fillCells 60 = .ok (.iconst 0, 1) := by decide +kernel
theorem dX4_fillCells_61 : decode cX4_fillCells 61 = .ok (.istore 5, 2) := by decide +kernel
theorem dX4_fillCells_63 : decode cX4_fillCells 63 = .ok (.iload 5, 2) := by decide +kernel
theorem dX4_fillCells_65 : decode cX4_fillCells 65 = .ok (.iload 4, 2) := by decide +kernel
theorem dX4_fillCells_67 : decode cX4_fillCells 67 = .ok (.if_icmp .ge 16, 3) := by decide +kernel
theorem dX4_fillCells_70 : decode cX4_fillCells 70 = .ok (.aload_n 0, 1) := by decide +kernel
theorem dX4_fillCells_71 : decode cX4_fillCells 71 = .ok (.aload_n 2, 1) := by decide +kernel
theorem dX4_fillCells_72 : decode cX4_fillCells 72 = .ok (.iload 5, 2) := by decide +kernel
theorem dX4_fillCells_74 : decode cX4_fillCells 74 = .ok (.invokevirtual 226, 3) := by decide +kernel
theorem dX4_fillCells_77 : decode cX4_fillCells 77 = .ok (.iinc 5 1, 3) := by decide +kernel
theorem dX4_fillCells_80 : decode cX4_fillCells 80 = .ok (.goto (-17), 3) := by decide +kernel
theorem dX4_fillCells_83 : decode cX4_fillCells 83 = .ok (.iconst 0, 1) := by decide +kernel
theorem dX4_fillCells_84 : decode cX4_fillCells 84 = .ok (.ireturn, 1) := by decide +kernel
theorem dX4_swapCells_0 : decode cX4_swapCells 0 = .ok (.aload_n 0, 1) := by decide +kernel
theorem dX4_swapCells_1 : decode cX4_swapCells 1 = .ok (.aload_n 1, 1) := by decide +kernel
theorem dX4_swapCells_2 : decode cX4_swapCells 2 = .ok (.getfield 266, 3) := by decide +kernel
theorem dX4_swapCells_5 : decode cX4_swapCells 5 = .ok (.invokevirtual 50, 3) := by decide +kernel
theorem dX4_swapCells_8 : decode cX4_swapCells 8 = .ok (.astore_n 2, 1) := by decide +kernel
theorem dX4_swapCells_9 : decode cX4_swapCells 9 = .ok (.aload_n 2, 1) := by decide +kernel
theorem dX4_swapCells_10 : decode cX4_swapCells 10 = .ok (.invokestatic 269, 3) := by decide +kernel
theorem dX4_swapCells_13 : decode cX4_swapCells 13 = .ok (.istore_n 3, 1) := by decide +kernel
theorem dX4_swapCells_14 : decode cX4_swapCells 14 = .ok (.iload_n 3, 1) := by decide +kernel
theorem dX4_swapCells_15 : decode cX4_swapCells 15 = .ok (.ifCond .eq 5, 3) := by decide +kernel
theorem dX4_swapCells_18 : decode cX4_swapCells 18 = .ok (.iload_n 3, 1) := by decide +kernel
theorem dX4_swapCells_19 : decode cX4_swapCells 19 = .ok (.ireturn, 1) := by decide +kernel
theorem dX4_swapCells_20 : decode cX4_swapCells 20 = .ok (.aload_n 0, 1) := by decide +kernel
theorem dX4_swapCells_21 : decode cX4_swapCells 21 = .ok (.getfield 12, 3) := by decide +kernel
theorem dX4_swapCells_24 : decode cX4_swapCells 24 = .ok (.aload_n 2, 1) := by decide +kernel
theorem dX4_swapCells_25 : decode cX4_swapCells 25 = .ok (.invokevirtual 120, 3) := by decide +kernel
theorem dX4_swapCells_28 : decode cX4_swapCells 28 = .ok (.aload_n 0, 1) := by decide +kernel
theorem dX4_swapCells_29 : decode cX4_swapCells 29 = .ok (.getfield 33, 3) := by decide +kernel
theorem dX4_swapCells_32 : decode cX4_swapCells 32 = .ok (.iconst 0, 1) := by decide +kernel
theorem dX4_swapCells_33 : decode cX4_swapCells 33 = .ok (.iaload, 1) := by decide +kernel
theorem dX4_swapCells_34 : decode cX4_swapCells 34 = .ok (.invokevirtual 236, 3) := by decide +kernel
theorem dX4_swapCells_37 : decode cX4_swapCells 37 = .ok (.ifCond .eq 23, 3) := by decide +kernel
theorem dX4_swapCells_40 : decode cX4_swapCells 40 = .ok (.aload_n 0, 1) := by decide +kernel
theorem dX4_swapCells_41 : decode cX4_swapCells 41 = .ok (.getfield 12, 3) := by decide +kernel
theorem dX4_swapCells_44 : decode cX4_swapCells 44 = .ok (.aload_n 2, 1) := by decide +kernel
theorem dX4_swapCells_45 : decode cX4_swapCells 45 = .ok (.invokevirtual 120, 3) := by decide +kernel
theorem dX4_swapCells_48 : decode cX4_swapCells 48 = .ok (.aload_n 0, 1) := by decide +kernel
theorem dX4_swapCells_49 : decode cX4_swapCells 49 = .ok (.getfield 33, 3) := by decide +kernel
theorem dX4_swapCells_52 : decode cX4_swapCells 52 = .ok (.iconst 1, 1) := by decide +kernel
theorem dX4_swapCells_53 : decode cX4_swapCells 53 = .ok (.iaload, 1) := by decide +kernel
theorem dX4_swapCells_54 : decode cX4_swapCells 54 = .ok (.invokevirtual 236, 3) := by decide +kernel
theorem dX4_swapCells_57 : decode cX4_swapCells 57 = .ok (.ifCond .ne 5, 3) := by decide +kernel
theorem dX4_swapCells_60 : decode cX4_swapCells 60 = .ok (.iconst 2, 1) := by decide +kernel
theorem dX4_swapCells_61 : decode cX4_swapCells 61 = .ok (.ireturn, 1) := by decide +kernel
theorem dX4_swapCells_62 : decode cX4_swapCells 62 = .ok (.aload_n 0, 1) := by decide +kernel
theorem dX4_swapCells_63 : decode cX4_swapCells 63 = .ok (.getfield 12, 3) := by decide +kernel
theorem dX4_swapCells_66 : decode cX4_swapCells 66 = .ok (.aload_n 2, 1) := by decide +kernel
theorem dX4_swapCells_67 : decode cX4_swapCells 67 = .ok (.invokevirtual 120, 3) := by decide +kernel
theorem dX4_swapCells_70 : decode cX4_swapCells 70 = .ok (.aload_n 0, 1) := by decide +kernel
theorem dX4_swapCells_71 : decode cX4_swapCells 71 = .ok (.getfield 33, 3) := by decide +kernel
theorem dX4_swapCells_74 : decode cX4_swapCells 74 = .ok (.iconst 0, 1) := by decide +kernel
theorem dX4_swapCells_75 : decode cX4_swapCells 75 = .ok (.iaload, 1) := by decide +kernel
theorem dX4_swapCells_76 : decode cX4_swapCells 76 = .ok (.aload_n 0, 1) := by decide +kernel
theorem dX4_swapCells_77 : decode cX4_swapCells 77 = .ok (.getfield 33, 3) := by decide +kernel
theorem dX4_swapCells_80 : decode cX4_swapCells 80 = .ok (.iconst 1, 1) := by decide +kernel
theorem dX4_swapCells_81 : decode cX4_swapCells 81 = .ok (.iaload, 1) := by decide +kernel
theorem dX4_swapCells_82 : decode cX4_swapCells 82 = .ok (.invokevirtual 318, 3) := by decide +kernel
theorem dX4_swapCells_85 : decode cX4_swapCells 85 = .ok (.iconst 0, 1) := by decide +kernel
theorem dX4_swapCells_86 : decode cX4_swapCells 86 = .ok (.ireturn, 1) := by decide +kernel
theorem dX4_turnCells_0 : decode cX4_turnCells 0 = .ok (.aload_n 0, 1) := by decide +kernel
theorem dX4_turnCells_1 : decode cX4_turnCells 1 = .ok (.aload_n 1, 1) := by decide +kernel
theorem dX4_turnCells_2 : decode cX4_turnCells 2 = .ok (.getfield 266, 3) := by decide +kernel
theorem dX4_turnCells_5 : decode cX4_turnCells 5 = .ok (.invokevirtual 50, 3) := by decide +kernel
theorem dX4_turnCells_8 : decode cX4_turnCells 8 = .ok (.astore_n 2, 1) := by decide +kernel
theorem dX4_turnCells_9 : decode cX4_turnCells 9 = .ok (.aload_n 2, 1) := by decide +kernel
theorem dX4_turnCells_10 : decode cX4_turnCells 10 = .ok (.invokestatic 269, 3) := by decide +kernel
theorem dX4_turnCells_13 : decode cX4_turnCells 13 = .ok (.istore_n 3, 1) := by decide +kernel
theorem dX4_turnCells_14 : decode cX4_turnCells 14 = .ok (.iload_n 3, 1) := by decide +kernel
theorem dX4_turnCells_15 : decode cX4_turnCells 15 = .ok (.ifCond .eq 5, 3) := by decide +kernel
theorem dX4_turnCells_18 : decode cX4_turnCells 18 = .ok (.iload_n 3, 1) := by decide +kernel
theorem dX4_turnCells_19 : decode cX4_turnCells 19 = .ok (.ireturn, 1) := by decide +kernel
theorem dX4_turnCells_20 : decode cX4_turnCells 20 = .ok (.aload_n 0, 1) := by decide +kernel
theorem dX4_turnCells_21 : decode cX4_turnCells 21 = .ok (.getfield 12, 3) := by decide +kernel
theorem dX4_turnCells_24 : decode cX4_turnCells 24 = .ok (.aload_n 2, 1) := by decide +kernel
theorem dX4_turnCells_25 : decode cX4_turnCells 25 = .ok (.invokevirtual 120, 3) := by decide +kernel
theorem dX4_turnCells_28 : decode cX4_turnCells 28 = .ok (.invokevirtual 124, 3) := by decide +kernel
theorem dX4_turnCells_31 : decode cX4_turnCells 31 = .ok (.iconst 1, 1) := by decide +kernel
theorem dX4_turnCells_32 : decode cX4_turnCells 32 = .ok (.isub, 1) := by decide +kernel
theorem dX4_turnCells_33 : decode cX4_turnCells 33 = .ok (.istore 4, 2) := by decide +kernel
theorem dX4_turnCells_35 : decode cX4_turnCells 35 = .ok (.iconst 0, 1) := by decide +kernel
theorem dX4_turnCells_36 : decode cX4_turnCells 36 = .ok (.istore 5, 2) := by decide +kernel
theorem dX4_turnCells_38 : decode cX4_turnCells 38 = .ok (.iload 5, 2) := by decide +kernel
theorem dX4_turnCells_40 : decode cX4_turnCells 40 = .ok (.iload 4, 2) := by decide +kernel
theorem dX4_turnCells_42 : decode cX4_turnCells 42 = .ok (.iload 5, 2) := by decide +kernel
theorem dX4_turnCells_44 : decode cX4_turnCells 44 = .ok (.isub, 1) := by decide +kernel
theorem dX4_turnCells_45 : decode cX4_turnCells 45 = .ok (.if_icmp .ge 27, 3) := by decide +kernel
theorem dX4_turnCells_48 : decode cX4_turnCells 48 = .ok (.aload_n 0, 1) := by decide +kernel
theorem dX4_turnCells_49 : decode cX4_turnCells 49 = .ok (.getfield 12, 3) := by decide +kernel
theorem dX4_turnCells_52 : decode cX4_turnCells 52 = .ok (.aload_n 2, 1) := by decide +kernel
theorem dX4_turnCells_53 : decode cX4_turnCells 53 = .ok (.invokevirtual 120, 3) := by decide +kernel
theorem dX4_turnCells_56 : decode cX4_turnCells 56 = .ok (.iload 5, 2) := by decide +kernel
theorem dX4_turnCells_58 : decode cX4_turnCells 58 = .ok (.iload 4, 2) := by decide +kernel
theorem dX4_turnCells_60 : decode cX4_turnCells 60 = .ok (.iload 5, 2) := by decide +kernel
theorem dX4_turnCells_62 : decode cX4_turnCells 62 = .ok (.isub, 1) := by decide +kernel
theorem dX4_turnCells_63 : decode cX4_turnCells 63 = .ok (.invokevirtual 318, 3) := by decide +kernel
theorem dX4_turnCells_66 : decode cX4_turnCells 66 = .ok (.iinc 5 1, 3) := by decide +kernel
theorem dX4_turnCells_69 : decode cX4_turnCells 69 = .ok (.goto (-31), 3) := by decide +kernel
theorem dX4_turnCells_72 : decode cX4_turnCells 72 = .ok (.iconst 0, 1) := by decide +kernel
theorem dX4_turnCells_73 : decode cX4_turnCells 73 = .ok (.ireturn, 1) := by decide +kernel
theorem dX4_keepMark_0 : decode cX4_keepMark 0 = .ok (.aload_n 0, 1) := by decide +kernel
theorem dX4_keepMark_1 : decode cX4_keepMark 1 = .ok (.getfield 58, 3) := by decide +kernel
theorem dX4_keepMark_4 : decode cX4_keepMark 4 = .ok (.bipush 50, 2) := by decide +kernel
theorem dX4_keepMark_6 : decode cX4_keepMark 6 = .ok (.if_icmp .ge 19, 3) := by decide +kernel
theorem dX4_keepMark_9 : decode cX4_keepMark 9 = .ok (.aload_n 0, 1) := by decide +kernel
theorem dX4_keepMark_10 : decode cX4_keepMark 10 = .ok (.getfield 24, 3) := by decide +kernel
theorem dX4_keepMark_13 : decode cX4_keepMark 13 = .ok (.aload_n 0, 1) := by decide +kernel
theorem dX4_keepMark_14 : decode cX4_keepMark 14 = .ok (.getfield 58, 3) := by decide +kernel
theorem dX4_keepMark_17 : decode cX4_keepMark 17 = .ok (.aaload, 1) := by decide +kernel
theorem dX4_keepMark_18 : decode cX4_keepMark 18 = .ok (.aload_n 0, 1) := by decide +kernel
theorem dX4_keepMark_19 : decode cX4_keepMark 19 = .ok (.getfield 37, 3) := by decide +kernel
theorem dX4_keepMark_22 : decode cX4_keepMark 22 = .ok (.invokevirtual 108, 3) := by decide +kernel
theorem dX4_keepMark_25 : decode cX4_keepMark 25 = .ok (.aload_n 0, 1) := by decide +kernel
theorem dX4_keepMark_26 : decode cX4_keepMark 26 = .ok (.dup, 1) := by decide +kernel
theorem dX4_keepMark_27 : decode cX4_keepMark 27 = .ok (.getfield 58, 3) := by decide +kernel
theorem dX4_keepMark_30 : decode cX4_keepMark 30 = .ok (.iconst 1, 1) := by decide +kernel
theorem dX4_keepMark_31 : decode cX4_keepMark 31 = .ok (.iadd, 1) := by decide +kernel
theorem dX4_keepMark_32 : decode cX4_keepMark 32 = .ok (.putfield 58, 3) := by decide +kernel
theorem dX4_keepMark_35 : decode cX4_keepMark 35 = .ok (.iconst 0, 1) := by decide +kernel
theorem dX4_keepMark_36 : decode cX4_keepMark 36 = .ok (.ireturn, 1) := by decide +kernel
theorem dX4_perform_0 : decode cX4_perform 0 = .ok (.aload_n 0, 1) := by decide +kernel
theorem dX4_perform_1 : decode cX4_perform 1 = .ok (.aload_n 1, 1) := by decide +kernel
theorem dX4_perform_2 : decode cX4_perform 2 = .ok (.invokevirtual 142, 3) := by decide +kernel
theorem dX4_perform_5 : decode cX4_perform 5 = .ok (.istore_n 2, 1) := by decide +kernel
theorem dX4_perform_6 : decode cX4_perform 6 = .ok (.iload_n 2, 1) := by decide +kernel
theorem dX4_perform_7 : decode cX4_perform 7 = .ok (.ifCond .eq 5, 3) := by decide +kernel
theorem dX4_perform_10 : decode cX4_perform 10 = .ok (.iload_n 2, 1) := by decide +kernel
theorem dX4_perform_11 : decode cX4_perform 11 = .ok (.ireturn, 1) := by decide +kernel
theorem dX4_perform_12 : decode cX4_perform 12 = .ok (.aload_n 0, 1) := by decide +kernel
theorem dX4_perform_13 : decode cX4_perform 13 = .ok (.aload_n 1, 1) := by decide +kernel
theorem dX4_perform_14 : decode cX4_perform 14 = .ok (.invokevirtual 145, 3) := by decide +kernel
theorem dX4_perform_17 : decode cX4_perform 17 = .ok (.aload_n 1, 1) := by decide +kernel
theorem dX4_perform_18 : decode cX4_perform 18 = .ok (.getfield 149, 3) := by decide +kernel
theorem dX4_perform_21 : decode cX4_perform 21 = .ok (.tableswitch 190 1 21 #[99, 119, 119, 119, 119, 119, 119, 125, 131, 137, 190, 190, 143, 190, 149, 155, 161, 167, 173, 179, 185], 99) := by decide +kernel
theorem dX4_perform_120 : decode cX4_perform 120 = .ok (.aload_n 0, 1) := by decide +kernel
theorem dX4_perform_121 : decode cX4_perform 121 = .ok (.aload_n 1, 1) := by decide +kernel
theorem dX4_perform_122 : decode cX4_perform 122 = .ok (.aload_n 0, 1) := by decide +kernel
theorem dX4_perform_123 : decode cX4_perform 123 = .ok (.getfield 37, 3) := by decide +kernel
theorem dX4_perform_126 : decode cX4_perform 126 = .ok (.getfield 152, 3) := by decide +kernel
theorem dX4_perform_129 : decode cX4_perform 129 = .ok (.aload_n 0, 1) := by decide +kernel
theorem dX4_perform_130 : decode cX4_perform 130 = .ok (.getfield 37, 3) := by decide +kernel
theorem dX4_perform_133 : decode cX4_perform 133 = .ok (.getfield 155, 3) := by decide +kernel
theorem dX4_perform_136 : decode cX4_perform 136 = .ok (.invokevirtual 159, 3) := by decide +kernel
theorem dX4_perform_139 : decode cX4_perform 139 = .ok (.ireturn, 1) := by decide +kernel
theorem dX4_perform_140 : decode cX4_perform 140 = .ok (.aload_n 0, 1) := by decide +kernel
theorem dX4_perform_141 : decode cX4_perform 141 = .ok (.aload_n 1, 1) := by decide +kernel
theorem dX4_perform_142 : decode cX4_perform 142 = .ok (.invokevirtual 163, 3) := by decide +kernel
theorem dX4_perform_145 : decode cX4_perform 145 = .ok (.ireturn, 1) := by decide +kernel
theorem dX4_perform_146 : decode cX4_perform 146 = .ok (.aload_n 0, 1) := by decide +kernel
theorem dX4_perform_147 : decode cX4_perform 147 = .ok (.aload_n 1, 1) := by decide +kernel
theorem dX4_perform_148 : decode cX4_perform 148 = .ok (.invokevirtual 166, 3) := by decide +kernel
theorem dX4_perform_151 : decode cX4_perform 151 = .ok (.ireturn, 1) := by decide +kernel
theorem dX4_perform_152 : decode cX4_perform 152 = .ok (.aload_n 0, 1) := by decide +kernel
theorem dX4_perform_153 : decode cX4_perform 153 = .ok (.aload_n 1, 1) := by decide +kernel
theorem dX4_perform_154 : decode cX4_perform 154 = .ok (.invokevirtual 169, 3) := by decide +kernel
theorem dX4_perform_157 : decode cX4_perform 157 = .ok (.ireturn, 1) := by decide +kernel
theorem dX4_perform_158 : decode cX4_perform 158 = .ok (.aload_n 0, 1) := by decide +kernel
theorem dX4_perform_159 : decode cX4_perform 159 = .ok (.aload_n 1, 1) := by decide +kernel
theorem dX4_perform_160 : decode cX4_perform 160 = .ok (.invokevirtual 172, 3) := by decide +kernel
theorem dX4_perform_163 : decode cX4_perform 163 = .ok (.ireturn, 1) := by decide +kernel
theorem dX4_perform_164 : decode cX4_perform 164 = .ok (.aload_n 0, 1) := by decide +kernel
theorem dX4_perform_165 : decode cX4_perform 165 = .ok (.aload_n 1, 1) := by decide +kernel
theorem dX4_perform_166 : decode cX4_perform 166 = .ok (.invokevirtual 175, 3) := by decide +kernel
theorem dX4_perform_169 : decode cX4_perform 169 = .ok (.ireturn, 1) := by decide +kernel
theorem dX4_perform_170 : decode cX4_perform 170 = .ok (.aload_n 0, 1) := by decide +kernel
theorem dX4_perform_171 : decode cX4_perform 171 = .ok (.aload_n 1, 1) := by decide +kernel
theorem dX4_perform_172 : decode cX4_perform 172 = .ok (.invokevirtual 178, 3) := by decide +kernel
theorem dX4_perform_175 : decode cX4_perform 175 = .ok (.ireturn, 1) := by decide +kernel
theorem dX4_perform_176 : decode cX4_perform 176 = .ok (.aload_n 0, 1) := by decide +kernel
theorem dX4_perform_177 : decode cX4_perform 177 = .ok (.aload_n 1, 1) := by decide +kernel
theorem dX4_perform_178 : decode cX4_perform 178 = .ok (.invokevirtual 181, 3) := by decide +kernel
theorem dX4_perform_181 : decode cX4_perform 181 = .ok (.ireturn, 1) := by decide +kernel
theorem dX4_perform_182 : decode cX4_perform 182 = .ok (.aload_n 0, 1) := by decide +kernel
theorem dX4_perform_183 : decode cX4_perform 183 = .ok (.aload_n 1, 1) := by decide +kernel
theorem dX4_perform_184 : decode cX4_perform 184 = .ok (.invokevirtual 184, 3) := by decide +kernel
theorem dX4_perform_187 : decode cX4_perform 187 = .ok (.ireturn, 1) := by decide +kernel
theorem dX4_perform_188 : decode cX4_perform 188 = .ok (.aload_n 0, 1) := by decide +kernel
theorem dX4_perform_189 : decode cX4_perform 189 = .ok (.aload_n 1, 1) := by decide +kernel
theorem dX4_perform_190 : decode cX4_perform 190 = .ok (.invokevirtual 187, 3) := by decide +kernel
theorem dX4_perform_193 : decode cX4_perform 193 = .ok (.ireturn, 1) := by decide +kernel
theorem dX4_perform_194 : decode cX4_perform 194 = .ok (.aload_n 0, 1) := by decide +kernel
theorem dX4_perform_195 : decode cX4_perform 195 = .ok (.aload_n 1, 1) := by decide +kernel
theorem dX4_perform_196 : decode cX4_perform 196 = .ok (.invokevirtual 190, 3) := by decide +kernel
theorem dX4_perform_199 : decode cX4_perform 199 = .ok (.ireturn, 1) := by decide +kernel
theorem dX4_perform_200 : decode cX4_perform 200 = .ok (.aload_n 0, 1) := by decide +kernel
theorem dX4_perform_201 : decode cX4_perform 201 = .ok (.aload_n 1, 1) := by decide +kernel
theorem dX4_perform_202 : decode cX4_perform 202 = .ok (.invokevirtual 193, 3) := by decide +kernel
theorem dX4_perform_205 : decode cX4_perform 205 = .ok (.ireturn, 1) := by decide +kernel
theorem dX4_perform_206 : decode cX4_perform 206 = .ok (.aload_n 0, 1) := by decide +kernel
theorem dX4_perform_207 : decode cX4_perform 207 = .ok (.invokevirtual 196, 3) := by decide +kernel
theorem dX4_perform_210 : decode cX4_perform 210 = .ok (.ireturn, 1) := by decide +kernel
theorem dX4_perform_211 : decode cX4_perform 211 = .ok (.aload_n 0, 1) := by decide +kernel
theorem dX4_perform_212 : decode cX4_perform 212 = .ok (.aload_n 1, 1) := by decide +kernel
theorem dX4_perform_213 : decode cX4_perform 213 = .ok (.invokevirtual 199, 3) := by decide +kernel
theorem dX4_perform_216 : decode cX4_perform 216 = .ok (.ireturn, 1) := by decide +kernel

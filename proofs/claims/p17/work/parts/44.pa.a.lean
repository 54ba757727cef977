theorem dX5_put_0 : decode cX5_put 0 = .ok (.aload_n 0, 1) := by decide +kernel
theorem dX5_put_1 : decode cX5_put 1 = .ok (.getfield 19, 3) := by decide +kernel
theorem dX5_put_4 : decode cX5_put 4 = .ok (.aload_n 0, 1) := by decide +kernel
theorem dX5_put_5 : decode cX5_put 5 = .ok (.getfield 11, 3) := by decide +kernel
theorem dX5_put_8 : decode cX5_put 8 = .ok (.arraylength, 1) := by decide +kernel
theorem dX5_put_9 : decode cX5_put 9 = .ok (.if_icmp .ge 24, 3) := by decide +kernel
theorem dX5_put_12 : decode cX5_put 12 = .ok (.aload_n 0, 1) := by decide +kernel
theorem dX5_put_13 : decode cX5_put 13 = .ok (.getfield 11, 3) := by decide +kernel
theorem dX5_put_16 : decode cX5_put 16 = .ok (.aload_n 0, 1) := by decide +kernel
theorem dX5_put_17 : decode cX5_put 17 = .ok (.getfield 19, 3) := by decide +kernel
theorem dX5_put_20 : decode cX5_put 20 = .ok (.iload_n 1, 1) := by decide +kernel
theorem dX5_put_21 : decode cX5_put 21 = .ok (.i2b, 1) := by decide +kernel
theorem dX5_put_22 : decode cX5_put 22 = .ok (.bastore, 1) := by decide +kernel
theorem dX5_put_23 : decode cX5_put 23 = .ok (.aload_n 0, 1) := by decide +kernel
theorem dX5_put_24 : decode cX5_put 24 = .ok (.dup, 1) := by decide +kernel
theorem dX5_put_25 : decode cX5_put 25 = .ok (.getfield 19, 3) := by decide +kernel
theorem dX5_put_28 : decode cX5_put 28 = .ok (.iconst 1, 1) := by decide +kernel
theorem dX5_put_29 : decode cX5_put 29 = .ok (.iadd, 1) := by decide +kernel
theorem dX5_put_30 : decode cX5_put 30 = .ok (.putfield 19, 3) := by decide +kernel
theorem dX5_put_33 : decode cX5_put 33 = .ok (.return_, 1) := by decide +kernel
theorem dX5_byteAt_0 : decode cX5_byteAt 0 = .ok (.iload_n 1, 1) := by decide +kernel
theorem dX5_byteAt_1 : decode cX5_byteAt 1 = .ok (.ifCond .lt 20, 3) := by decide +kernel
theorem dX5_byteAt_4 : decode cX5_byteAt 4 = .ok (.iload_n 1, 1) := by decide +kernel
theorem dX5_byteAt_5 : decode cX5_byteAt 5 = .ok (.aload_n 0, 1) := by decide +kernel
theorem dX5_byteAt_6 : decode cX5_byteAt 6 = .ok (.getfield 19, 3) := by decide +kernel
theorem dX5_byteAt_9 : decode cX5_byteAt 9 = .ok (.if_icmp .ge 12, 3) := by decide +kernel
theorem dX5_byteAt_12 : decode cX5_byteAt 12 = .ok (.aload_n 0, 1) := by decide +kernel
theorem dX5_byteAt_13 : decode cX5_byteAt 13 = .ok (.getfield 11, 3) := by decide +kernel
theorem dX5_byteAt_16 : decode cX5_byteAt 16 = .ok (.iload_n 1, 1) := by decide +kernel
theorem dX5_byteAt_17 : decode cX5_byteAt 17 = .ok (.baload, 1) := by decide +kernel
theorem dX5_byteAt_18 : decode cX5_byteAt 18 = .ok (.goto 4, 3) := by decide +kernel
theorem dX5_byteAt_21 : decode cX5_byteAt 21 = .ok (.iconst 0, 1) := by decide +kernel
theorem dX5_byteAt_22 : decode cX5_byteAt 22 = .ok (.ireturn, 1) := by decide +kernel
theorem dX5_staysClose_0 : decode cX5_staysClose 0 = .ok (.aload_n 0, 1) := by decide +kernel
theorem dX5_staysClose_1 : decode cX5_staysClose 1 = .ok (.getfield 15, 3) := by decide +kernel
theorem dX5_staysClose_4 : decode cX5_staysClose 4 = .ok (.bipush 91, 2) := by decide +kernel
theorem dX5_staysClose_6 : decode cX5_staysClose 6 = .ok (.invokevirtual 43, 3) := by decide +kernel
theorem dX5_staysClose_9 : decode cX5_staysClose 9 = .ok (.ifCond .ne 27, 3) := by decide +kernel
theorem dX5_staysClose_12 : decode cX5_staysClose 12 = .ok (.aload_n 0, 1) := by decide +kernel
theorem dX5_staysClose_13 : decode cX5_staysClose 13 = .ok (.getfield 15, 3) := by decide +kernel
theorem dX5_staysClose_16 : decode cX5_staysClose 16 = .ok (.bipush 93, 2) := by decide +kernel
theorem dX5_staysClose_18 : decode cX5_staysClose 18 = .ok (.invokevirtual 43, 3) := by decide +kernel
theorem dX5_staysClose_21 : decode cX5_staysClose 21 = .ok (.ifCond .ne 15, 3) := by decide +kernel
theorem dX5_staysClose_24 : decode cX5_staysClose 24 = .ok (.aload_n 0, 1) := by decide +kernel
theorem dX5_staysClose_25 : decode cX5_staysClose 25 = .ok (.getfield 15, 3) := by decide +kernel
theorem dX5_staysClose_28 : decode cX5_staysClose 28 = .ok (.bipush 59, 2) := by decide +kernel
theorem dX5_staysClose_30 : decode cX5_staysClose 30 = .ok (.invokevirtual 43, 3) := by decide +kernel
theorem dX5_staysClose_33 : decode cX5_staysClose 33 = .ok (.ifCond .eq 7, 3) := by decide +kernel
theorem dX5_staysClose_36 : decode cX5_staysClose 36 = .ok (.iconst 1, 1) := by decide +kernel
theorem dX5_staysClose_37 : decode cX5_staysClose 37 = .ok (.goto 4, 3) := by decide +kernel
theorem dX5_staysClose_40 : decode cX5_staysClose 40 = .ok (.iconst 0, 1) := by decide +kernel
theorem dX5_staysClose_41 : decode cX5_staysClose 41 = .ok (.ireturn, 1) := by decide +kernel
theorem dX5_putToken_0 : decode cX5_putToken 0 = .ok (.aload_n 0, 1) := by decide +kernel
theorem dX5_putToken_1 : decode cX5_putToken 1 = .ok (.getfield 15, 3) := by decide +kernel
theorem dX5_putToken_4 : decode cX5_putToken 4 = .ok (.invokevirtual 50, 3) := by decide +kernel
theorem dX5_putToken_7 : decode cX5_putToken 7 = .ok (.istore_n 1, 1) := by decide +kernel
theorem dX5_putToken_8 : decode cX5_putToken 8 = .ok (.iload_n 1, 1) := by decide +kernel
theorem dX5_putToken_9 : decode cX5_putToken 9 = .ok (.aload_n 0, 1) := by decide +kernel
theorem dX5_putToken_10 : decode cX5_putToken 10 = .ok (.getfield 15, 3) := by decide +kernel
theorem dX5_putToken_13 : decode cX5_putToken 13 = .ok (.getfield 54, 3) := by decide +kernel
theorem dX5_putToken_16 : decode cX5_putToken 16 = .ok (.if_icmp .ge 21, 3) := by decide +kernel
theorem dX5_putToken_19 : decode cX5_putToken 19 = .ok (.aload_n 0, 1) := by decide +kernel
theorem dX5_putToken_20 : decode cX5_putToken 20 = .ok (.aload_n 0, 1) := by decide +kernel
theorem dX5_putToken_21 : decode cX5_putToken 21 = .ok (.getfield 15, 3) := by decide +kernel
theorem dX5_putToken_24 : decode cX5_putToken 24 = .ok (.iload_n 1, 1) := by decide +kernel
theorem dX5_putToken_25 : decode cX5_putToken 25 = .ok (.invokevirtual 57, 3) := by decide +kernel
theorem dX5_putToken_28 : decode cX5_putToken 28 = .ok (.invokevirtual 36, 3) := by decide +kernel
theorem dX5_putToken_31 : decode cX5_putToken 31 = .ok (.iinc 1 1, 3) := by decide +kernel
theorem dX5_putToken_34 : decode cX5_putToken 34 = .ok (.goto (-26), 3) := by decide +kernel
theorem dX5_putToken_37 : decode cX5_putToken 37 = .ok (.return_, 1) := by decide +kernel
theorem dX5_write_0 : decode cX5_write 0 = .ok (.aload_n 0, 1) := by decide +kernel
theorem dX5_write_1 : decode cX5_write 1 = .ok (.iconst 0, 1) := by decide +kernel
theorem dX5_write_2 : decode cX5_write 2 = .ok (.putfield 19, 3) := by decide +kernel
theorem dX5_write_5 : decode cX5_write 5 = .ok (.aload_n 0, 1) := by decide +kernel
theorem dX5_write_6 : decode cX5_write 6 = .ok (.getfield 15, 3) := by decide +kernel
theorem dX5_write_9 : decode cX5_write 9 = .ok (.iload_n 1, 1) := by decide +kernel
theorem dX5_write_10 : decode cX5_write 10 = .ok (.sipush 3000, 3) := by decide +kernel
theorem dX5_write_13 : decode cX5_write 13 = .ok (.iload_n 2, 1) := by decide +kernel
theorem dX5_write_14 : decode cX5_write 14 = .ok (.invokevirtual 23, 3) := by decide +kernel
theorem dX5_write_17 : decode cX5_write 17 = .ok (.iconst 1, 1) := by decide +kernel
theorem dX5_write_18 : decode cX5_write 18 = .ok (.istore_n 3, 1) := by decide +kernel
theorem dX5_write_19 : decode cX5_write 19 = .ok (.iconst 1, 1) := by decide +kernel
theorem dX5_write_20 : decode cX5_write 20 = .ok (.istore 4, 2) := by decide +kernel
theorem dX5_write_22 : decode cX5_write 22 = .ok (.iconst 0, 1) := by decide +kernel
theorem dX5_write_23 : decode cX5_write 23 = .ok (.istore 5, 2) := by decide +kernel
theorem dX5_write_25 : decode cX5_write 25 = .ok (.iload 5, 2) := by decide +kernel
theorem dX5_write_27 : decode cX5_write 27 = .ok (.bipush 64, 2) := by decide +kernel
theorem dX5_write_29 : decode cX5_write 29 = .ok (.if_icmp .ge 101, 3) := by decide +kernel
theorem dX5_write_32 : decode cX5_write 32 = .ok (.iload 4, 2) := by decide +kernel
theorem dX5_write_34 : decode cX5_write 34 = .ok (.ifCond .eq 96, 3) := by decide +kernel
theorem dX5_write_37 : decode cX5_write 37 = .ok (.aload_n 0, 1) := by decide +kernel
theorem dX5_write_38 : decode cX5_write 38 = .ok (.getfield 15, 3) := by decide +kernel
theorem dX5_write_41 : decode cX5_write 41 = .ok (.invokevirtual 29, 3) := by decide +kernel
theorem dX5_write_44 : decode cX5_write 44 = .ok (.iload_n 3, 1) := by decide +kernel
theorem dX5_write_45 : decode cX5_write 45 = .ok (.ifCond .ne 16, 3) := by decide +kernel
theorem dX5_write_48 : decode cX5_write 48 = .ok (.aload_n 0, 1) := by decide +kernel
theorem dX5_write_49 : decode cX5_write 49 = .ok (.invokevirtual 32, 3) := by decide +kernel
theorem dX5_write_52 : decode cX5_write 52 = .ok (.ifCond .ne 9, 3) := by decide +kernel
theorem dX5_write_55 : decode cX5_write 55 = .ok (.aload_n 0, 1) := by decide +kernel
theorem dX5_write_56 : decode cX5_write 56 = .ok (.bipush 32, 2) := by decide +kernel
theorem dX5_write_58 : decode cX5_write 58 = .ok (.invokevirtual 36, 3) := by decide +kernel
theorem dX5_write_61 : decode cX5_write 61 = .ok (.aload_n 0, 1) := by decide +kernel
theorem dX5_write_62 : decode cX5_write 62 = .ok (.invokevirtual 40, 3) := by decide +kernel
theorem dX5_write_65 : decode cX5_write 65 = .ok (.aload_n 0, 1) := by decide +kernel
theorem dX5_write_66 : decode cX5_write 66 = .ok (.getfield 15, 3) := by decide +kernel
theorem dX5_write_69 : decode cX5_write 69 = .ok (.bipush 91, 2) := by decide +kernel
theorem dX5_write_71 : decode cX5_write 71 = .ok (.invokevirtual 43, 3) := by decide +kernel
theorem dX5_write_74 : decode cX5_write 74 = .ok (.ifCond .ne 15, 3) := by decide +kernel
theorem dX5_write_77 : decode cX5_write 77 = .ok (.aload_n 0, 1) := by decide +kernel
theorem dX5_write_78 : decode cX5_write 78 = .ok (.getfield 15, 3) := by decide +kernel
theorem dX5_write_81 : decode cX5_write 81 = .ok (.bipush 45, 2) := by decide +kernel
theorem dX5_write_83 : decode cX5_write 83 = .ok (.invokevirtual 43, 3) := by decide +kernel
theorem dX5_write_86 : decode cX5_write 86 = .ok (.ifCond .eq 7, 3) := by decide +kernel
theorem dX5_write_89 : decode cX5_write 89 = .ok (.iconst 1, 1) := by decide +kernel
theorem dX5_write_90 : decode cX5_write 90 = .ok (.goto 4, 3) := by decide +kernel
theorem dX5_write_93 : decode cX5_write 93 = .ok (.iconst 0, 1) := by decide +kernel
theorem dX5_write_94 : decode cX5_write 94 = .ok (.istore_n 3, 1) := by decide +kernel
theorem dX5_write_95 : decode cX5_write 95 = .ok (.aload_n 0, 1) := by decide +kernel
theorem dX5_write_96 : decode cX5_write 96 = .ok (.getfield 15, 3) := by decide +kernel
theorem dX5_write_99 : decode cX5_write 99 = .ok (.bipush 59, 2) := by decide +kernel
theorem dX5_write_101 : decode cX5_write 101 = .ok (.invokevirtual 43, 3) := by decide +kernel
theorem dX5_write_104 : decode cX5_write 104 = .ok (.ifCond .ne 17, 3) := by decide +kernel
theorem dX5_write_107 : decode cX5_write 107 = .ok (.aload_n 0, 1) := by decide +kernel
theorem dX5_write_108 : decode cX5_write 108 = .ok (.getfield 15, 3) := by decide +kernel
theorem dX5_write_111 : decode cX5_write 111 = .ok (.getfield 47, 3) := by decide +kernel
theorem dX5_write_114 : decode cX5_write 114 = .ok (.ifCond .eq 7, 3) := by decide +kernel
theorem dX5_write_117 : decode cX5_write 117 = .ok (.iconst 1, 1) := by decide +kernel
theorem dX5_write_118 : decode cX5_write 118 = .ok (.goto 4, 3) := by decide +kernel
theorem dX5_write_121 : decode cX5_write 121 = .ok (.iconst 0, 1) := by decide +kernel
theorem dX5_write_122 : decode cX5_write 122 = .ok (.istore 4, 2) := by decide +kernel
theorem dX5_write_124 : decode cX5_write 124 = .ok (.iinc 5 1, 3) := by decide +kernel
theorem dX5_write_127 : decode cX5_write 127 = .ok (.goto (-102), 3) := by decide +kernel
theorem dX5_write_130 : decode cX5_write 130 = .ok (.return_, 1) := by decide +kernel
theorem dX2_leads_0 : decode cX2_leads 0 = .ok (.iload_n 0, 1) := by decide +kernel
theorem dX2_leads_1 : decode cX2_leads 1 = .ok (.iconst 5, 1) := by decide +kernel
theorem dX2_leads_2 : decode cX2_leads 2 = .ok (.if_icmp .eq 15, 3) := by decide +kernel
theorem dX2_leads_5 : decode cX2_leads 5 = .ok (.iload_n 0, 1) := by decide +kernel
theorem dX2_leads_6 : decode cX2_leads 6 = .ok (.bipush 7, 2) := by decide +kernel
theorem dX2_leads_8 : decode cX2_leads 8 = .ok (.if_icmp .eq 9, 3) := by decide +kernel
theorem dX2_leads_11 : decode cX2_leads 11 = .ok (.iload_n 0, 1) := by decide +kernel
theorem dX2_leads_12 : decode cX2_leads 12 = .ok (.bipush 17, 2) := by decide +kernel
theorem dX2_leads_14 : decode cX2_leads 14 = .ok (.if_icmp .lt 7, 3) := by decide +kernel
theorem dX2_leads_17 : decode cX2_leads 17 = .ok (.iconst 1, 1) := by decide +kernel
theorem dX2_leads_18 : decode cX2_leads 18 = .ok (.goto 4, 3) := by decide +kernel
theorem dX2_leads_21 : decode cX2_leads 21 = .ok (.iconst 0, 1) := by decide +kernel
theorem dX2_leads_22 : decode cX2_leads 22 = .ok (.ireturn, 1) := by decide +kernel
theorem dX2_comesBehindEquals_0 : decode cX2_comesBehindEquals 0 = .ok (.iload_n 0, 1) := by decide +kernel
theorem dX2_comesBehindEquals_1 : decode cX2_comesBehindEquals 1 = .ok (.iconst 4, 1) := by decide +kernel
theorem dX2_comesBehindEquals_2 : decode cX2_comesBehindEquals 2 = .ok (.if_icmp .lt 14, 3) := by decide +kernel
theorem dX2_comesBehindEquals_5 : decode cX2_comesBehindEquals 5 = .ok (.iload_n 0, 1) := by decide +kernel
theorem dX2_comesBehindEquals_6 : decode cX2_comesBehindEquals 6 = .ok (.invokestatic 118, 3) := by decide +kernel
theorem dX2_comesBehindEquals_9 : decode cX2_comesBehindEquals 9 = .ok (.ifCond .ne 7, 3) := by decide +kernel
theorem dX2_comesBehindEquals_12 : decode cX2_comesBehindEquals 12 = .ok (.iconst 1, 1) := by decide +kernel
theorem dX2_comesBehindEquals_13 : decode cX2_comesBehindEquals 13 = .ok (.goto 4, 3) := by decide +kernel
theorem dX2_comesBehindEquals_16 : decode cX2_comesBehindEquals 16 = .ok (.iconst 0, 1) := by decide +kernel
theorem dX2_comesBehindEquals_17 : decode cX2_comesBehindEquals 17 = .ok (.ireturn, 1) := by decide +kernel
theorem dX2_start_0 : decode cX2_start 0 = .ok (.aload_n 0, 1) := by decide +kernel
theorem dX2_start_1 : decode cX2_start 1 = .ok (.iconst 0, 1) := by decide +kernel
theorem dX2_start_2 : decode cX2_start 2 = .ok (.putfield 81, 3) := by decide +kernel
theorem dX2_start_5 : decode cX2_start 5 = .ok (.aload_n 0, 1) := by decide +kernel
theorem dX2_start_6 : decode cX2_start 6 = .ok (.iconst 0, 1) := by decide +kernel
theorem dX2_start_7 : decode cX2_start 7 = .ok (.putfield 84, 3) := by decide +kernel
theorem dX2_start_10 : decode cX2_start 10 = .ok (.aload_n 0, 1) := by decide +kernel
theorem dX2_start_11 : decode cX2_start 11 = .ok (.iconst 0, 1) := by decide +kernel
theorem dX2_start_12 : decode cX2_start 12 = .ok (.putfield 87, 3) := by decide +kernel
theorem dX2_start_15 : decode cX2_start 15 = .ok (.aload_n 0, 1) := by decide +kernel
theorem dX2_start_16 : decode cX2_start 16 = .ok (.iconst 0, 1) := by decide +kernel
theorem dX2_start_17 : decode cX2_start 17 = .ok (.putfield 90, 3) := by decide +kernel
theorem dX2_start_20 : decode cX2_start 20 = .ok (.aload_n 0, 1) := by decide +kernel
theorem dX2_start_21 : decode cX2_start 21 = .ok (.getfield 9, 3) := by decide +kernel
theorem dX2_start_24 : decode cX2_start 24 = .ok (.iload_n 1, 1) := by decide +kernel
theorem dX2_start_25 : decode cX2_start 25 = .ok (.iload_n 2, 1) := by decide +kernel
theorem dX2_start_26 : decode cX2_start 26 = .ok (.iconst 0, 1) := by decide +kernel
theorem dX2_start_27 : decode cX2_start 27 = .ok (.invokevirtual 94, 3) := by decide +kernel
theorem dX2_start_30 : decode cX2_start 30 = .ok (.aload_n 0, 1) := by decide +kernel
theorem dX2_start_31 : decode cX2_start 31 = .ok (.getfield 9, 3) := by decide +kernel
theorem dX2_start_34 : decode cX2_start 34 = .ok (.invokevirtual 98, 3) := by decide +kernel
theorem dX2_start_37 : decode cX2_start 37 = .ok (.return_, 1) := by decide +kernel
theorem dX2_refuse_0 : decode cX2_refuse 0 = .ok (.aload_n 0, 1) := by decide +kernel
theorem dX2_refuse_1 : decode cX2_refuse 1 = .ok (.aload_n 0, 1) := by decide +kernel
theorem dX2_refuse_2 : decode cX2_refuse 2 = .ok (.getfield 9, 3) := by decide +kernel
theorem dX2_refuse_5 : decode cX2_refuse 5 = .ok (.getfield 35, 3) := by decide +kernel
theorem dX2_refuse_8 : decode cX2_refuse 8 = .ok (.iconst 1, 1) := by decide +kernel
theorem dX2_refuse_9 : decode cX2_refuse 9 = .ok (.if_icmp .ne 7, 3) := by decide +kernel
theorem dX2_refuse_12 : decode cX2_refuse 12 = .ok (.iconst 1, 1) := by decide +kernel
theorem dX2_refuse_13 : decode cX2_refuse 13 = .ok (.goto 4, 3) := by decide +kernel
theorem dX2_refuse_16 : decode cX2_refuse 16 = .ok (.iload_n 1, 1) := by decide +kernel
theorem dX2_refuse_17 : decode cX2_refuse 17 = .ok (.putfield 81, 3) := by decide +kernel
theorem dX2_refuse_20 : decode cX2_refuse 20 = .ok (.aload_n 0, 1) := by decide +kernel
theorem dX2_refuse_21 : decode cX2_refuse 21 = .ok (.aload_n 0, 1) := by decide +kernel
theorem dX2_refuse_22 : decode cX2_refuse 22 = .ok (.getfield 9, 3) := by decide +kernel
theorem dX2_refuse_25 : decode cX2_refuse 25 = .ok (.getfield 52, 3) := by decide +kernel
theorem dX2_refuse_28 : decode cX2_refuse 28 = .ok (.putfield 84, 3) := by decide +kernel
theorem dX2_refuse_31 : decode cX2_refuse 31 = .ok (.iconst 0, 1) := by decide +kernel
theorem dX2_refuse_32 : decode cX2_refuse 32 = .ok (.ireturn, 1) := by decide +kernel
theorem dX2_passIf_0 : decode cX2_passIf 0 = .ok (.iload_n 1, 1) := by decide +kernel
theorem dX2_passIf_1 : decode cX2_passIf 1 = .ok (.ifCond .ne 9, 3) := by decide +kernel
theorem dX2_passIf_4 : decode cX2_passIf 4 = .ok (.aload_n 0, 1) := by decide +kernel
theorem dX2_passIf_5 : decode cX2_passIf 5 = .ok (.iconst 2, 1) := by decide +kernel
theorem dX2_passIf_6 : decode cX2_passIf 6 = .ok (.invokevirtual 44, 3) := by decide +kernel
theorem dX2_passIf_9 : decode cX2_passIf 9 = .ok (.ireturn, 1) := by decide +kernel
theorem dX2_passIf_10 : decode cX2_passIf 10 = .ok (.aload_n 0, 1) := by decide +kernel
theorem dX2_passIf_11 : decode cX2_passIf 11 = .ok (.getfield 9, 3) := by decide +kernel
theorem dX2_passIf_14 : decode cX2_passIf 14 = .ok (.invokevirtual 98, 3) := by decide +kernel
theorem dX2_passIf_17 : decode cX2_passIf 17 = .ok (.iconst 1, 1) := by decide +kernel
theorem dX2_passIf_18 : decode cX2_passIf 18 = .ok (.ireturn, 1) := by decide +kernel
theorem dX2_acceptIf_0 : decode cX2_acceptIf 0 = .ok (.iload_n 1, 1) := by decide +kernel
theorem dX2_acceptIf_1 : decode cX2_acceptIf 1 = .ok (.ifCond .ne 11, 3) := by decide +kernel
theorem dX2_acceptIf_4 : decode cX2_acceptIf 4 = .ok (.aload_n 0, 1) := by decide +kernel
theorem dX2_acceptIf_5 : decode cX2_acceptIf 5 = .ok (.iconst 2, 1) := by decide +kernel
theorem dX2_acceptIf_6 : decode cX2_acceptIf 6 = .ok (.invokevirtual 44, 3) := by decide +kernel
theorem dX2_acceptIf_9 : decode cX2_acceptIf 9 = .ok (.ifCond .eq 7, 3) := by decide +kernel
theorem dX2_acceptIf_12 : decode cX2_acceptIf 12 = .ok (.iconst 1, 1) := by decide +kernel
theorem dX2_acceptIf_13 : decode cX2_acceptIf 13 = .ok (.goto 4, 3) := by decide +kernel
theorem dX2_acceptIf_16 : decode cX2_acceptIf 16 = .ok (.iconst 0, 1) := by decide +kernel
theorem dX2_acceptIf_17 : decode cX2_acceptIf 17 = .ok (.ireturn, 1) := by decide +kernel
theorem dX2_canBegin_0 : decode cX2_canBegin 0 = .ok (.aload_n 0, 1) := by decide +kernel
theorem dX2_canBegin_1 : decode cX2_canBegin 1 = .ok (.getfield 9, 3) := by decide +kernel
theorem dX2_canBegin_4 : decode cX2_canBegin 4 = .ok (.invokevirtual 101, 3) := by decide +kernel
theorem dX2_canBegin_7 : decode cX2_canBegin 7 = .ok (.iconst (-1), 1) := by decide +kernel
theorem dX2_canBegin_8 : decode cX2_canBegin 8 = .ok (.if_icmp .ne 44, 3) := by decide +kernel
theorem dX2_canBegin_11 : decode cX2_canBegin 11 = .ok (.aload_n 0, 1) := by decide +kernel
theorem dX2_canBegin_12 : decode cX2_canBegin 12 = .ok (.getfield 9, 3) := by decide +kernel
theorem dX2_canBegin_15 : decode cX2_canBegin 15 = .ok (.ldc 105, 2) := by decide +kernel
theorem dX2_canBegin_17 : decode cX2_canBegin 17 = .ok (.invokevirtual 107, 3) := by decide +kernel
theorem dX2_canBegin_20 : decode cX2_canBegin 20 = .ok (.ifCond .ne 32, 3) := by decide +kernel
theorem dX2_canBegin_23 : decode cX2_canBegin 23 = .ok (.aload_n 0, 1) := by decide +kernel
theorem dX2_canBegin_24 : decode cX2_canBegin 24 = .ok (.getfield 9, 3) := by decide +kernel
theorem dX2_canBegin_27 : decode cX2_canBegin 27 = .ok (.ldc 110, 2) := by decide +kernel
theorem dX2_canBegin_29 : decode cX2_canBegin 29 = .ok (.invokevirtual 107, 3) := by decide +kernel
theorem dX2_canBegin_32 : decode cX2_canBegin 32 = .ok (.ifCond .ne 20, 3) := by decide +kernel
theorem dX2_canBegin_35 : decode cX2_canBegin 35 = .ok (.aload_n 0, 1) := by decide +kernel
theorem dX2_canBegin_36 : decode cX2_canBegin 36 = .ok (.getfield 9, 3) := by decide +kernel
theorem dX2_canBegin_39 : decode cX2_canBegin 39 = .ok (.ldc 112, 2) := by decide +kernel
theorem dX2_canBegin_41 : decode cX2_canBegin 41 = .ok (.invokevirtual 114, 3) := by decide +kernel
theorem dX2_canBegin_44 : decode cX2_canBegin 44 = .ok (.iconst 1, 1) := by decide +kernel
theorem dX2_canBegin_45 : decode cX2_canBegin 45 = .ok (.iadd, 1) := by decide +kernel
theorem dX2_canBegin_46 : decode cX2_canBegin 46 = .ok (.invokestatic 118, 3) := by decide +kernel
theorem dX2_canBegin_49 : decode cX2_canBegin 49 = .ok (.ifCond .eq 7, 3) := by decide +kernel
theorem dX2_canBegin_52 : decode cX2_canBegin 52 = .ok (.iconst 1, 1) := by decide +kernel
theorem dX2_canBegin_53 : decode cX2_canBegin 53 = .ok (.goto 4, 3) := by decide +kernel
theorem dX2_canBegin_56 : decode cX2_canBegin 56 = .ok (.iconst 0, 1) := by decide +kernel
theorem dX2_canBegin_57 : decode cX2_canBegin 57 = .ok (.ireturn, 1) := by decide +kernel
theorem dX2_readGuess_0 : decode cX2_readGuess 0 = .ok (.aload_n 0, 1) := by decide +kernel
theorem dX2_readGuess_1 : decode cX2_readGuess 1 = .ok (.getfield 9, 3) := by decide +kernel
theorem dX2_readGuess_4 : decode cX2_readGuess 4 = .ok (.ldc 105, 2) := by decide +kernel
theorem dX2_readGuess_6 : decode cX2_readGuess 6 = .ok (.invokevirtual 107, 3) := by decide +kernel
theorem dX2_readGuess_9 : decode cX2_readGuess 9 = .ok (.ifCond .ne 5, 3) := by decide +kernel
theorem dX2_readGuess_12 : decode cX2_readGuess 12 = .ok (.iconst 1, 1) := by decide +kernel
theorem dX2_readGuess_13 : decode cX2_readGuess 13 = .ok (.ireturn, 1) := by decide +kernel
theorem dX2_readGuess_14 : decode cX2_readGuess 14 = .ok (.aload_n 0, 1) := by decide +kernel
theorem dX2_readGuess_15 : decode cX2_readGuess 15 = .ok (.getfield 9, 3) := by decide +kernel
theorem dX2_readGuess_18 : decode cX2_readGuess 18 = .ok (.invokevirtual 98, 3) := by decide +kernel
theorem dX2_readGuess_21 : decode cX2_readGuess 21 = .ok (.aload_n 0, 1) := by decide +kernel
theorem dX2_readGuess_22 : decode cX2_readGuess 22 = .ok (.getfield 9, 3) := by decide +kernel
theorem dX2_readGuess_25 : decode cX2_readGuess 25 = .ok (.ldc 121, 2) := by decide +kernel
theorem dX2_readGuess_27 : decode cX2_readGuess 27 = .ok (.invokevirtual 107, 3) := by decide +kernel
theorem dX2_readGuess_30 : decode cX2_readGuess 30 = .ok (.istore_n 1, 1) := by decide +kernel
theorem dX2_readGuess_31 : decode cX2_readGuess 31 = .ok (.aload_n 0, 1) := by decide +kernel
theorem dX2_readGuess_32 : decode cX2_readGuess 32 = .ok (.getfield 9, 3) := by decide +kernel
theorem dX2_readGuess_35 : decode cX2_readGuess 35 = .ok (.ldc 123, 2) := by decide +kernel
theorem dX2_readGuess_37 : decode cX2_readGuess 37 = .ok (.invokevirtual 114, 3) := by decide +kernel
theorem dX2_readGuess_40 : decode cX2_readGuess 40 = .ok (.iconst 1, 1) := by decide +kernel
theorem dX2_readGuess_41 : decode cX2_readGuess 41 = .ok (.iadd, 1) := by decide +kernel
theorem dX2_readGuess_42 : decode cX2_readGuess 42 = .ok (.istore_n 2, 1) := by decide +kernel
theorem dX2_readGuess_43 : decode cX2_readGuess 43 = .ok (.aload_n 0, 1) := by decide +kernel
theorem dX2_readGuess_44 : decode cX2_readGuess 44 = .ok (.getfield 22, 3) := by decide +kernel
theorem dX2_readGuess_47 : decode cX2_readGuess 47 = .ok (.iload_n 2, 1) := by decide +kernel
theorem dX2_readGuess_48 : decode cX2_readGuess 48 = .ok (.putfield 125, 3) := by decide +kernel
theorem dX2_readGuess_51 : decode cX2_readGuess 51 = .ok (.aload_n 0, 1) := by decide +kernel
theorem dX2_readGuess_52 : decode cX2_readGuess 52 = .ok (.iload_n 1, 1) := by decide +kernel
theorem dX2_readGuess_53 : decode cX2_readGuess 53 = .ok (.ifCond .ne 7, 3) := by decide +kernel
theorem dX2_readGuess_56 : decode cX2_readGuess 56 = .ok (.iload_n 2, 1) := by decide +kernel
theorem dX2_readGuess_57 : decode cX2_readGuess 57 = .ok (.ifCond .eq 7, 3) := by decide +kernel
theorem dX2_readGuess_60 : decode cX2_readGuess 60 = .ok (.iconst 1, 1) := by decide +kernel
theorem dX2_readGuess_61 : decode cX2_readGuess 61 = .ok (.goto 4, 3) := by decide +kernel
theorem dX2_readGuess_64 : decode cX2_readGuess 64 = .ok (.iconst 0, 1) := by decide +kernel
theorem dX2_readGuess_65 : decode cX2_readGuess 65 = .ok (.invokevirtual 127, 3) := by decide +kernel
theorem dX2_readGuess_68 : decode cX2_readGuess 68 = .ok (.ireturn, 1) := by decide +kernel
theorem dX2_readTake_0 : decode cX2_readTake 0 = .ok (.aload_n 0, 1) := by decide +kernel
theorem dX2_readTake_1 : decode cX2_readTake 1 = .ok (.getfield 9, 3) := by decide +kernel
theorem dX2_readTake_4 : decode cX2_readTake 4 = .ok (.ldc 110, 2) := by decide +kernel
theorem dX2_readTake_6 : decode cX2_readTake 6 = .ok (.invokevirtual 107, 3) := by decide +kernel
theorem dX2_readTake_9 : decode cX2_readTake 9 = .ok (.ifCond .ne 5, 3) := by decide +kernel
theorem dX2_readTake_12 : decode cX2_readTake 12 = .ok (.iconst 1, 1) := by decide +kernel
theorem dX2_readTake_13 : decode cX2_readTake 13 = .ok (.ireturn, 1) := by decide +kernel
theorem dX2_readTake_14 : decode cX2_readTake 14 = .ok (.aload_n 0, 1) := by decide +kernel
theorem dX2_readTake_15 : decode cX2_readTake 15 = .ok (.getfield 87, 3) := by decide +kernel
theorem dX2_readTake_18 : decode cX2_readTake 18 = .ok (.bipush 8, 2) := by decide +kernel
theorem dX2_readTake_20 : decode cX2_readTake 20 = .ok (.if_icmp .ne 9, 3) := by decide +kernel
theorem dX2_readTake_23 : decode cX2_readTake 23 = .ok (.aload_n 0, 1) := by decide +kernel
theorem dX2_readTake_24 : decode cX2_readTake 24 = .ok (.iconst 4, 1) := by decide +kernel
theorem dX2_readTake_25 : decode cX2_readTake 25 = .ok (.invokevirtual 44, 3) := by decide +kernel
theorem dX2_readTake_28 : decode cX2_readTake 28 = .ok (.ireturn, 1) := by decide +kernel
theorem dX2_readTake_29 : decode cX2_readTake 29 = .ok (.aload_n 0, 1) := by decide +kernel
theorem dX2_readTake_30 : decode cX2_readTake 30 = .ok (.dup, 1) := by decide +kernel
theorem dX2_readTake_31 : decode cX2_readTake 31 = .ok (.getfield 87, 3) := by decide +kernel
theorem dX2_readTake_34 : decode cX2_readTake 34 = .ok (.iconst 1, 1) := by decide +kernel
theorem dX2_readTake_35 : decode cX2_readTake 35 = .ok (.iadd, 1) := by decide +kernel
theorem dX2_readTake_36 : decode cX2_readTake 36 = .ok (.putfield 87, 3) := by decide +kernel
theorem dX2_readTake_39 : decode cX2_readTake 39 = .ok (.aload_n 0, 1) := by decide +kernel
theorem dX2_readTake_40 : decode cX2_readTake 40 = .ok (.getfield 9, 3) := by decide +kernel
theorem dX2_readTake_43 : decode cX2_readTake 43 = .ok (.invokevirtual 98, 3) := by decide +kernel
theorem dX2_readTake_46 : decode cX2_readTake 46 = .ok (.aload_n 0, 1) := by decide +kernel
theorem dX2_readTake_47 : decode cX2_readTake 47 = .ok (.getfield 22, 3) := by decide +kernel
theorem dX2_readTake_50 : decode cX2_readTake 50 = .ok (.aload_n 0, 1) := by decide +kernel
theorem dX2_readTake_51 : decode cX2_readTake 51 = .ok (.getfield 9, 3) := by decide +kernel
theorem dX2_readTake_54 : decode cX2_readTake 54 = .ok (.ldc 123, 2) := by decide +kernel
theorem dX2_readTake_56 : decode cX2_readTake 56 = .ok (.invokevirtual 114, 3) := by decide +kernel
theorem dX2_readTake_59 : decode cX2_readTake 59 = .ok (.iconst 1, 1) := by decide +kernel
theorem dX2_readTake_60 : decode cX2_readTake 60 = .ok (.iadd, 1) := by decide +kernel
theorem dX2_readTake_61 : decode cX2_readTake 61 = .ok (.putfield 131, 3) := by decide +kernel
theorem dX2_readTake_64 : decode cX2_readTake 64 = .ok (.aload_n 0, 1) := by decide +kernel
theorem dX2_readTake_65 : decode cX2_readTake 65 = .ok (.aload_n 0, 1) := by decide +kernel
theorem dX2_readTake_66 : decode cX2_readTake 66 = .ok (.getfield 22, 3) := by decide +kernel
theorem dX2_readTake_69 : decode cX2_readTake 69 = .ok (.getfield 131, 3) := by decide +kernel
theorem dX2_readTake_72 : decode cX2_readTake 72 = .ok (.ifCond .eq 7, 3) := by decide +kernel
theorem dX2_readTake_75 : decode cX2_readTake 75 = .ok (.iconst 1, 1) := by decide +kernel
theorem dX2_readTake_76 : decode cX2_readTake 76 = .ok (.goto 4, 3) := by decide +kernel
theorem dX2_readTake_79 : decode cX2_readTake 79 = .ok (.iconst 0, 1) := by decide +kernel
theorem dX2_readTake_80 : decode cX2_readTake 80 = .ok (.invokevirtual 127, 3) := by decide +kernel
theorem dX2_readTake_83 : decode cX2_readTake 83 = .ok (.ireturn, 1) := by decide +kernel
theorem dX2_readHeadBehindEquals_0 : decode cX2_readHeadBehindEquals 0 = .ok (.aload_n 0, 1) := by decide +kernel
theorem dX2_readHeadBehindEquals_1 : decode cX2_readHeadBehindEquals 1 = .ok (.getfield 9, 3) := by decide +kernel
theorem dX2_readHeadBehindEquals_4 : decode cX2_readHeadBehindEquals 4 = .ok (.ldc 112, 2) := by decide +kernel
theorem dX2_readHeadBehindEquals_6 : decode cX2_readHeadBehindEquals 6 = .ok (.invokevirtual 114, 3) := by decide +kernel
theorem dX2_readHeadBehindEquals_9 : decode cX2_readHeadBehindEquals 9 = .ok (.iconst 1, 1) := by decide +kernel
theorem dX2_readHeadBehindEquals_10 : decode cX2_readHeadBehindEquals 10 = .ok (.iadd, 1) := by decide +kernel
theorem dX2_readHeadBehindEquals_11 : decode cX2_readHeadBehindEquals 11 = .ok (.istore_n 1, 1) := by decide +kernel
theorem dX2_readHeadBehindEquals_12 : decode cX2_readHeadBehindEquals 12 = .ok (.iload_n 1, 1) := by decide +kernel
theorem dX2_readHeadBehindEquals_13 : decode cX2_readHeadBehindEquals 13 = .ok (.invokestatic 149, 3) := by decide +kernel
theorem dX2_readHeadBehindEquals_16 : decode cX2_readHeadBehindEquals 16 = .ok (.ifCond .eq 19, 3) := by decide +kernel
theorem dX2_readHeadBehindEquals_19 : decode cX2_readHeadBehindEquals 19 = .ok (.aload_n 0, 1) := by decide +kernel
theorem dX2_readHeadBehindEquals_20 : decode cX2_readHeadBehindEquals 20 = .ok (.getfield 22, 3) := by decide +kernel
theorem dX2_readHeadBehindEquals_23 : decode cX2_readHeadBehindEquals 23 = .ok (.iload_n 1, 1) := by decide +kernel
theorem dX2_readHeadBehindEquals_24 : decode cX2_readHeadBehindEquals 24 = .ok (.putfield 133, 3) := by decide +kernel
theorem dX2_readHeadBehindEquals_27 : decode cX2_readHeadBehindEquals 27 = .ok (.aload_n 0, 1) := by decide +kernel
theorem dX2_readHeadBehindEquals_28 : decode cX2_readHeadBehindEquals 28 = .ok (.getfield 9, 3) := by decide +kernel
theorem dX2_readHeadBehindEquals_31 : decode cX2_readHeadBehindEquals 31 = .ok (.invokevirtual 98, 3) := by decide +kernel
theorem dX2_readHeadBehindEquals_34 : decode cX2_readHeadBehindEquals 34 = .ok (.return_, 1) := by decide +kernel
theorem dX2_readHeadBehindEquals_35 : decode cX2_readHeadBehindEquals 35 = .ok (.aload_n 0, 1) := by decide +kernel
theorem dX2_readHeadBehindEquals_36 : decode cX2_readHeadBehindEquals 36 = .ok (.getfield 22, 3) := by decide +kernel
theorem dX2_readHeadBehindEquals_39 : decode cX2_readHeadBehindEquals 39 = .ok (.iconst 1, 1) := by decide +kernel
theorem dX2_readHeadBehindEquals_40 : decode cX2_readHeadBehindEquals 40 = .ok (.putfield 133, 3) := by decide +kernel
theorem dX2_readHeadBehindEquals_43 : decode cX2_readHeadBehindEquals 43 = .ok (.aload_n 0, 1) := by decide +kernel
theorem dX2_readHeadBehindEquals_44 : decode cX2_readHeadBehindEquals 44 = .ok (.getfield 9, 3) := by decide +kernel
theorem dX2_readHeadBehindEquals_47 : decode cX2_readHeadBehindEquals 47 = .ok (.invokevirtual 101, 3) := by decide +kernel
theorem dX2_readHeadBehindEquals_50 : decode cX2_readHeadBehindEquals 50 = .ok (.istore_n 2, 1) := by decide +kernel
theorem dX2_readHeadBehindEquals_51 : decode cX2_readHeadBehindEquals 51 = .ok (.iload_n 2, 1) := by decide +kernel
theorem dX2_readHeadBehindEquals_52 : decode cX2_readHeadBehindEquals 52 = .ok (.iconst (-1), 1) := by decide +kernel
theorem dX2_readHeadBehindEquals_53 : decode cX2_readHeadBehindEquals 53 = .ok (.if_icmp .ne 4, 3) := by decide +kernel
theorem dX2_readHeadBehindEquals_56 : decode cX2_readHeadBehindEquals 56 = .ok (.return_, 1) := by decide +kernel
theorem dX2_readHeadBehindEquals_57 : decode cX2_readHeadBehindEquals 57 = .ok (.aload_n 0, 1) := by decide +kernel
theorem dX2_readHeadBehindEquals_58 : decode cX2_readHeadBehindEquals 58 = .ok (.getfield 9, 3) := by decide +kernel
theorem dX2_readHeadBehindEquals_61 : decode cX2_readHeadBehindEquals 61 = .ok (.invokevirtual 98, 3) := by decide +kernel
theorem dX2_readHeadBehindEquals_64 : decode cX2_readHeadBehindEquals 64 = .ok (.aload_n 0, 1) := by decide +kernel
theorem dX2_readHeadBehindEquals_65 : decode cX2_readHeadBehindEquals 65 = .ok (.getfield 9, 3) := by decide +kernel
theorem dX2_readHeadBehindEquals_68 : decode cX2_readHeadBehindEquals 68 = .ok (.bipush 91, 2) := by decide +kernel
theorem dX2_readHeadBehindEquals_70 : decode cX2_readHeadBehindEquals 70 = .ok (.invokevirtual 136, 3) := by decide +kernel
theorem dX2_readHeadBehindEquals_73 : decode cX2_readHeadBehindEquals 73 = .ok (.ifCond .eq 22, 3) := by decide +kernel
theorem dX2_readHeadBehindEquals_76 : decode cX2_readHeadBehindEquals 76 = .ok (.aload_n 0, 1) := by decide +kernel
theorem dX2_readHeadBehindEquals_77 : decode cX2_readHeadBehindEquals 77 = .ok (.getfield 22, 3) := by decide +kernel
theorem dX2_readHeadBehindEquals_80 : decode cX2_readHeadBehindEquals 80 = .ok (.iconst 2, 1) := by decide +kernel
theorem dX2_readHeadBehindEquals_81 : decode cX2_readHeadBehindEquals 81 = .ok (.putfield 133, 3) := by decide +kernel
theorem dX2_readHeadBehindEquals_84 : decode cX2_readHeadBehindEquals 84 = .ok (.aload_n 0, 1) := by decide +kernel
theorem dX2_readHeadBehindEquals_85 : decode cX2_readHeadBehindEquals 85 = .ok (.getfield 22, 3) := by decide +kernel
theorem dX2_readHeadBehindEquals_88 : decode cX2_readHeadBehindEquals 88 = .ok (.iload_n 2, 1) := by decide +kernel
theorem dX2_readHeadBehindEquals_89 : decode cX2_readHeadBehindEquals 89 = .ok (.putfield 140, 3) := by decide +kernel
theorem dX2_readHeadBehindEquals_92 : decode cX2_readHeadBehindEquals 92 = .ok (.goto 11, 3) := by decide +kernel
theorem dX2_readHeadBehindEquals_95 : decode cX2_readHeadBehindEquals 95 = .ok (.aload_n 0, 1) := by decide +kernel
theorem dX2_readHeadBehindEquals_96 : decode cX2_readHeadBehindEquals 96 = .ok (.getfield 22, 3) := by decide +kernel
theorem dX2_readHeadBehindEquals_99 : decode cX2_readHeadBehindEquals 99 = .ok (.iload_n 2, 1) := by decide +kernel
theorem dX2_readHeadBehindEquals_100 : decode cX2_readHeadBehindEquals 100 = .ok (.putfield 152, 3) := by decide +kernel
theorem dX2_readHeadBehindEquals_103 : decode cX2_readHeadBehindEquals 103 = .ok (.return_, 1) := by decide +kernel
theorem dX2_readHead_0 : decode cX2_readHead 0 = .ok (.aload_n 0, 1) := by decide +kernel
theorem dX2_readHead_1 : decode cX2_readHead 1 = .ok (.getfield 9, 3) := by decide +kernel
theorem dX2_readHead_4 : decode cX2_readHead 4 = .ok (.invokevirtual 101, 3) := by decide +kernel
theorem dX2_readHead_7 : decode cX2_readHead 7 = .ok (.istore_n 1, 1) := by decide +kernel
theorem dX2_readHead_8 : decode cX2_readHead 8 = .ok (.iload_n 1, 1) := by decide +kernel
theorem dX2_readHead_9 : decode cX2_readHead 9 = .ok (.iconst (-1), 1) := by decide +kernel
theorem dX2_readHead_10 : decode cX2_readHead 10 = .ok (.if_icmp .ne 36, 3) := by decide +kernel
theorem dX2_readHead_13 : decode cX2_readHead 13 = .ok (.aload_n 0, 1) := by decide +kernel
theorem dX2_readHead_14 : decode cX2_readHead 14 = .ok (.getfield 22, 3) := by decide +kernel
theorem dX2_readHead_17 : decode cX2_readHead 17 = .ok (.aload_n 0, 1) := by decide +kernel
theorem dX2_readHead_18 : decode cX2_readHead 18 = .ok (.getfield 9, 3) := by decide +kernel
theorem dX2_readHead_21 : decode cX2_readHead 21 = .ok (.ldc 112, 2) := by decide +kernel
theorem dX2_readHead_23 : decode cX2_readHead 23 = .ok (.invokevirtual 114, 3) := by decide +kernel
theorem dX2_readHead_26 : decode cX2_readHead 26 = .ok (.iconst 1, 1) := by decide +kernel
theorem dX2_readHead_27 : decode cX2_readHead 27 = .ok (.iadd, 1) := by decide +kernel
theorem dX2_readHead_28 : decode cX2_readHead 28 = .ok (.putfield 133, 3) := by decide +kernel
theorem dX2_readHead_31 : decode cX2_readHead 31 = .ok (.aload_n 0, 1) := by decide +kernel
theorem dX2_readHead_32 : decode cX2_readHead 32 = .ok (.aload_n 0, 1) := by decide +kernel
theorem dX2_readHead_33 : decode cX2_readHead 33 = .ok (.getfield 22, 3) := by decide +kernel
theorem dX2_readHead_36 : decode cX2_readHead 36 = .ok (.getfield 133, 3) := by decide +kernel
theorem dX2_readHead_39 : decode cX2_readHead 39 = .ok (.invokestatic 118, 3) := by decide +kernel
theorem dX2_readHead_42 : decode cX2_readHead 42 = .ok (.invokevirtual 127, 3) := by decide +kernel
theorem dX2_readHead_45 : decode cX2_readHead 45 = .ok (.ireturn, 1) := by decide +kernel
theorem dX2_readHead_46 : decode cX2_readHead 46 = .ok (.aload_n 0, 1) := by decide +kernel
theorem dX2_readHead_47 : decode cX2_readHead 47 = .ok (.getfield 9, 3) := by decide +kernel
theorem dX2_readHead_50 : decode cX2_readHead 50 = .ok (.invokevirtual 98, 3) := by decide +kernel
theorem dX2_readHead_53 : decode cX2_readHead 53 = .ok (.aload_n 0, 1) := by decide +kernel
theorem dX2_readHead_54 : decode cX2_readHead 54 = .ok (.getfield 9, 3) := by decide +kernel
theorem dX2_readHead_57 : decode cX2_readHead 57 = .ok (.bipush 91, 2) := by decide +kernel
theorem dX2_readHead_59 : decode cX2_readHead 59 = .ok (.invokevirtual 136, 3) := by decide +kernel
theorem dX2_readHead_62 : decode cX2_readHead 62 = .ok (.ifCond .eq 21, 3) := by decide +kernel
theorem dX2_readHead_65 : decode cX2_readHead 65 = .ok (.aload_n 0, 1) := by decide +kernel
theorem dX2_readHead_66 : decode cX2_readHead 66 = .ok (.getfield 22, 3) := by decide +kernel
theorem dX2_readHead_69 : decode cX2_readHead 69 = .ok (.iconst 3, 1) := by decide +kernel
theorem dX2_readHead_70 : decode cX2_readHead 70 = .ok (.putfield 133, 3) := by decide +kernel
theorem dX2_readHead_73 : decode cX2_readHead 73 = .ok (.aload_n 0, 1) := by decide +kernel
theorem dX2_readHead_74 : decode cX2_readHead 74 = .ok (.getfield 22, 3) := by decide +kernel
theorem dX2_readHead_77 : decode cX2_readHead 77 = .ok (.iload_n 1, 1) := by decide +kernel
theorem dX2_readHead_78 : decode cX2_readHead 78 = .ok (.putfield 140, 3) := by decide +kernel
theorem dX2_readHead_81 : decode cX2_readHead 81 = .ok (.iconst 1, 1) := by decide +kernel
theorem dX2_readHead_82 : decode cX2_readHead 82 = .ok (.ireturn, 1) := by decide +kernel
theorem dX2_readHead_83 : decode cX2_readHead 83 = .ok (.aload_n 0, 1) := by decide +kernel
theorem dX2_readHead_84 : decode cX2_readHead 84 = .ok (.getfield 22, 3) := by decide +kernel
theorem dX2_readHead_87 : decode cX2_readHead 87 = .ok (.iload_n 1, 1) := by decide +kernel
theorem dX2_readHead_88 : decode cX2_readHead 88 = .ok (.putfield 143, 3) := by decide +kernel
theorem dX2_readHead_91 : decode cX2_readHead 91 = .ok (.aload_n 0, 1) := by decide +kernel
theorem dX2_readHead_92 : decode cX2_readHead 92 = .ok (.aload_n 0, 1) := by decide +kernel
theorem dX2_readHead_93 : decode cX2_readHead 93 = .ok (.getfield 9, 3) := by decide +kernel
theorem dX2_readHead_96 : decode cX2_readHead 96 = .ok (.bipush 61, 2) := by decide +kernel
theorem dX2_readHead_98 : decode cX2_readHead 98 = .ok (.invokevirtual 136, 3) := by decide +kernel
theorem dX2_readHead_101 : decode cX2_readHead 101 = .ok (.invokevirtual 127, 3) := by decide +kernel
theorem dX2_readHead_104 : decode cX2_readHead 104 = .ok (.ifCond .ne 5, 3) := by decide +kernel
theorem dX2_readHead_107 : decode cX2_readHead 107 = .ok (.iconst 0, 1) := by decide +kernel
theorem dX2_readHead_108 : decode cX2_readHead 108 = .ok (.ireturn, 1) := by decide +kernel
theorem dX2_readHead_109 : decode cX2_readHead 109 = .ok (.aload_n 0, 1) := by decide +kernel
theorem dX2_readHead_110 : decode cX2_readHead 110 = .ok (.invokevirtual 146, 3) := by decide +kernel
theorem dX2_readHead_113 : decode cX2_readHead 113 = .ok (.iconst 1, 1) := by decide +kernel
theorem dX2_readHead_114 : decode cX2_readHead 114 = .ok (.ireturn, 1) := by decide +kernel
theorem dX2_partsOf_0 : decode cX2_partsOf 0 = .ok (.aload_n 0, 1) := by decide +kernel
theorem dX2_partsOf_1 : decode cX2_partsOf 1 = .ok (.getfield 133, 3) := by decide +kernel
theorem dX2_partsOf_4 : decode cX2_partsOf 4 = .ok (.tableswitch 155 1 21 #[100, 116, 119, 122, 125, 128, 131, 134, 155, 137, 137, 140, 155, 155, 155, 140, 143, 146, 149, 155, 152], 100) := by decide +kernel
theorem dX2_partsOf_104 : decode cX2_partsOf 104 = .ok (.aload_n 0, 1) := by decide +kernel
theorem dX2_partsOf_105 : decode cX2_partsOf 105 = .ok (.getfield 152, 3) := by decide +kernel
theorem dX2_partsOf_108 : decode cX2_partsOf 108 = .ok (.iconst (-1), 1) := by decide +kernel
theorem dX2_partsOf_109 : decode cX2_partsOf 109 = .ok (.if_icmp .ne 8, 3) := by decide +kernel
theorem dX2_partsOf_112 : decode cX2_partsOf 112 = .ok (.ldc 155, 2) := by decide +kernel
theorem dX2_partsOf_114 : decode cX2_partsOf 114 = .ok (.goto 5, 3) := by decide +kernel
theorem dX2_partsOf_117 : decode cX2_partsOf 117 = .ok (.ldc 157, 2) := by decide +kernel
theorem dX2_partsOf_119 : decode cX2_partsOf 119 = .ok (.areturn, 1) := by decide +kernel
theorem dX2_partsOf_120 : decode cX2_partsOf 120 = .ok (.ldc 159, 2) := by decide +kernel
theorem dX2_partsOf_122 : decode cX2_partsOf 122 = .ok (.areturn, 1) := by decide +kernel
theorem dX2_partsOf_123 : decode cX2_partsOf 123 = .ok (.ldc 161, 2) := by decide +kernel
theorem dX2_partsOf_125 : decode cX2_partsOf 125 = .ok (.areturn, 1) := by decide +kernel
theorem dX2_partsOf_126 : decode cX2_partsOf 126 = .ok (.ldc 163, 2) := by decide +kernel
theorem dX2_partsOf_128 : decode cX2_partsOf 128 = .ok (.areturn, 1) := by decide +kernel
theorem dX2_partsOf_129 : decode cX2_partsOf 129 = .ok (.ldc 165, 2) := by decide +kernel
theorem dX2_partsOf_131 : decode cX2_partsOf 131 = .ok (.areturn, 1) := by decide +kernel
theorem dX2_partsOf_132 : decode cX2_partsOf 132 = .ok (.ldc 167, 2) := by decide +kernel
theorem dX2_partsOf_134 : decode cX2_partsOf 134 = .ok (.areturn, 1) := by decide +kernel
theorem dX2_partsOf_135 : decode cX2_partsOf 135 = .ok (.ldc 169, 2) := by decide +kernel
theorem dX2_partsOf_137 : decode cX2_partsOf 137 = .ok (.areturn, 1) := by decide +kernel
theorem dX2_partsOf_138 : decode cX2_partsOf 138 = .ok (.ldc 171, 2) := by decide +kernel
theorem dX2_partsOf_140 : decode cX2_partsOf 140 = .ok (.areturn, 1) := by decide +kernel
theorem dX2_partsOf_141 : decode cX2_partsOf 141 = .ok (.ldc 173, 2) := by decide +kernel
theorem dX2_partsOf_143 : decode cX2_partsOf 143 = .ok (.areturn, 1) := by decide +kernel
theorem dX2_partsOf_144 : decode cX2_partsOf 144 = .ok (.ldc 175, 2) := by decide +kernel
theorem dX2_partsOf_146 : decode cX2_partsOf 146 = .ok (.areturn, 1) := by decide +kernel
theorem dX2_partsOf_147 : decode cX2_partsOf 147 = .ok (.ldc 177, 2) := by decide +kernel
theorem dX2_partsOf_149 : decode cX2_partsOf 149 = .ok (.areturn, 1) := by decide +kernel
theorem dX2_partsOf_150 : decode cX2_partsOf 150 = .ok (.ldc 179, 2) := by decide +kernel
theorem dX2_partsOf_152 : decode cX2_partsOf 152 = .ok (.areturn, 1) := by decide +kernel
theorem dX2_partsOf_153 : decode cX2_partsOf 153 = .ok (.ldc 181, 2) := by decide +kernel
theorem dX2_partsOf_155 : decode cX2_partsOf 155 = .ok (.areturn, 1) := by decide +kernel
theorem dX2_partsOf_156 : decode cX2_partsOf 156 = .ok (.ldc 155, 2) := by decide +kernel
theorem dX2_partsOf_158 : decode cX2_partsOf 158 = .ok (.areturn, 1) := by decide +kernel
theorem dX2_partsOf_159 : decode cX2_partsOf 159 = .ok (.ldc 183, 2) := by decide +kernel
theorem dX2_partsOf_161 : decode cX2_partsOf 161 = .ok (.areturn, 1) := by decide +kernel
theorem dX2_endClass_0 : decode cX2_endClass 0 = .ok (.aload_n 0, 1) := by decide +kernel
theorem dX2_endClass_1 : decode cX2_endClass 1 = .ok (.getfield 22, 3) := by decide +kernel
theorem dX2_endClass_4 : decode cX2_endClass 4 = .ok (.dup, 1) := by decide +kernel
theorem dX2_endClass_5 : decode cX2_endClass 5 = .ok (.getfield 78, 3) := by decide +kernel
theorem dX2_endClass_8 : decode cX2_endClass 8 = .ok (.iload_n 1, 1) := by decide +kernel
theorem dX2_endClass_9 : decode cX2_endClass 9 = .ok (.bipush 20, 2) := by decide +kernel
theorem dX2_endClass_11 : decode cX2_endClass 11 = .ok (.imul, 1) := by decide +kernel
theorem dX2_endClass_12 : decode cX2_endClass 12 = .ok (.iadd, 1) := by decide +kernel
theorem dX2_endClass_13 : decode cX2_endClass 13 = .ok (.putfield 78, 3) := by decide +kernel
theorem dX2_endClass_16 : decode cX2_endClass 16 = .ok (.aload_n 0, 1) := by decide +kernel
theorem dX2_endClass_17 : decode cX2_endClass 17 = .ok (.getfield 22, 3) := by decide +kernel
theorem dX2_endClass_20 : decode cX2_endClass 20 = .ok (.getfield 78, 3) := by decide +kernel
theorem dX2_endClass_23 : decode cX2_endClass 23 = .ok (.invokestatic 212, 3) := by decide +kernel
theorem dX2_endClass_26 : decode cX2_endClass 26 = .ok (.ifCond .eq 5, 3) := by decide +kernel
theorem dX2_endClass_29 : decode cX2_endClass 29 = .ok (.iconst 1, 1) := by decide +kernel
theorem dX2_endClass_30 : decode cX2_endClass 30 = .ok (.ireturn, 1) := by decide +kernel
theorem dX2_endClass_31 : decode cX2_endClass 31 = .ok (.aload_n 0, 1) := by decide +kernel
theorem dX2_endClass_32 : decode cX2_endClass 32 = .ok (.iconst 3, 1) := by decide +kernel
theorem dX2_endClass_33 : decode cX2_endClass 33 = .ok (.putfield 81, 3) := by decide +kernel
theorem dX2_endClass_36 : decode cX2_endClass 36 = .ok (.aload_n 0, 1) := by decide +kernel
theorem dX2_endClass_37 : decode cX2_endClass 37 = .ok (.aload_n 0, 1) := by decide +kernel
theorem dX2_endClass_38 : decode cX2_endClass 38 = .ok (.getfield 215, 3) := by decide +kernel
theorem dX2_endClass_41 : decode cX2_endClass 41 = .ok (.putfield 84, 3) := by decide +kernel
theorem dX2_endClass_44 : decode cX2_endClass 44 = .ok (.iconst 0, 1) := by decide +kernel
theorem dX2_endClass_45 : decode cX2_endClass 45 = .ok (.ireturn, 1) := by decide +kernel
theorem dX2_readRepeat_0 : decode cX2_readRepeat 0 = .ok (.aload_n 0, 1) := by decide +kernel
theorem dX2_readRepeat_1 : decode cX2_readRepeat 1 = .ok (.getfield 22, 3) := by decide +kernel
theorem dX2_readRepeat_4 : decode cX2_readRepeat 4 = .ok (.getfield 201, 3) := by decide +kernel
theorem dX2_readRepeat_7 : decode cX2_readRepeat 7 = .ok (.aload_n 0, 1) := by decide +kernel
theorem dX2_readRepeat_8 : decode cX2_readRepeat 8 = .ok (.getfield 22, 3) := by decide +kernel
theorem dX2_readRepeat_11 : decode cX2_readRepeat 11 = .ok (.getfield 204, 3) := by decide +kernel
theorem dX2_readRepeat_14 : decode cX2_readRepeat 14 = .ok (.iadd, 1) := by decide +kernel
theorem dX2_readRepeat_15 : decode cX2_readRepeat 15 = .ok (.istore_n 3, 1) := by decide +kernel
theorem dX2_readRepeat_16 : decode cX2_readRepeat 16 = .ok (.iload_n 1, 1) := by decide +kernel
theorem dX2_readRepeat_17 : decode cX2_readRepeat 17 = .ok (.bipush 47, 2) := by decide +kernel
theorem dX2_readRepeat_19 : decode cX2_readRepeat 19 = .ok (.if_icmp .ne 11, 3) := by decide +kernel
theorem dX2_readRepeat_22 : decode cX2_readRepeat 22 = .ok (.aload_n 0, 1) := by decide +kernel
theorem dX2_readRepeat_23 : decode cX2_readRepeat 23 = .ok (.getfield 22, 3) := by decide +kernel
theorem dX2_readRepeat_26 : decode cX2_readRepeat 26 = .ok (.getfield 204, 3) := by decide +kernel
theorem dX2_readRepeat_29 : decode cX2_readRepeat 29 = .ok (.istore_n 3, 1) := by decide +kernel
theorem dX2_readRepeat_30 : decode cX2_readRepeat 30 = .ok (.aload_n 0, 1) := by decide +kernel
theorem dX2_readRepeat_31 : decode cX2_readRepeat 31 = .ok (.getfield 9, 3) := by decide +kernel
theorem dX2_readRepeat_34 : decode cX2_readRepeat 34 = .ok (.bipush 91, 2) := by decide +kernel
theorem dX2_readRepeat_36 : decode cX2_readRepeat 36 = .ok (.invokevirtual 136, 3) := by decide +kernel
theorem dX2_readRepeat_39 : decode cX2_readRepeat 39 = .ok (.ifCond .ne 25, 3) := by decide +kernel
theorem dX2_readRepeat_42 : decode cX2_readRepeat 42 = .ok (.iload_n 1, 1) := by decide +kernel
theorem dX2_readRepeat_43 : decode cX2_readRepeat 43 = .ok (.bipush 42, 2) := by decide +kernel
theorem dX2_readRepeat_45 : decode cX2_readRepeat 45 = .ok (.if_icmp .eq 11, 3) := by decide +kernel
theorem dX2_readRepeat_48 : decode cX2_readRepeat 48 = .ok (.aload_n 0, 1) := by decide +kernel
theorem dX2_readRepeat_49 : decode cX2_readRepeat 49 = .ok (.iload_n 3, 1) := by decide +kernel
theorem dX2_readRepeat_50 : decode cX2_readRepeat 50 = .ok (.invokevirtual 207, 3) := by decide +kernel
theorem dX2_readRepeat_53 : decode cX2_readRepeat 53 = .ok (.ifCond .eq 9, 3) := by decide +kernel
theorem dX2_readRepeat_56 : decode cX2_readRepeat 56 = .ok (.iload_n 2, 1) := by decide +kernel
theorem dX2_readRepeat_57 : decode cX2_readRepeat 57 = .ok (.iconst 1, 1) := by decide +kernel
theorem dX2_readRepeat_58 : decode cX2_readRepeat 58 = .ok (.iadd, 1) := by decide +kernel
theorem dX2_readRepeat_59 : decode cX2_readRepeat 59 = .ok (.goto 4, 3) := by decide +kernel
theorem dX2_readRepeat_62 : decode cX2_readRepeat 62 = .ok (.iconst (-1), 1) := by decide +kernel
theorem dX2_readRepeat_63 : decode cX2_readRepeat 63 = .ok (.ireturn, 1) := by decide +kernel
theorem dX2_readRepeat_64 : decode cX2_readRepeat 64 = .ok (.iload_n 3, 1) := by decide +kernel
theorem dX2_readRepeat_65 : decode cX2_readRepeat 65 = .ok (.iconst 3, 1) := by decide +kernel
theorem dX2_readRepeat_66 : decode cX2_readRepeat 66 = .ok (.if_icmp .ne 11, 3) := by decide +kernel
theorem dX2_readRepeat_69 : decode cX2_readRepeat 69 = .ok (.aload_n 0, 1) := by decide +kernel
theorem dX2_readRepeat_70 : decode cX2_readRepeat 70 = .ok (.iconst 4, 1) := by decide +kernel
theorem dX2_readRepeat_71 : decode cX2_readRepeat 71 = .ok (.invokevirtual 44, 3) := by decide +kernel
theorem dX2_readRepeat_74 : decode cX2_readRepeat 74 = .ok (.pop, 1) := by decide +kernel
theorem dX2_readRepeat_75 : decode cX2_readRepeat 75 = .ok (.iconst (-1), 1) := by decide +kernel
theorem dX2_readRepeat_76 : decode cX2_readRepeat 76 = .ok (.ireturn, 1) := by decide +kernel
theorem dX2_readRepeat_77 : decode cX2_readRepeat 77 = .ok (.iload_n 1, 1) := by decide +kernel
theorem dX2_readRepeat_78 : decode cX2_readRepeat 78 = .ok (.bipush 42, 2) := by decide +kernel
theorem dX2_readRepeat_80 : decode cX2_readRepeat 80 = .ok (.if_icmp .ne 7, 3) := by decide +kernel
theorem dX2_readRepeat_83 : decode cX2_readRepeat 83 = .ok (.iload_n 2, 1) := by decide +kernel
theorem dX2_readRepeat_84 : decode cX2_readRepeat 84 = .ok (.iconst 4, 1) := by decide +kernel
theorem dX2_readRepeat_85 : decode cX2_readRepeat 85 = .ok (.isub, 1) := by decide +kernel
theorem dX2_readRepeat_86 : decode cX2_readRepeat 86 = .ok (.ireturn, 1) := by decide +kernel
theorem dX2_readRepeat_87 : decode cX2_readRepeat 87 = .ok (.aload_n 0, 1) := by decide +kernel
theorem dX2_readRepeat_88 : decode cX2_readRepeat 88 = .ok (.getfield 9, 3) := by decide +kernel
theorem dX2_readRepeat_91 : decode cX2_readRepeat 91 = .ok (.invokevirtual 98, 3) := by decide +kernel
theorem dX2_readRepeat_94 : decode cX2_readRepeat 94 = .ok (.iload_n 1, 1) := by decide +kernel
theorem dX2_readRepeat_95 : decode cX2_readRepeat 95 = .ok (.bipush 43, 2) := by decide +kernel
theorem dX2_readRepeat_97 : decode cX2_readRepeat 97 = .ok (.if_icmp .ne 29, 3) := by decide +kernel
theorem dX2_readRepeat_100 : decode cX2_readRepeat 100 = .ok (.aload_n 0, 1) := by decide +kernel
theorem dX2_readRepeat_101 : decode cX2_readRepeat 101 = .ok (.getfield 22, 3) := by decide +kernel
theorem dX2_readRepeat_104 : decode cX2_readRepeat 104 = .ok (.getfield 204, 3) := by decide +kernel
theorem dX2_readRepeat_107 : decode cX2_readRepeat 107 = .ok (.ifCond .ne 19, 3) := by decide +kernel
theorem dX2_readRepeat_110 : decode cX2_readRepeat 110 = .ok (.aload_n 0, 1) := by decide +kernel
theorem dX2_readRepeat_111 : decode cX2_readRepeat 111 = .ok (.getfield 9, 3) := by decide +kernel
theorem dX2_readRepeat_114 : decode cX2_readRepeat 114 = .ok (.bipush 93, 2) := by decide +kernel
theorem dX2_readRepeat_116 : decode cX2_readRepeat 116 = .ok (.invokevirtual 136, 3) := by decide +kernel
theorem dX2_readRepeat_119 : decode cX2_readRepeat 119 = .ok (.ifCond .ne 7, 3) := by decide +kernel
theorem dX2_readRepeat_122 : decode cX2_readRepeat 122 = .ok (.iload_n 2, 1) := by decide +kernel
theorem dX2_readRepeat_123 : decode cX2_readRepeat 123 = .ok (.iconst 3, 1) := by decide +kernel
theorem dX2_readRepeat_124 : decode cX2_readRepeat 124 = .ok (.isub, 1) := by decide +kernel
theorem dX2_readRepeat_125 : decode cX2_readRepeat 125 = .ok (.ireturn, 1) := by decide +kernel
theorem dX2_readRepeat_126 : decode cX2_readRepeat 126 = .ok (.aload_n 0, 1) := by decide +kernel
theorem dX2_readRepeat_127 : decode cX2_readRepeat 127 = .ok (.getfield 22, 3) := by decide +kernel
theorem dX2_readRepeat_130 : decode cX2_readRepeat 130 = .ok (.dup, 1) := by decide +kernel
theorem dX2_readRepeat_131 : decode cX2_readRepeat 131 = .ok (.getfield 204, 3) := by decide +kernel
theorem dX2_readRepeat_134 : decode cX2_readRepeat 134 = .ok (.iconst 1, 1) := by decide +kernel
theorem dX2_readRepeat_135 : decode cX2_readRepeat 135 = .ok (.iadd, 1) := by decide +kernel
theorem dX2_readRepeat_136 : decode cX2_readRepeat 136 = .ok (.putfield 204, 3) := by decide +kernel
theorem dX2_readRepeat_139 : decode cX2_readRepeat 139 = .ok (.aload_n 0, 1) := by decide +kernel
theorem dX2_readRepeat_140 : decode cX2_readRepeat 140 = .ok (.aload_n 0, 1) := by decide +kernel
theorem dX2_readRepeat_141 : decode cX2_readRepeat 141 = .ok (.getfield 9, 3) := by decide +kernel
theorem dX2_readRepeat_144 : decode cX2_readRepeat 144 = .ok (.bipush 93, 2) := by decide +kernel
theorem dX2_readRepeat_146 : decode cX2_readRepeat 146 = .ok (.invokevirtual 136, 3) := by decide +kernel
theorem dX2_readRepeat_149 : decode cX2_readRepeat 149 = .ok (.invokevirtual 127, 3) := by decide +kernel
theorem dX2_readRepeat_152 : decode cX2_readRepeat 152 = .ok (.ifCond .eq 7, 3) := by decide +kernel
theorem dX2_readRepeat_155 : decode cX2_readRepeat 155 = .ok (.iload_n 2, 1) := by decide +kernel
theorem dX2_readRepeat_156 : decode cX2_readRepeat 156 = .ok (.goto 4, 3) := by decide +kernel
theorem dX2_readRepeat_159 : decode cX2_readRepeat 159 = .ok (.iconst (-1), 1) := by decide +kernel
theorem dX2_readRepeat_160 : decode cX2_readRepeat 160 = .ok (.ireturn, 1) := by decide +kernel
theorem dX2_acceptIndex_0 : decode cX2_acceptIndex 0 = .ok (.aload_n 0, 1) := by decide +kernel
theorem dX2_acceptIndex_1 : decode cX2_acceptIndex 1 = .ok (.getfield 9, 3) := by decide +kernel
theorem dX2_acceptIndex_4 : decode cX2_acceptIndex 4 = .ok (.getfield 35, 3) := by decide +kernel
theorem dX2_acceptIndex_7 : decode cX2_acceptIndex 7 = .ok (.iconst 3, 1) := by decide +kernel
theorem dX2_acceptIndex_8 : decode cX2_acceptIndex 8 = .ok (.if_icmp .eq 46, 3) := by decide +kernel
theorem dX2_acceptIndex_11 : decode cX2_acceptIndex 11 = .ok (.aload_n 0, 1) := by decide +kernel
theorem dX2_acceptIndex_12 : decode cX2_acceptIndex 12 = .ok (.getfield 90, 3) := by decide +kernel
theorem dX2_acceptIndex_15 : decode cX2_acceptIndex 15 = .ok (.ifCond .eq 7, 3) := by decide +kernel
theorem dX2_acceptIndex_18 : decode cX2_acceptIndex 18 = .ok (.iconst (-1), 1) := by decide +kernel
theorem dX2_acceptIndex_19 : decode cX2_acceptIndex 19 = .ok (.goto 10, 3) := by decide +kernel
theorem dX2_acceptIndex_22 : decode cX2_acceptIndex 22 = .ok (.aload_n 0, 1) := by decide +kernel
theorem dX2_acceptIndex_23 : decode cX2_acceptIndex 23 = .ok (.getfield 9, 3) := by decide +kernel
theorem dX2_acceptIndex_26 : decode cX2_acceptIndex 26 = .ok (.invokevirtual 101, 3) := by decide +kernel
theorem dX2_acceptIndex_29 : decode cX2_acceptIndex 29 = .ok (.istore_n 1, 1) := by decide +kernel
theorem dX2_acceptIndex_30 : decode cX2_acceptIndex 30 = .ok (.aload_n 0, 1) := by decide +kernel
theorem dX2_acceptIndex_31 : decode cX2_acceptIndex 31 = .ok (.getfield 22, 3) := by decide +kernel
theorem dX2_acceptIndex_34 : decode cX2_acceptIndex 34 = .ok (.iload_n 1, 1) := by decide +kernel
theorem dX2_acceptIndex_35 : decode cX2_acceptIndex 35 = .ok (.iconst 0, 1) := by decide +kernel
theorem dX2_acceptIndex_36 : decode cX2_acceptIndex 36 = .ok (.invokevirtual 244, 3) := by decide +kernel
theorem dX2_acceptIndex_39 : decode cX2_acceptIndex 39 = .ok (.aload_n 0, 1) := by decide +kernel
theorem dX2_acceptIndex_40 : decode cX2_acceptIndex 40 = .ok (.iload_n 1, 1) := by decide +kernel
theorem dX2_acceptIndex_41 : decode cX2_acceptIndex 41 = .ok (.iconst (-1), 1) := by decide +kernel
theorem dX2_acceptIndex_42 : decode cX2_acceptIndex 42 = .ok (.if_icmp .eq 7, 3) := by decide +kernel
theorem dX2_acceptIndex_45 : decode cX2_acceptIndex 45 = .ok (.iconst 1, 1) := by decide +kernel
theorem dX2_acceptIndex_46 : decode cX2_acceptIndex 46 = .ok (.goto 4, 3) := by decide +kernel
theorem dX2_acceptIndex_49 : decode cX2_acceptIndex 49 = .ok (.iconst 0, 1) := by decide +kernel
theorem dX2_acceptIndex_50 : decode cX2_acceptIndex 50 = .ok (.invokevirtual 218, 3) := by decide +kernel
theorem dX2_acceptIndex_53 : decode cX2_acceptIndex 53 = .ok (.ireturn, 1) := by decide +kernel
theorem dX2_acceptIndex_54 : decode cX2_acceptIndex 54 = .ok (.aload_n 0, 1) := by decide +kernel
theorem dX2_acceptIndex_55 : decode cX2_acceptIndex 55 = .ok (.getfield 9, 3) := by decide +kernel
theorem dX2_acceptIndex_58 : decode cX2_acceptIndex 58 = .ok (.invokevirtual 247, 3) := by decide +kernel
theorem dX2_acceptIndex_61 : decode cX2_acceptIndex 61 = .ok (.lstore_n 1, 1) := by decide +kernel
theorem dX2_acceptIndex_62 : decode cX2_acceptIndex 62 = .ok (.aload_n 0, 1) := by decide +kernel
theorem dX2_acceptIndex_63 : decode cX2_acceptIndex 63 = .ok (.getfield 9, 3) := by decide +kernel
theorem dX2_acceptIndex_66 : decode cX2_acceptIndex 66 = .ok (.invokevirtual 251, 3) := by decide +kernel
theorem dX2_acceptIndex_69 : decode cX2_acceptIndex 69 = .ok (.iconst 4, 1) := by decide +kernel
theorem dX2_acceptIndex_70 : decode cX2_acceptIndex 70 = .ok (.if_icmp .ne 15, 3) := by decide +kernel
theorem dX2_acceptIndex_73 : decode cX2_acceptIndex 73 = .ok (.iconst 4, 1) := by decide +kernel
theorem dX2_acceptIndex_74 : decode cX2_acceptIndex 74 = .ok (.lload_n 1, 1) := by decide +kernel
theorem dX2_acceptIndex_75 : decode cX2_acceptIndex 75 = .ok (.aload_n 0, 1) := by decide +kernel
theorem dX2_acceptIndex_76 : decode cX2_acceptIndex 76 = .ok (.getfield 90, 3) := by decide +kernel
theorem dX2_acceptIndex_79 : decode cX2_acceptIndex 79 = .ok (.invokestatic 254, 3) := by decide +kernel
theorem dX2_acceptIndex_82 : decode cX2_acceptIndex 82 = .ok (.ifCond .ne 9, 3) := by decide +kernel
theorem dX2_acceptIndex_85 : decode cX2_acceptIndex 85 = .ok (.aload_n 0, 1) := by decide +kernel
theorem dX2_acceptIndex_86 : decode cX2_acceptIndex 86 = .ok (.iconst 3, 1) := by decide +kernel
theorem dX2_acceptIndex_87 : decode cX2_acceptIndex 87 = .ok (.invokevirtual 44, 3) := by decide +kernel
theorem dX2_acceptIndex_90 : decode cX2_acceptIndex 90 = .ok (.ireturn, 1) := by decide +kernel
theorem dX2_acceptIndex_91 : decode cX2_acceptIndex 91 = .ok (.aload_n 0, 1) := by decide +kernel
theorem dX2_acceptIndex_92 : decode cX2_acceptIndex 92 = .ok (.getfield 22, 3) := by decide +kernel
theorem dX2_acceptIndex_95 : decode cX2_acceptIndex 95 = .ok (.iconst (-1), 1) := by decide +kernel
theorem dX2_acceptIndex_96 : decode cX2_acceptIndex 96 = .ok (.aload_n 0, 1) := by decide +kernel
theorem dX2_acceptIndex_97 : decode cX2_acceptIndex 97 = .ok (.getfield 90, 3) := by decide +kernel
theorem dX2_acceptIndex_100 : decode cX2_acceptIndex 100 = .ok (.ifCond .eq 8, 3) := by decide +kernel
theorem dX2_acceptIndex_103 : decode cX2_acceptIndex 103 = .ok (.lload_n 1, 1) := by decide +kernel
theorem dX2_acceptIndex_104 : decode cX2_acceptIndex 104 = .ok (.lneg, 1) := by decide +kernel
theorem dX2_acceptIndex_105 : decode cX2_acceptIndex 105 = .ok (.goto 4, 3) := by decide +kernel
theorem dX2_acceptIndex_108 : decode cX2_acceptIndex 108 = .ok (.lload_n 1, 1) := by decide +kernel
theorem dX2_acceptIndex_109 : decode cX2_acceptIndex 109 = .ok (.l2i, 1) := by decide +kernel
theorem dX2_acceptIndex_110 : decode cX2_acceptIndex 110 = .ok (.invokevirtual 244, 3) := by decide +kernel
theorem dX2_acceptIndex_113 : decode cX2_acceptIndex 113 = .ok (.iconst 1, 1) := by decide +kernel
theorem dX2_acceptIndex_114 : decode cX2_acceptIndex 114 = .ok (.ireturn, 1) := by decide +kernel
theorem dX2_acceptNumber_0 : decode cX2_acceptNumber 0 = .ok (.aload_n 0, 1) := by decide +kernel
theorem dX2_acceptNumber_1 : decode cX2_acceptNumber 1 = .ok (.getfield 9, 3) := by decide +kernel
theorem dX2_acceptNumber_4 : decode cX2_acceptNumber 4 = .ok (.invokevirtual 251, 3) := by decide +kernel
theorem dX2_acceptNumber_7 : decode cX2_acceptNumber 7 = .ok (.istore_n 1, 1) := by decide +kernel
theorem dX2_acceptNumber_8 : decode cX2_acceptNumber 8 = .ok (.aload_n 0, 1) := by decide +kernel
theorem dX2_acceptNumber_9 : decode cX2_acceptNumber 9 = .ok (.getfield 9, 3) := by decide +kernel
theorem dX2_acceptNumber_12 : decode cX2_acceptNumber 12 = .ok (.invokevirtual 247, 3) := by decide +kernel
theorem dX2_acceptNumber_15 : decode cX2_acceptNumber 15 = .ok (.lstore_n 2, 1) := by decide +kernel
theorem dX2_acceptNumber_16 : decode cX2_acceptNumber 16 = .ok (.iload_n 1, 1) := by decide +kernel
theorem dX2_acceptNumber_17 : decode cX2_acceptNumber 17 = .ok (.lload_n 2, 1) := by decide +kernel
theorem dX2_acceptNumber_18 : decode cX2_acceptNumber 18 = .ok (.aload_n 0, 1) := by decide +kernel
theorem dX2_acceptNumber_19 : decode cX2_acceptNumber 19 = .ok (.getfield 90, 3) := by decide +kernel
theorem dX2_acceptNumber_22 : decode cX2_acceptNumber 22 = .ok (.invokestatic 254, 3) := by decide +kernel
theorem dX2_acceptNumber_25 : decode cX2_acceptNumber 25 = .ok (.ifCond .ne 9, 3) := by decide +kernel
theorem dX2_acceptNumber_28 : decode cX2_acceptNumber 28 = .ok (.aload_n 0, 1) := by decide +kernel
theorem dX2_acceptNumber_29 : decode cX2_acceptNumber 29 = .ok (.iconst 3, 1) := by decide +kernel
theorem dX2_acceptNumber_30 : decode cX2_acceptNumber 30 = .ok (.invokevirtual 44, 3) := by decide +kernel
theorem dX2_acceptNumber_33 : decode cX2_acceptNumber 33 = .ok (.ireturn, 1) := by decide +kernel
theorem dX2_acceptNumber_34 : decode cX2_acceptNumber 34 = .ok (.aload_n 0, 1) := by decide +kernel
theorem dX2_acceptNumber_35 : decode cX2_acceptNumber 35 = .ok (.getfield 22, 3) := by decide +kernel
theorem dX2_acceptNumber_38 : decode cX2_acceptNumber 38 = .ok (.iload_n 1, 1) := by decide +kernel
theorem dX2_acceptNumber_39 : decode cX2_acceptNumber 39 = .ok (.putfield 258, 3) := by decide +kernel
theorem dX2_acceptNumber_42 : decode cX2_acceptNumber 42 = .ok (.aload_n 0, 1) := by decide +kernel
theorem dX2_acceptNumber_43 : decode cX2_acceptNumber 43 = .ok (.getfield 22, 3) := by decide +kernel
theorem dX2_acceptNumber_46 : decode cX2_acceptNumber 46 = .ok (.aload_n 0, 1) := by decide +kernel
theorem dX2_acceptNumber_47 : decode cX2_acceptNumber 47 = .ok (.getfield 90, 3) := by decide +kernel
theorem dX2_acceptNumber_50 : decode cX2_acceptNumber 50 = .ok (.ifCond .eq 8, 3) := by decide +kernel
theorem dX2_acceptNumber_53 : decode cX2_acceptNumber 53 = .ok (.lload_n 2, 1) := by decide +kernel
theorem dX2_acceptNumber_54 : decode cX2_acceptNumber 54 = .ok (.lneg, 1) := by decide +kernel
theorem dX2_acceptNumber_55 : decode cX2_acceptNumber 55 = .ok (.goto 4, 3) := by decide +kernel
theorem dX2_acceptNumber_58 : decode cX2_acceptNumber 58 = .ok (.lload_n 2, 1) := by decide +kernel
theorem dX2_acceptNumber_59 : decode cX2_acceptNumber 59 = .ok (.iload_n 1, 1) := by decide +kernel
theorem dX2_acceptNumber_60 : decode cX2_acceptNumber 60 = .ok (.invokestatic 261, 3) := by decide +kernel
theorem dX2_acceptNumber_63 : decode cX2_acceptNumber 63 = .ok (.putfield 265, 3) := by decide +kernel
theorem dX2_acceptNumber_66 : decode cX2_acceptNumber 66 = .ok (.iconst 1, 1) := by decide +kernel
theorem dX2_acceptNumber_67 : decode cX2_acceptNumber 67 = .ok (.ireturn, 1) := by decide +kernel
theorem dX2_acceptOtherAtom_0 : decode cX2_acceptOtherAtom 0 = .ok (.aload_n 0, 1) := by decide +kernel
theorem dX2_acceptOtherAtom_1 : decode cX2_acceptOtherAtom 1 = .ok (.getfield 90, 3) := by decide +kernel
theorem dX2_acceptOtherAtom_4 : decode cX2_acceptOtherAtom 4 = .ok (.ifCond .eq 9, 3) := by decide +kernel
theorem dX2_acceptOtherAtom_7 : decode cX2_acceptOtherAtom 7 = .ok (.aload_n 0, 1) := by decide +kernel
theorem dX2_acceptOtherAtom_8 : decode cX2_acceptOtherAtom 8 = .ok (.iconst 2, 1) := by decide +kernel
theorem dX2_acceptOtherAtom_9 : decode cX2_acceptOtherAtom 9 = .ok (.invokevirtual 44, 3) := by decide +kernel
theorem dX2_acceptOtherAtom_12 : decode cX2_acceptOtherAtom 12 = .ok (.ireturn, 1) := by decide +kernel
theorem dX2_acceptOtherAtom_13 : decode cX2_acceptOtherAtom 13 = .ok (.aload_n 0, 1) := by decide +kernel
theorem dX2_acceptOtherAtom_14 : decode cX2_acceptOtherAtom 14 = .ok (.getfield 9, 3) := by decide +kernel
theorem dX2_acceptOtherAtom_17 : decode cX2_acceptOtherAtom 17 = .ok (.ldc 224, 2) := by decide +kernel
theorem dX2_acceptOtherAtom_19 : decode cX2_acceptOtherAtom 19 = .ok (.invokevirtual 114, 3) := by decide +kernel
theorem dX2_acceptOtherAtom_22 : decode cX2_acceptOtherAtom 22 = .ok (.istore_n 1, 1) := by decide +kernel
theorem dX2_acceptOtherAtom_23 : decode cX2_acceptOtherAtom 23 = .ok (.iload_n 1, 1) := by decide +kernel
theorem dX2_acceptOtherAtom_24 : decode cX2_acceptOtherAtom 24 = .ok (.bipush 8, 2) := by decide +kernel
theorem dX2_acceptOtherAtom_26 : decode cX2_acceptOtherAtom 26 = .ok (.if_icmp .lt 13, 3) := by decide +kernel
theorem dX2_acceptOtherAtom_29 : decode cX2_acceptOtherAtom 29 = .ok (.iload_n 1, 1) := by decide +kernel
theorem dX2_acceptOtherAtom_30 : decode cX2_acceptOtherAtom 30 = .ok (.bipush 15, 2) := by decide +kernel
theorem dX2_acceptOtherAtom_32 : decode cX2_acceptOtherAtom 32 = .ok (.if_icmp .ge 7, 3) := by decide +kernel
theorem dX2_acceptOtherAtom_35 : decode cX2_acceptOtherAtom 35 = .ok (.iconst 1, 1) := by decide +kernel
theorem dX2_acceptOtherAtom_36 : decode cX2_acceptOtherAtom 36 = .ok (.goto 4, 3) := by decide +kernel
theorem dX2_acceptOtherAtom_39 : decode cX2_acceptOtherAtom 39 = .ok (.iconst 0, 1) := by decide +kernel
theorem dX2_acceptOtherAtom_40 : decode cX2_acceptOtherAtom 40 = .ok (.istore_n 2, 1) := by decide +kernel
theorem dX2_acceptOtherAtom_41 : decode cX2_acceptOtherAtom 41 = .ok (.aload_n 0, 1) := by decide +kernel
theorem dX2_acceptOtherAtom_42 : decode cX2_acceptOtherAtom 42 = .ok (.getfield 9, 3) := by decide +kernel
theorem dX2_acceptOtherAtom_45 : decode cX2_acceptOtherAtom 45 = .ok (.ldc_w 269, 3) := by decide +kernel
theorem dX2_acceptOtherAtom_48 : decode cX2_acceptOtherAtom 48 = .ok (.invokevirtual 114, 3) := by decide +kernel
theorem dX2_acceptOtherAtom_51 : decode cX2_acceptOtherAtom 51 = .ok (.istore_n 3, 1) := by decide +kernel
theorem dX2_acceptOtherAtom_52 : decode cX2_acceptOtherAtom 52 = .ok (.aload_n 0, 1) := by decide +kernel
theorem dX2_acceptOtherAtom_53 : decode cX2_acceptOtherAtom 53 = .ok (.getfield 22, 3) := by decide +kernel
theorem dX2_acceptOtherAtom_56 : decode cX2_acceptOtherAtom 56 = .ok (.aload_n 0, 1) := by decide +kernel
theorem dX2_acceptOtherAtom_57 : decode cX2_acceptOtherAtom 57 = .ok (.getfield 9, 3) := by decide +kernel
theorem dX2_acceptOtherAtom_60 : decode cX2_acceptOtherAtom 60 = .ok (.invokevirtual 101, 3) := by decide +kernel
theorem dX2_acceptOtherAtom_63 : decode cX2_acceptOtherAtom 63 = .ok (.putfield 152, 3) := by decide +kernel
theorem dX2_acceptOtherAtom_66 : decode cX2_acceptOtherAtom 66 = .ok (.iload_n 2, 1) := by decide +kernel
theorem dX2_acceptOtherAtom_67 : decode cX2_acceptOtherAtom 67 = .ok (.ifCond .eq 14, 3) := by decide +kernel
theorem dX2_acceptOtherAtom_70 : decode cX2_acceptOtherAtom 70 = .ok (.aload_n 0, 1) := by decide +kernel
theorem dX2_acceptOtherAtom_71 : decode cX2_acceptOtherAtom 71 = .ok (.getfield 22, 3) := by decide +kernel
theorem dX2_acceptOtherAtom_74 : decode cX2_acceptOtherAtom 74 = .ok (.iload_n 1, 1) := by decide +kernel
theorem dX2_acceptOtherAtom_75 : decode cX2_acceptOtherAtom 75 = .ok (.putfield 258, 3) := by decide +kernel
theorem dX2_acceptOtherAtom_78 : decode cX2_acceptOtherAtom 78 = .ok (.goto 29, 3) := by decide +kernel
theorem dX2_acceptOtherAtom_81 : decode cX2_acceptOtherAtom 81 = .ok (.iload_n 3, 1) := by decide +kernel
theorem dX2_acceptOtherAtom_82 : decode cX2_acceptOtherAtom 82 = .ok (.ifCond .eq 8, 3) := by decide +kernel
theorem dX2_acceptOtherAtom_85 : decode cX2_acceptOtherAtom 85 = .ok (.iload_n 3, 1) := by decide +kernel
theorem dX2_acceptOtherAtom_86 : decode cX2_acceptOtherAtom 86 = .ok (.iconst 1, 1) := by decide +kernel
theorem dX2_acceptOtherAtom_87 : decode cX2_acceptOtherAtom 87 = .ok (.if_icmp .ne 20, 3) := by decide +kernel
theorem dX2_acceptOtherAtom_90 : decode cX2_acceptOtherAtom 90 = .ok (.aload_n 0, 1) := by decide +kernel
theorem dX2_acceptOtherAtom_91 : decode cX2_acceptOtherAtom 91 = .ok (.getfield 22, 3) := by decide +kernel
theorem dX2_acceptOtherAtom_94 : decode cX2_acceptOtherAtom 94 = .ok (.iconst 0, 1) := by decide +kernel
theorem dX2_acceptOtherAtom_95 : decode cX2_acceptOtherAtom 95 = .ok (.putfield 258, 3) := by decide +kernel
theorem dX2_acceptOtherAtom_98 : decode cX2_acceptOtherAtom 98 = .ok (.aload_n 0, 1) := by decide +kernel
theorem dX2_acceptOtherAtom_99 : decode cX2_acceptOtherAtom 99 = .ok (.getfield 22, 3) := by decide +kernel
theorem dX2_acceptOtherAtom_102 : decode cX2_acceptOtherAtom 102 = .ok (.iload_n 3, 1) := by decide +kernel
theorem dX2_acceptOtherAtom_103 : decode cX2_acceptOtherAtom 103 = .ok (.i2l, 1) := by decide +kernel
theorem dX2_acceptOtherAtom_104 : decode cX2_acceptOtherAtom 104 = .ok (.putfield 265, 3) := by decide +kernel
theorem dX2_acceptOtherAtom_107 : decode cX2_acceptOtherAtom 107 = .ok (.aload_n 0, 1) := by decide +kernel
theorem dX2_acceptOtherAtom_108 : decode cX2_acceptOtherAtom 108 = .ok (.iload_n 2, 1) := by decide +kernel
theorem dX2_acceptOtherAtom_109 : decode cX2_acceptOtherAtom 109 = .ok (.ifCond .ne 19, 3) := by decide +kernel
theorem dX2_acceptOtherAtom_112 : decode cX2_acceptOtherAtom 112 = .ok (.iload_n 3, 1) := by decide +kernel
theorem dX2_acceptOtherAtom_113 : decode cX2_acceptOtherAtom 113 = .ok (.iconst (-1), 1) := by decide +kernel
theorem dX2_acceptOtherAtom_114 : decode cX2_acceptOtherAtom 114 = .ok (.if_icmp .ne 14, 3) := by decide +kernel
theorem dX2_acceptOtherAtom_117 : decode cX2_acceptOtherAtom 117 = .ok (.aload_n 0, 1) := by decide +kernel
theorem dX2_acceptOtherAtom_118 : decode cX2_acceptOtherAtom 118 = .ok (.getfield 22, 3) := by decide +kernel
theorem dX2_acceptOtherAtom_121 : decode cX2_acceptOtherAtom 121 = .ok (.getfield 152, 3) := by decide +kernel
theorem dX2_acceptOtherAtom_124 : decode cX2_acceptOtherAtom 124 = .ok (.iconst (-1), 1) := by decide +kernel
theorem dX2_acceptOtherAtom_125 : decode cX2_acceptOtherAtom 125 = .ok (.if_icmp .eq 7, 3) := by decide +kernel
theorem dX2_acceptOtherAtom_128 : decode cX2_acceptOtherAtom 128 = .ok (.iconst 1, 1) := by decide +kernel
theorem dX2_acceptOtherAtom_129 : decode cX2_acceptOtherAtom 129 = .ok (.goto 4, 3) := by decide +kernel
theorem dX2_acceptOtherAtom_132 : decode cX2_acceptOtherAtom 132 = .ok (.iconst 0, 1) := by decide +kernel
theorem dX2_acceptOtherAtom_133 : decode cX2_acceptOtherAtom 133 = .ok (.invokevirtual 218, 3) := by decide +kernel
theorem dX2_acceptOtherAtom_136 : decode cX2_acceptOtherAtom 136 = .ok (.ireturn, 1) := by decide +kernel
theorem dX2_acceptPart_0 : decode cX2_acceptPart 0 = .ok (.iload_n 1, 1) := by decide +kernel
theorem dX2_acceptPart_1 : decode cX2_acceptPart 1 = .ok (.tableswitch 326 97 119 #[261, 326, 326, 326, 326, 298, 326, 312, 256, 326, 177, 326, 326, 208, 326, 326, 326, 326, 326, 284, 326, 107, 142], 107) := by decide +kernel
theorem dX2_acceptPart_108 : decode cX2_acceptPart 108 = .ok (.aload_n 0, 1) := by decide +kernel
theorem dX2_acceptPart_109 : decode cX2_acceptPart 109 = .ok (.getfield 22, 3) := by decide +kernel
theorem dX2_acceptPart_112 : decode cX2_acceptPart 112 = .ok (.aload_n 0, 1) := by decide +kernel
theorem dX2_acceptPart_113 : decode cX2_acceptPart 113 = .ok (.getfield 9, 3) := by decide +kernel
theorem dX2_acceptPart_116 : decode cX2_acceptPart 116 = .ok (.invokevirtual 101, 3) := by decide +kernel
theorem dX2_acceptPart_119 : decode cX2_acceptPart 119 = .ok (.putfield 140, 3) := by decide +kernel
theorem dX2_acceptPart_122 : decode cX2_acceptPart 122 = .ok (.aload_n 0, 1) := by decide +kernel
theorem dX2_acceptPart_123 : decode cX2_acceptPart 123 = .ok (.aload_n 0, 1) := by decide +kernel
theorem dX2_acceptPart_124 : decode cX2_acceptPart 124 = .ok (.getfield 22, 3) := by decide +kernel
theorem dX2_acceptPart_127 : decode cX2_acceptPart 127 = .ok (.getfield 140, 3) := by decide +kernel
theorem dX2_acceptPart_130 : decode cX2_acceptPart 130 = .ok (.iconst (-1), 1) := by decide +kernel
theorem dX2_acceptPart_131 : decode cX2_acceptPart 131 = .ok (.if_icmp .eq 7, 3) := by decide +kernel
theorem dX2_acceptPart_134 : decode cX2_acceptPart 134 = .ok (.iconst 1, 1) := by decide +kernel
theorem dX2_acceptPart_135 : decode cX2_acceptPart 135 = .ok (.goto 4, 3) := by decide +kernel
theorem dX2_acceptPart_138 : decode cX2_acceptPart 138 = .ok (.iconst 0, 1) := by decide +kernel
theorem dX2_acceptPart_139 : decode cX2_acceptPart 139 = .ok (.invokevirtual 218, 3) := by decide +kernel
theorem dX2_acceptPart_142 : decode cX2_acceptPart 142 = .ok (.ireturn, 1) := by decide +kernel
theorem dX2_acceptPart_143 : decode cX2_acceptPart 143 = .ok (.aload_n 0, 1) := by decide +kernel
theorem dX2_acceptPart_144 : decode cX2_acceptPart 144 = .ok (.getfield 22, 3) := by decide +kernel
theorem dX2_acceptPart_147 : decode cX2_acceptPart 147 = .ok (.aload_n 0, 1) := by decide +kernel
theorem dX2_acceptPart_148 : decode cX2_acceptPart 148 = .ok (.getfield 9, 3) := by decide +kernel
theorem dX2_acceptPart_151 : decode cX2_acceptPart 151 = .ok (.invokevirtual 101, 3) := by decide +kernel
theorem dX2_acceptPart_154 : decode cX2_acceptPart 154 = .ok (.putfield 221, 3) := by decide +kernel
theorem dX2_acceptPart_157 : decode cX2_acceptPart 157 = .ok (.aload_n 0, 1) := by decide +kernel
theorem dX2_acceptPart_158 : decode cX2_acceptPart 158 = .ok (.aload_n 0, 1) := by decide +kernel
theorem dX2_acceptPart_159 : decode cX2_acceptPart 159 = .ok (.getfield 22, 3) := by decide +kernel
theorem dX2_acceptPart_162 : decode cX2_acceptPart 162 = .ok (.getfield 221, 3) := by decide +kernel
theorem dX2_acceptPart_165 : decode cX2_acceptPart 165 = .ok (.iconst (-1), 1) := by decide +kernel
theorem dX2_acceptPart_166 : decode cX2_acceptPart 166 = .ok (.if_icmp .eq 7, 3) := by decide +kernel
theorem dX2_acceptPart_169 : decode cX2_acceptPart 169 = .ok (.iconst 1, 1) := by decide +kernel
theorem dX2_acceptPart_170 : decode cX2_acceptPart 170 = .ok (.goto 4, 3) := by decide +kernel
theorem dX2_acceptPart_173 : decode cX2_acceptPart 173 = .ok (.iconst 0, 1) := by decide +kernel
theorem dX2_acceptPart_174 : decode cX2_acceptPart 174 = .ok (.invokevirtual 218, 3) := by decide +kernel
theorem dX2_acceptPart_177 : decode cX2_acceptPart 177 = .ok (.ireturn, 1) := by decide +kernel
theorem dX2_acceptPart_178 : decode cX2_acceptPart 178 = .ok (.aload_n 0, 1) := by decide +kernel
theorem dX2_acceptPart_179 : decode cX2_acceptPart 179 = .ok (.getfield 22, 3) := by decide +kernel
theorem dX2_acceptPart_182 : decode cX2_acceptPart 182 = .ok (.aload_n 0, 1) := by decide +kernel
theorem dX2_acceptPart_183 : decode cX2_acceptPart 183 = .ok (.getfield 9, 3) := by decide +kernel
theorem dX2_acceptPart_186 : decode cX2_acceptPart 186 = .ok (.ldc 224, 2) := by decide +kernel
theorem dX2_acceptPart_188 : decode cX2_acceptPart 188 = .ok (.invokevirtual 114, 3) := by decide +kernel
theorem dX2_acceptPart_191 : decode cX2_acceptPart 191 = .ok (.putfield 78, 3) := by decide +kernel
theorem dX2_acceptPart_194 : decode cX2_acceptPart 194 = .ok (.aload_n 0, 1) := by decide +kernel
theorem dX2_acceptPart_195 : decode cX2_acceptPart 195 = .ok (.aload_n 0, 1) := by decide +kernel
theorem dX2_acceptPart_196 : decode cX2_acceptPart 196 = .ok (.getfield 22, 3) := by decide +kernel
theorem dX2_acceptPart_199 : decode cX2_acceptPart 199 = .ok (.getfield 78, 3) := by decide +kernel
theorem dX2_acceptPart_202 : decode cX2_acceptPart 202 = .ok (.invokestatic 226, 3) := by decide +kernel
theorem dX2_acceptPart_205 : decode cX2_acceptPart 205 = .ok (.invokevirtual 218, 3) := by decide +kernel
theorem dX2_acceptPart_208 : decode cX2_acceptPart 208 = .ok (.ireturn, 1) := by decide +kernel
theorem dX2_acceptPart_209 : decode cX2_acceptPart 209 = .ok (.aload_n 0, 1) := by decide +kernel
theorem dX2_acceptPart_210 : decode cX2_acceptPart 210 = .ok (.getfield 22, 3) := by decide +kernel
theorem dX2_acceptPart_213 : decode cX2_acceptPart 213 = .ok (.aload_n 0, 1) := by decide +kernel
theorem dX2_acceptPart_214 : decode cX2_acceptPart 214 = .ok (.getfield 9, 3) := by decide +kernel
theorem dX2_acceptPart_217 : decode cX2_acceptPart 217 = .ok (.ldc 224, 2) := by decide +kernel
theorem dX2_acceptPart_219 : decode cX2_acceptPart 219 = .ok (.invokevirtual 114, 3) := by decide +kernel
theorem dX2_acceptPart_222 : decode cX2_acceptPart 222 = .ok (.putfield 78, 3) := by decide +kernel
theorem dX2_acceptPart_225 : decode cX2_acceptPart 225 = .ok (.aload_n 0, 1) := by decide +kernel
theorem dX2_acceptPart_226 : decode cX2_acceptPart 226 = .ok (.aload_n 0, 1) := by decide +kernel
theorem dX2_acceptPart_227 : decode cX2_acceptPart 227 = .ok (.getfield 9, 3) := by decide +kernel
theorem dX2_acceptPart_230 : decode cX2_acceptPart 230 = .ok (.getfield 52, 3) := by decide +kernel
theorem dX2_acceptPart_233 : decode cX2_acceptPart 233 = .ok (.putfield 215, 3) := by decide +kernel
theorem dX2_acceptPart_236 : decode cX2_acceptPart 236 = .ok (.aload_n 0, 1) := by decide +kernel
theorem dX2_acceptPart_237 : decode cX2_acceptPart 237 = .ok (.aload_n 0, 1) := by decide +kernel
theorem dX2_acceptPart_238 : decode cX2_acceptPart 238 = .ok (.getfield 22, 3) := by decide +kernel
theorem dX2_acceptPart_241 : decode cX2_acceptPart 241 = .ok (.getfield 78, 3) := by decide +kernel
theorem dX2_acceptPart_244 : decode cX2_acceptPart 244 = .ok (.iconst (-1), 1) := by decide +kernel
theorem dX2_acceptPart_245 : decode cX2_acceptPart 245 = .ok (.if_icmp .eq 7, 3) := by decide +kernel
theorem dX2_acceptPart_248 : decode cX2_acceptPart 248 = .ok (.iconst 1, 1) := by decide +kernel
theorem dX2_acceptPart_249 : decode cX2_acceptPart 249 = .ok (.goto 4, 3) := by decide +kernel
theorem dX2_acceptPart_252 : decode cX2_acceptPart 252 = .ok (.iconst 0, 1) := by decide +kernel
theorem dX2_acceptPart_253 : decode cX2_acceptPart 253 = .ok (.invokevirtual 218, 3) := by decide +kernel
theorem dX2_acceptPart_256 : decode cX2_acceptPart 256 = .ok (.ireturn, 1) := by decide +kernel
theorem dX2_acceptPart_257 : decode cX2_acceptPart 257 = .ok (.aload_n 0, 1) := by decide +kernel
theorem dX2_acceptPart_258 : decode cX2_acceptPart 258 = .ok (.invokevirtual 229, 3) := by decide +kernel
theorem dX2_acceptPart_261 : decode cX2_acceptPart 261 = .ok (.ireturn, 1) := by decide +kernel
theorem dX2_acceptPart_262 : decode cX2_acceptPart 262 = .ok (.aload_n 0, 1) := by decide +kernel
theorem dX2_acceptPart_263 : decode cX2_acceptPart 263 = .ok (.getfield 9, 3) := by decide +kernel
theorem dX2_acceptPart_266 : decode cX2_acceptPart 266 = .ok (.getfield 35, 3) := by decide +kernel
theorem dX2_acceptPart_269 : decode cX2_acceptPart 269 = .ok (.iconst 3, 1) := by decide +kernel
theorem dX2_acceptPart_270 : decode cX2_acceptPart 270 = .ok (.if_icmp .ne 10, 3) := by decide +kernel
theorem dX2_acceptPart_273 : decode cX2_acceptPart 273 = .ok (.aload_n 0, 1) := by decide +kernel
theorem dX2_acceptPart_274 : decode cX2_acceptPart 274 = .ok (.invokevirtual 232, 3) := by decide +kernel
theorem dX2_acceptPart_277 : decode cX2_acceptPart 277 = .ok (.goto 7, 3) := by decide +kernel
theorem dX2_acceptPart_280 : decode cX2_acceptPart 280 = .ok (.aload_n 0, 1) := by decide +kernel
theorem dX2_acceptPart_281 : decode cX2_acceptPart 281 = .ok (.invokevirtual 235, 3) := by decide +kernel
theorem dX2_acceptPart_284 : decode cX2_acceptPart 284 = .ok (.ireturn, 1) := by decide +kernel
theorem dX2_acceptPart_285 : decode cX2_acceptPart 285 = .ok (.aload_n 0, 1) := by decide +kernel
theorem dX2_acceptPart_286 : decode cX2_acceptPart 286 = .ok (.aload_n 0, 1) := by decide +kernel
theorem dX2_acceptPart_287 : decode cX2_acceptPart 287 = .ok (.getfield 9, 3) := by decide +kernel
theorem dX2_acceptPart_290 : decode cX2_acceptPart 290 = .ok (.ldc 238, 2) := by decide +kernel
theorem dX2_acceptPart_292 : decode cX2_acceptPart 292 = .ok (.invokevirtual 107, 3) := by decide +kernel
theorem dX2_acceptPart_295 : decode cX2_acceptPart 295 = .ok (.invokevirtual 218, 3) := by decide +kernel
theorem dX2_acceptPart_298 : decode cX2_acceptPart 298 = .ok (.ireturn, 1) := by decide +kernel
theorem dX2_acceptPart_299 : decode cX2_acceptPart 299 = .ok (.aload_n 0, 1) := by decide +kernel
theorem dX2_acceptPart_300 : decode cX2_acceptPart 300 = .ok (.aload_n 0, 1) := by decide +kernel
theorem dX2_acceptPart_301 : decode cX2_acceptPart 301 = .ok (.getfield 9, 3) := by decide +kernel
theorem dX2_acceptPart_304 : decode cX2_acceptPart 304 = .ok (.ldc 240, 2) := by decide +kernel
theorem dX2_acceptPart_306 : decode cX2_acceptPart 306 = .ok (.invokevirtual 107, 3) := by decide +kernel
theorem dX2_acceptPart_309 : decode cX2_acceptPart 309 = .ok (.invokevirtual 218, 3) := by decide +kernel
theorem dX2_acceptPart_312 : decode cX2_acceptPart 312 = .ok (.ireturn, 1) := by decide +kernel
theorem dX2_acceptPart_313 : decode cX2_acceptPart 313 = .ok (.aload_n 0, 1) := by decide +kernel
theorem dX2_acceptPart_314 : decode cX2_acceptPart 314 = .ok (.aload_n 0, 1) := by decide +kernel
theorem dX2_acceptPart_315 : decode cX2_acceptPart 315 = .ok (.getfield 9, 3) := by decide +kernel
theorem dX2_acceptPart_318 : decode cX2_acceptPart 318 = .ok (.ldc 242, 2) := by decide +kernel
theorem dX2_acceptPart_320 : decode cX2_acceptPart 320 = .ok (.invokevirtual 107, 3) := by decide +kernel
theorem dX2_acceptPart_323 : decode cX2_acceptPart 323 = .ok (.invokevirtual 218, 3) := by decide +kernel
theorem dX2_acceptPart_326 : decode cX2_acceptPart 326 = .ok (.ireturn, 1) := by decide +kernel
theorem dX2_acceptPart_327 : decode cX2_acceptPart 327 = .ok (.aload_n 0, 1) := by decide +kernel
theorem dX2_acceptPart_328 : decode cX2_acceptPart 328 = .ok (.aload_n 0, 1) := by decide +kernel
theorem dX2_acceptPart_329 : decode cX2_acceptPart 329 = .ok (.getfield 9, 3) := by decide +kernel
theorem dX2_acceptPart_332 : decode cX2_acceptPart 332 = .ok (.iload_n 1, 1) := by decide +kernel
theorem dX2_acceptPart_333 : decode cX2_acceptPart 333 = .ok (.invokevirtual 136, 3) := by decide +kernel
theorem dX2_acceptPart_336 : decode cX2_acceptPart 336 = .ok (.invokevirtual 218, 3) := by decide +kernel
theorem dX2_acceptPart_339 : decode cX2_acceptPart 339 = .ok (.ireturn, 1) := by decide +kernel
theorem dX2_readParts_0 : decode cX2_readParts 0 = .ok (.iconst 0, 1) := by decide +kernel
theorem dX2_readParts_1 : decode cX2_readParts 1 = .ok (.istore_n 2, 1) := by decide +kernel
theorem dX2_readParts_2 : decode cX2_readParts 2 = .ok (.iconst 0, 1) := by decide +kernel
theorem dX2_readParts_3 : decode cX2_readParts 3 = .ok (.istore_n 3, 1) := by decide +kernel
theorem dX2_readParts_4 : decode cX2_readParts 4 = .ok (.iload_n 3, 1) := by decide +kernel
theorem dX2_readParts_5 : decode cX2_readParts 5 = .ok (.bipush 100, 2) := by decide +kernel
theorem dX2_readParts_7 : decode cX2_readParts 7 = .ok (.if_icmp .ge 121, 3) := by decide +kernel
theorem dX2_readParts_10 : decode cX2_readParts 10 = .ok (.iload_n 2, 1) := by decide +kernel
theorem dX2_readParts_11 : decode cX2_readParts 11 = .ok (.ifCond .lt 117, 3) := by decide +kernel
theorem dX2_readParts_14 : decode cX2_readParts 14 = .ok (.iload_n 2, 1) := by decide +kernel
theorem dX2_readParts_15 : decode cX2_readParts 15 = .ok (.aload_n 1, 1) := by decide +kernel
theorem dX2_readParts_16 : decode cX2_readParts 16 = .ok (.invokevirtual 185, 3) := by decide +kernel
theorem dX2_readParts_19 : decode cX2_readParts 19 = .ok (.if_icmp .ge 109, 3) := by decide +kernel
theorem dX2_readParts_22 : decode cX2_readParts 22 = .ok (.aload_n 1, 1) := by decide +kernel
theorem dX2_readParts_23 : decode cX2_readParts 23 = .ok (.iload_n 2, 1) := by decide +kernel
theorem dX2_readParts_24 : decode cX2_readParts 24 = .ok (.invokevirtual 190, 3) := by decide +kernel
theorem dX2_readParts_27 : decode cX2_readParts 27 = .ok (.istore 4, 2) := by decide +kernel
theorem dX2_readParts_29 : decode cX2_readParts 29 = .ok (.iload 4, 2) := by decide +kernel
theorem dX2_readParts_31 : decode cX2_readParts 31 = .ok (.bipush 42, 2) := by decide +kernel
theorem dX2_readParts_33 : decode cX2_readParts 33 = .ok (.if_icmp .eq 17, 3) := by decide +kernel
theorem dX2_readParts_36 : decode cX2_readParts 36 = .ok (.iload 4, 2) := by decide +kernel
theorem dX2_readParts_38 : decode cX2_readParts 38 = .ok (.bipush 43, 2) := by decide +kernel
theorem dX2_readParts_40 : decode cX2_readParts 40 = .ok (.if_icmp .eq 10, 3) := by decide +kernel
theorem dX2_readParts_43 : decode cX2_readParts 43 = .ok (.iload 4, 2) := by decide +kernel
theorem dX2_readParts_45 : decode cX2_readParts 45 = .ok (.bipush 47, 2) := by decide +kernel
theorem dX2_readParts_47 : decode cX2_readParts 47 = .ok (.if_icmp .ne 14, 3) := by decide +kernel
theorem dX2_readParts_50 : decode cX2_readParts 50 = .ok (.aload_n 0, 1) := by decide +kernel
theorem dX2_readParts_51 : decode cX2_readParts 51 = .ok (.iload 4, 2) := by decide +kernel
theorem dX2_readParts_53 : decode cX2_readParts 53 = .ok (.iload_n 2, 1) := by decide +kernel
theorem dX2_readParts_54 : decode cX2_readParts 54 = .ok (.invokevirtual 194, 3) := by decide +kernel
theorem dX2_readParts_57 : decode cX2_readParts 57 = .ok (.istore_n 2, 1) := by decide +kernel
theorem dX2_readParts_58 : decode cX2_readParts 58 = .ok (.goto 64, 3) := by decide +kernel
theorem dX2_readParts_61 : decode cX2_readParts 61 = .ok (.iload 4, 2) := by decide +kernel
theorem dX2_readParts_63 : decode cX2_readParts 63 = .ok (.bipush 109, 2) := by decide +kernel
theorem dX2_readParts_65 : decode cX2_readParts 65 = .ok (.if_icmp .ne 36, 3) := by decide +kernel
theorem dX2_readParts_68 : decode cX2_readParts 68 = .ok (.aload_n 0, 1) := by decide +kernel
theorem dX2_readParts_69 : decode cX2_readParts 69 = .ok (.aload_n 0, 1) := by decide +kernel
theorem dX2_readParts_70 : decode cX2_readParts 70 = .ok (.getfield 9, 3) := by decide +kernel
theorem dX2_readParts_73 : decode cX2_readParts 73 = .ok (.bipush 45, 2) := by decide +kernel
theorem dX2_readParts_75 : decode cX2_readParts 75 = .ok (.invokevirtual 136, 3) := by decide +kernel
theorem dX2_readParts_78 : decode cX2_readParts 78 = .ok (.putfield 90, 3) := by decide +kernel
theorem dX2_readParts_81 : decode cX2_readParts 81 = .ok (.aload_n 0, 1) := by decide +kernel
theorem dX2_readParts_82 : decode cX2_readParts 82 = .ok (.getfield 90, 3) := by decide +kernel
theorem dX2_readParts_85 : decode cX2_readParts 85 = .ok (.ifCond .eq 10, 3) := by decide +kernel
theorem dX2_readParts_88 : decode cX2_readParts 88 = .ok (.aload_n 0, 1) := by decide +kernel
theorem dX2_readParts_89 : decode cX2_readParts 89 = .ok (.getfield 9, 3) := by decide +kernel
theorem dX2_readParts_92 : decode cX2_readParts 92 = .ok (.invokevirtual 98, 3) := by decide +kernel
theorem dX2_readParts_95 : decode cX2_readParts 95 = .ok (.iinc 2 1, 3) := by decide +kernel
theorem dX2_readParts_98 : decode cX2_readParts 98 = .ok (.goto 24, 3) := by decide +kernel
theorem dX2_readParts_101 : decode cX2_readParts 101 = .ok (.aload_n 0, 1) := by decide +kernel
theorem dX2_readParts_102 : decode cX2_readParts 102 = .ok (.iload 4, 2) := by decide +kernel
theorem dX2_readParts_104 : decode cX2_readParts 104 = .ok (.invokevirtual 198, 3) := by decide +kernel
theorem dX2_readParts_107 : decode cX2_readParts 107 = .ok (.ifCond .ne 5, 3) := by decide +kernel
theorem dX2_readParts_110 : decode cX2_readParts 110 = .ok (.iconst 0, 1) := by decide +kernel
theorem dX2_readParts_111 : decode cX2_readParts 111 = .ok (.ireturn, 1) := by decide +kernel
theorem dX2_readParts_112 : decode cX2_readParts 112 = .ok (.aload_n 0, 1) := by decide +kernel
theorem dX2_readParts_113 : decode cX2_readParts 113 = .ok (.getfield 9, 3) := by decide +kernel
theorem dX2_readParts_116 : decode cX2_readParts 116 = .ok (.invokevirtual 98, 3) := by decide +kernel
theorem dX2_readParts_119 : decode cX2_readParts 119 = .ok (.iinc 2 1, 3) := by decide +kernel
theorem dX2_readParts_122 : decode cX2_readParts 122 = .ok (.iinc 3 1, 3) := by decide +kernel
theorem dX2_readParts_125 : decode cX2_readParts 125 = .ok (.goto (-121), 3) := by decide +kernel
theorem dX2_readParts_128 : decode cX2_readParts 128 = .ok (.iload_n 2, 1) := by decide +kernel
theorem dX2_readParts_129 : decode cX2_readParts 129 = .ok (.ifCond .lt 7, 3) := by decide +kernel
theorem dX2_readParts_132 : decode cX2_readParts 132 = .ok (.iconst 1, 1) := by decide +kernel
theorem dX2_readParts_133 : decode cX2_readParts 133 = .ok (.goto 4, 3) := by decide +kernel
theorem dX2_readParts_136 : decode cX2_readParts 136 = .ok (.iconst 0, 1) := by decide +kernel
theorem dX2_readParts_137 : decode cX2_readParts 137 = .ok (.ireturn, 1) := by decide +kernel
theorem dX2_readClassAlone_0 : decode cX2_readClassAlone 0 = .ok (.aload_n 0, 1) := by decide +kernel
theorem dX2_readClassAlone_1 : decode cX2_readClassAlone 1 = .ok (.iload_n 1, 1) := by decide +kernel
theorem dX2_readClassAlone_2 : decode cX2_readClassAlone 2 = .ok (.sipush 3100, 3) := by decide +kernel
theorem dX2_readClassAlone_5 : decode cX2_readClassAlone 5 = .ok (.invokevirtual 25, 3) := by decide +kernel
theorem dX2_readClassAlone_8 : decode cX2_readClassAlone 8 = .ok (.aload_n 0, 1) := by decide +kernel
theorem dX2_readClassAlone_9 : decode cX2_readClassAlone 9 = .ok (.aload_n 0, 1) := by decide +kernel
theorem dX2_readClassAlone_10 : decode cX2_readClassAlone 10 = .ok (.getfield 18, 3) := by decide +kernel
theorem dX2_readClassAlone_13 : decode cX2_readClassAlone 13 = .ok (.putfield 22, 3) := by decide +kernel
theorem dX2_readClassAlone_16 : decode cX2_readClassAlone 16 = .ok (.aload_n 0, 1) := by decide +kernel
theorem dX2_readClassAlone_17 : decode cX2_readClassAlone 17 = .ok (.getfield 22, 3) := by decide +kernel
theorem dX2_readClassAlone_20 : decode cX2_readClassAlone 20 = .ok (.iconst 0, 1) := by decide +kernel
theorem dX2_readClassAlone_21 : decode cX2_readClassAlone 21 = .ok (.invokevirtual 55, 3) := by decide +kernel
theorem dX2_readClassAlone_24 : decode cX2_readClassAlone 24 = .ok (.aload_n 0, 1) := by decide +kernel
theorem dX2_readClassAlone_25 : decode cX2_readClassAlone 25 = .ok (.ldc 76, 2) := by decide +kernel
theorem dX2_readClassAlone_27 : decode cX2_readClassAlone 27 = .ok (.invokevirtual 72, 3) := by decide +kernel
theorem dX2_readClassAlone_30 : decode cX2_readClassAlone 30 = .ok (.ifCond .eq 23, 3) := by decide +kernel
theorem dX2_readClassAlone_33 : decode cX2_readClassAlone 33 = .ok (.aload_n 0, 1) := by decide +kernel
theorem dX2_readClassAlone_34 : decode cX2_readClassAlone 34 = .ok (.getfield 9, 3) := by decide +kernel
theorem dX2_readClassAlone_37 : decode cX2_readClassAlone 37 = .ok (.getfield 35, 3) := by decide +kernel
theorem dX2_readClassAlone_40 : decode cX2_readClassAlone 40 = .ok (.ifCond .ne 13, 3) := by decide +kernel
theorem dX2_readClassAlone_43 : decode cX2_readClassAlone 43 = .ok (.aload_n 0, 1) := by decide +kernel
theorem dX2_readClassAlone_44 : decode cX2_readClassAlone 44 = .ok (.getfield 22, 3) := by decide +kernel
theorem dX2_readClassAlone_47 : decode cX2_readClassAlone 47 = .ok (.getfield 78, 3) := by decide +kernel
theorem dX2_readClassAlone_50 : decode cX2_readClassAlone 50 = .ok (.goto 4, 3) := by decide +kernel
theorem dX2_readClassAlone_53 : decode cX2_readClassAlone 53 = .ok (.iconst (-1), 1) := by decide +kernel
theorem dX2_readClassAlone_54 : decode cX2_readClassAlone 54 = .ok (.ireturn, 1) := by decide +kernel

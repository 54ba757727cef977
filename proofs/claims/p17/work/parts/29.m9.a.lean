theorem dX10_atom_0 : decode cX10_atom 0 = .ok (.aload_n 0, 1) := by decide +kernel
theorem dX10_atom_1 : decode cX10_atom 1 = .ok (.getfield 52, 3) := by decide +kernel
theorem dX10_atom_4 : decode cX10_atom 4 = .ok (.iload_n 1, 1) := by decide +kernel
theorem dX10_atom_5 : decode cX10_atom 5 = .ok (.iaload, 1) := by decide +kernel
theorem dX10_atom_6 : decode cX10_atom 6 = .ok (.tableswitch 110 1 4 #[30, 44, 110, 63], 30) := by decide +kernel
theorem dX10_atom_36 : decode cX10_atom 36 = .ok (.aload_n 0, 1) := by decide +kernel
theorem dX10_atom_37 : decode cX10_atom 37 = .ok (.aload_n 0, 1) := by decide +kernel
theorem dX10_atom_38 : decode cX10_atom 38 = .ok (.getfield 58, 3) := by decide +kernel
theorem dX10_atom_41 : decode cX10_atom 41 = .ok (.iload_n 1, 1) := by decide +kernel
theorem dX10_atom_42 : decode cX10_atom 42 = .ok (.laload, 1) := by decide +kernel
theorem dX10_atom_43 : decode cX10_atom 43 = .ok (.l2i, 1) := by decide +kernel
theorem dX10_atom_44 : decode cX10_atom 44 = .ok (.invokevirtual 502, 3) := by decide +kernel
theorem dX10_atom_47 : decode cX10_atom 47 = .ok (.goto 73, 3) := by decide +kernel
theorem dX10_atom_50 : decode cX10_atom 50 = .ok (.aload_n 0, 1) := by decide +kernel
theorem dX10_atom_51 : decode cX10_atom 51 = .ok (.aload_n 0, 1) := by decide +kernel
theorem dX10_atom_52 : decode cX10_atom 52 = .ok (.getfield 55, 3) := by decide +kernel
theorem dX10_atom_55 : decode cX10_atom 55 = .ok (.iload_n 1, 1) := by decide +kernel
theorem dX10_atom_56 : decode cX10_atom 56 = .ok (.iaload, 1) := by decide +kernel
theorem dX10_atom_57 : decode cX10_atom 57 = .ok (.aload_n 0, 1) := by decide +kernel
theorem dX10_atom_58 : decode cX10_atom 58 = .ok (.getfield 58, 3) := by decide +kernel
theorem dX10_atom_61 : decode cX10_atom 61 = .ok (.iload_n 1, 1) := by decide +kernel
theorem dX10_atom_62 : decode cX10_atom 62 = .ok (.laload, 1) := by decide +kernel
theorem dX10_atom_63 : decode cX10_atom 63 = .ok (.invokevirtual 505, 3) := by decide +kernel
theorem dX10_atom_66 : decode cX10_atom 66 = .ok (.goto 54, 3) := by decide +kernel
theorem dX10_atom_69 : decode cX10_atom 69 = .ok (.aload_n 0, 1) := by decide +kernel
theorem dX10_atom_70 : decode cX10_atom 70 = .ok (.getfield 74, 3) := by decide +kernel
theorem dX10_atom_73 : decode cX10_atom 73 = .ok (.aload_n 0, 1) := by decide +kernel
theorem dX10_atom_74 : decode cX10_atom 74 = .ok (.getfield 469, 3) := by decide +kernel
theorem dX10_atom_77 : decode cX10_atom 77 = .ok (.aload_n 0, 1) := by decide +kernel
theorem dX10_atom_78 : decode cX10_atom 78 = .ok (.getfield 55, 3) := by decide +kernel
theorem dX10_atom_81 : decode cX10_atom 81 = .ok (.iload_n 1, 1) := by decide +kernel
theorem dX10_atom_82 : decode cX10_atom 82 = .ok (.iaload, 1) := by decide +kernel
theorem dX10_atom_83 : decode cX10_atom 83 = .ok (.iastore, 1) := by decide +kernel
theorem dX10_atom_84 : decode cX10_atom 84 = .ok (.aload_n 0, 1) := by decide +kernel
theorem dX10_atom_85 : decode cX10_atom 85 = .ok (.iconst 2, 1) := by decide +kernel
theorem dX10_atom_86 : decode cX10_atom 86 = .ok (.putfield 493, 3) := by decide +kernel
theorem dX10_atom_89 : decode cX10_atom 89 = .ok (.aload_n 0, 1) := by decide +kernel
theorem dX10_atom_90 : decode cX10_atom 90 = .ok (.iconst 0, 1) := by decide +kernel
theorem dX10_atom_91 : decode cX10_atom 91 = .ok (.putfield 496, 3) := by decide +kernel
theorem dX10_atom_94 : decode cX10_atom 94 = .ok (.aload_n 0, 1) := by decide +kernel
theorem dX10_atom_95 : decode cX10_atom 95 = .ok (.aload_n 0, 1) := by decide +kernel
theorem dX10_atom_96 : decode cX10_atom 96 = .ok (.getfield 469, 3) := by decide +kernel
theorem dX10_atom_99 : decode cX10_atom 99 = .ok (.i2l, 1) := by decide +kernel
theorem dX10_atom_100 : decode cX10_atom 100 = .ok (.putfield 499, 3) := by decide +kernel
theorem dX10_atom_103 : decode cX10_atom 103 = .ok (.aload_n 0, 1) := by decide +kernel
theorem dX10_atom_104 : decode cX10_atom 104 = .ok (.dup, 1) := by decide +kernel
theorem dX10_atom_105 : decode cX10_atom 105 = .ok (.getfield 469, 3) := by decide +kernel
theorem dX10_atom_108 : decode cX10_atom 108 = .ok (.iconst 1, 1) := by decide +kernel
theorem dX10_atom_109 : decode cX10_atom 109 = .ok (.iadd, 1) := by decide +kernel
theorem dX10_atom_110 : decode cX10_atom 110 = .ok (.putfield 469, 3) := by decide +kernel
theorem dX10_atom_113 : decode cX10_atom 113 = .ok (.goto 7, 3) := by decide +kernel
theorem dX10_atom_116 : decode cX10_atom 116 = .ok (.aload_n 0, 1) := by decide +kernel
theorem dX10_atom_117 : decode cX10_atom 117 = .ok (.invokevirtual 508, 3) := by decide +kernel
theorem dX10_atom_120 : decode cX10_atom 120 = .ok (.return_, 1) := by decide +kernel
theorem dX10_reach_0 : decode cX10_reach 0 = .ok (.aload_n 0, 1) := by decide +kernel
theorem dX10_reach_1 : decode cX10_reach 1 = .ok (.aload_n 0, 1) := by decide +kernel
theorem dX10_reach_2 : decode cX10_reach 2 = .ok (.getfield 34, 3) := by decide +kernel
theorem dX10_reach_5 : decode cX10_reach 5 = .ok (.iload_n 1, 1) := by decide +kernel
theorem dX10_reach_6 : decode cX10_reach 6 = .ok (.iaload, 1) := by decide +kernel
theorem dX10_reach_7 : decode cX10_reach 7 = .ok (.invokevirtual 502, 3) := by decide +kernel
theorem dX10_reach_10 : decode cX10_reach 10 = .ok (.iconst 0, 1) := by decide +kernel
theorem dX10_reach_11 : decode cX10_reach 11 = .ok (.istore_n 2, 1) := by decide +kernel
theorem dX10_reach_12 : decode cX10_reach 12 = .ok (.iload_n 2, 1) := by decide +kernel
theorem dX10_reach_13 : decode cX10_reach 13 = .ok (.aload_n 0, 1) := by decide +kernel
theorem dX10_reach_14 : decode cX10_reach 14 = .ok (.getfield 43, 3) := by decide +kernel
theorem dX10_reach_17 : decode cX10_reach 17 = .ok (.iload_n 1, 1) := by decide +kernel
theorem dX10_reach_18 : decode cX10_reach 18 = .ok (.iaload, 1) := by decide +kernel
theorem dX10_reach_19 : decode cX10_reach 19 = .ok (.if_icmp .ge 63, 3) := by decide +kernel
theorem dX10_reach_22 : decode cX10_reach 22 = .ok (.aload_n 0, 1) := by decide +kernel
theorem dX10_reach_23 : decode cX10_reach 23 = .ok (.invokevirtual 513, 3) := by decide +kernel
theorem dX10_reach_26 : decode cX10_reach 26 = .ok (.istore_n 3, 1) := by decide +kernel
theorem dX10_reach_27 : decode cX10_reach 27 = .ok (.iload_n 3, 1) := by decide +kernel
theorem dX10_reach_28 : decode cX10_reach 28 = .ok (.ifCond .le 5, 3) := by decide +kernel
theorem dX10_reach_31 : decode cX10_reach 31 = .ok (.iload_n 3, 1) := by decide +kernel
theorem dX10_reach_32 : decode cX10_reach 32 = .ok (.ireturn, 1) := by decide +kernel
theorem dX10_reach_33 : decode cX10_reach 33 = .ok (.iload_n 2, 1) := by decide +kernel
theorem dX10_reach_34 : decode cX10_reach 34 = .ok (.aload_n 0, 1) := by decide +kernel
theorem dX10_reach_35 : decode cX10_reach 35 = .ok (.getfield 43, 3) := by decide +kernel
theorem dX10_reach_38 : decode cX10_reach 38 = .ok (.iload_n 1, 1) := by decide +kernel
theorem dX10_reach_39 : decode cX10_reach 39 = .ok (.iaload, 1) := by decide +kernel
theorem dX10_reach_40 : decode cX10_reach 40 = .ok (.iconst 1, 1) := by decide +kernel
theorem dX10_reach_41 : decode cX10_reach 41 = .ok (.isub, 1) := by decide +kernel
theorem dX10_reach_42 : decode cX10_reach 42 = .ok (.if_icmp .ne 5, 3) := by decide +kernel
theorem dX10_reach_45 : decode cX10_reach 45 = .ok (.iconst 0, 1) := by decide +kernel
theorem dX10_reach_46 : decode cX10_reach 46 = .ok (.ireturn, 1) := by decide +kernel
theorem dX10_reach_47 : decode cX10_reach 47 = .ok (.aload_n 0, 1) := by decide +kernel
theorem dX10_reach_48 : decode cX10_reach 48 = .ok (.aload_n 0, 1) := by decide +kernel
theorem dX10_reach_49 : decode cX10_reach 49 = .ok (.getfield 119, 3) := by decide +kernel
theorem dX10_reach_52 : decode cX10_reach 52 = .ok (.iload_n 2, 1) := by decide +kernel
theorem dX10_reach_53 : decode cX10_reach 53 = .ok (.iaload, 1) := by decide +kernel
theorem dX10_reach_54 : decode cX10_reach 54 = .ok (.invokevirtual 516, 3) := by decide +kernel
theorem dX10_reach_57 : decode cX10_reach 57 = .ok (.ifCond .ne 5, 3) := by decide +kernel
theorem dX10_reach_60 : decode cX10_reach 60 = .ok (.iconst 2, 1) := by decide +kernel
theorem dX10_reach_61 : decode cX10_reach 61 = .ok (.ireturn, 1) := by decide +kernel
theorem dX10_reach_62 : decode cX10_reach 62 = .ok (.aload_n 0, 1) := by decide +kernel
theorem dX10_reach_63 : decode cX10_reach 63 = .ok (.aload_n 0, 1) := by decide +kernel
theorem dX10_reach_64 : decode cX10_reach 64 = .ok (.getfield 510, 3) := by decide +kernel
theorem dX10_reach_67 : decode cX10_reach 67 = .ok (.aload_n 0, 1) := by decide +kernel
theorem dX10_reach_68 : decode cX10_reach 68 = .ok (.getfield 119, 3) := by decide +kernel
theorem dX10_reach_71 : decode cX10_reach 71 = .ok (.iload_n 2, 1) := by decide +kernel
theorem dX10_reach_72 : decode cX10_reach 72 = .ok (.iaload, 1) := by decide +kernel
theorem dX10_reach_73 : decode cX10_reach 73 = .ok (.invokevirtual 519, 3) := by decide +kernel
theorem dX10_reach_76 : decode cX10_reach 76 = .ok (.iinc 2 1, 3) := by decide +kernel
theorem dX10_reach_79 : decode cX10_reach 79 = .ok (.goto (-67), 3) := by decide +kernel
theorem dX10_reach_82 : decode cX10_reach 82 = .ok (.iconst 0, 1) := by decide +kernel
theorem dX10_reach_83 : decode cX10_reach 83 = .ok (.ireturn, 1) := by decide +kernel
theorem dX10_hasRoom_0 : decode cX10_hasRoom 0 = .ok (.lload_n 3, 1) := by decide +kernel
theorem dX10_hasRoom_1 : decode cX10_hasRoom 1 = .ok (.ldc2_w 537, 3) := by decide +kernel
theorem dX10_hasRoom_4 : decode cX10_hasRoom 4 = .ok (.lcmp, 1) := by decide +kernel
theorem dX10_hasRoom_5 : decode cX10_hasRoom 5 = .ok (.ifCond .gt 35, 3) := by decide +kernel
theorem dX10_hasRoom_8 : decode cX10_hasRoom 8 = .ok (.aload_n 0, 1) := by decide +kernel
theorem dX10_hasRoom_9 : decode cX10_hasRoom 9 = .ok (.getfield 475, 3) := by decide +kernel
theorem dX10_hasRoom_12 : decode cX10_hasRoom 12 = .ok (.i2l, 1) := by decide +kernel
theorem dX10_hasRoom_13 : decode cX10_hasRoom 13 = .ok (.lload_n 3, 1) := by decide +kernel
theorem dX10_hasRoom_14 : decode cX10_hasRoom 14 = .ok (.ladd, 1) := by decide +kernel
theorem dX10_hasRoom_15 : decode cX10_hasRoom 15 = .ok (.ldc2_w 539, 3) := by decide +kernel
theorem dX10_hasRoom_18 : decode cX10_hasRoom 18 = .ok (.lcmp, 1) := by decide +kernel
theorem dX10_hasRoom_19 : decode cX10_hasRoom 19 = .ok (.ifCond .gt 21, 3) := by decide +kernel
theorem dX10_hasRoom_22 : decode cX10_hasRoom 22 = .ok (.aload_n 0, 1) := by decide +kernel
theorem dX10_hasRoom_23 : decode cX10_hasRoom 23 = .ok (.getfield 472, 3) := by decide +kernel
theorem dX10_hasRoom_26 : decode cX10_hasRoom 26 = .ok (.i2l, 1) := by decide +kernel
theorem dX10_hasRoom_27 : decode cX10_hasRoom 27 = .ok (.lload_n 1, 1) := by decide +kernel
theorem dX10_hasRoom_28 : decode cX10_hasRoom 28 = .ok (.ladd, 1) := by decide +kernel
theorem dX10_hasRoom_29 : decode cX10_hasRoom 29 = .ok (.ldc2_w 541, 3) := by decide +kernel
theorem dX10_hasRoom_32 : decode cX10_hasRoom 32 = .ok (.lcmp, 1) := by decide +kernel
theorem dX10_hasRoom_33 : decode cX10_hasRoom 33 = .ok (.ifCond .gt 7, 3) := by decide +kernel
theorem dX10_hasRoom_36 : decode cX10_hasRoom 36 = .ok (.iconst 1, 1) := by decide +kernel
theorem dX10_hasRoom_37 : decode cX10_hasRoom 37 = .ok (.goto 4, 3) := by decide +kernel
theorem dX10_hasRoom_40 : decode cX10_hasRoom 40 = .ok (.iconst 0, 1) := by decide +kernel
theorem dX10_hasRoom_41 : decode cX10_hasRoom 41 = .ok (.ireturn, 1) := by decide +kernel
theorem dX10_mayStore_0 : decode cX10_mayStore 0 = .ok (.iload_n 1, 1) := by decide +kernel
theorem dX10_mayStore_1 : decode cX10_mayStore 1 = .ok (.invokestatic 522, 3) := by decide +kernel
theorem dX10_mayStore_4 : decode cX10_mayStore 4 = .ok (.istore_n 3, 1) := by decide +kernel
theorem dX10_mayStore_5 : decode cX10_mayStore 5 = .ok (.iload_n 1, 1) := by decide +kernel
theorem dX10_mayStore_6 : decode cX10_mayStore 6 = .ok (.invokestatic 525, 3) := by decide +kernel
theorem dX10_mayStore_9 : decode cX10_mayStore 9 = .ok (.ifCond .eq 48, 3) := by decide +kernel
theorem dX10_mayStore_12 : decode cX10_mayStore 12 = .ok (.aload_n 0, 1) := by decide +kernel
theorem dX10_mayStore_13 : decode cX10_mayStore 13 = .ok (.getfield 493, 3) := by decide +kernel
theorem dX10_mayStore_16 : decode cX10_mayStore 16 = .ok (.iconst 1, 1) := by decide +kernel
theorem dX10_mayStore_17 : decode cX10_mayStore 17 = .ok (.if_icmp .ne 14, 3) := by decide +kernel
theorem dX10_mayStore_20 : decode cX10_mayStore 20 = .ok (.aload_n 0, 1) := by decide +kernel
theorem dX10_mayStore_21 : decode cX10_mayStore 21 = .ok (.getfield 496, 3) := by decide +kernel
theorem dX10_mayStore_24 : decode cX10_mayStore 24 = .ok (.iload_n 3, 1) := by decide +kernel
theorem dX10_mayStore_25 : decode cX10_mayStore 25 = .ok (.invokestatic 528, 3) := by decide +kernel
theorem dX10_mayStore_28 : decode cX10_mayStore 28 = .ok (.ifCond .ne 6, 3) := by decide +kernel
theorem dX10_mayStore_31 : decode cX10_mayStore 31 = .ok (.bipush 6, 2) := by decide +kernel
theorem dX10_mayStore_33 : decode cX10_mayStore 33 = .ok (.ireturn, 1) := by decide +kernel
theorem dX10_mayStore_34 : decode cX10_mayStore 34 = .ok (.aload_n 0, 1) := by decide +kernel
theorem dX10_mayStore_35 : decode cX10_mayStore 35 = .ok (.aload_n 0, 1) := by decide +kernel
theorem dX10_mayStore_36 : decode cX10_mayStore 36 = .ok (.getfield 496, 3) := by decide +kernel
theorem dX10_mayStore_39 : decode cX10_mayStore 39 = .ok (.aload_n 0, 1) := by decide +kernel
theorem dX10_mayStore_40 : decode cX10_mayStore 40 = .ok (.getfield 499, 3) := by decide +kernel
theorem dX10_mayStore_43 : decode cX10_mayStore 43 = .ok (.iload_n 3, 1) := by decide +kernel
theorem dX10_mayStore_44 : decode cX10_mayStore 44 = .ok (.invokestatic 349, 3) := by decide +kernel
theorem dX10_mayStore_47 : decode cX10_mayStore 47 = .ok (.putfield 499, 3) := by decide +kernel
theorem dX10_mayStore_50 : decode cX10_mayStore 50 = .ok (.aload_n 0, 1) := by decide +kernel
theorem dX10_mayStore_51 : decode cX10_mayStore 51 = .ok (.iload_n 3, 1) := by decide +kernel
theorem dX10_mayStore_52 : decode cX10_mayStore 52 = .ok (.putfield 496, 3) := by decide +kernel
theorem dX10_mayStore_55 : decode cX10_mayStore 55 = .ok (.iconst 0, 1) := by decide +kernel
theorem dX10_mayStore_56 : decode cX10_mayStore 56 = .ok (.ireturn, 1) := by decide +kernel
theorem dX10_mayStore_57 : decode cX10_mayStore 57 = .ok (.aload_n 0, 1) := by decide +kernel
theorem dX10_mayStore_58 : decode cX10_mayStore 58 = .ok (.getfield 493, 3) := by decide +kernel
theorem dX10_mayStore_61 : decode cX10_mayStore 61 = .ok (.iconst 1, 1) := by decide +kernel
theorem dX10_mayStore_62 : decode cX10_mayStore 62 = .ok (.if_icmp .ne 6, 3) := by decide +kernel
theorem dX10_mayStore_65 : decode cX10_mayStore 65 = .ok (.bipush 6, 2) := by decide +kernel
theorem dX10_mayStore_67 : decode cX10_mayStore 67 = .ok (.ireturn, 1) := by decide +kernel
theorem dX10_mayStore_68 : decode cX10_mayStore 68 = .ok (.aload_n 0, 1) := by decide +kernel
theorem dX10_mayStore_69 : decode cX10_mayStore 69 = .ok (.getfield 493, 3) := by decide +kernel
theorem dX10_mayStore_72 : decode cX10_mayStore 72 = .ok (.ifCond .eq 14, 3) := by decide +kernel
theorem dX10_mayStore_75 : decode cX10_mayStore 75 = .ok (.aload_n 0, 1) := by decide +kernel
theorem dX10_mayStore_76 : decode cX10_mayStore 76 = .ok (.invokevirtual 531, 3) := by decide +kernel
theorem dX10_mayStore_79 : decode cX10_mayStore 79 = .ok (.iload_n 3, 1) := by decide +kernel
theorem dX10_mayStore_80 : decode cX10_mayStore 80 = .ok (.invokestatic 534, 3) := by decide +kernel
theorem dX10_mayStore_83 : decode cX10_mayStore 83 = .ok (.ifCond .eq 7, 3) := by decide +kernel
theorem dX10_mayStore_86 : decode cX10_mayStore 86 = .ok (.iconst 0, 1) := by decide +kernel
theorem dX10_mayStore_87 : decode cX10_mayStore 87 = .ok (.goto 13, 3) := by decide +kernel
theorem dX10_mayStore_90 : decode cX10_mayStore 90 = .ok (.iload_n 2, 1) := by decide +kernel
theorem dX10_mayStore_91 : decode cX10_mayStore 91 = .ok (.ifCond .eq 7, 3) := by decide +kernel
theorem dX10_mayStore_94 : decode cX10_mayStore 94 = .ok (.iconst 4, 1) := by decide +kernel
theorem dX10_mayStore_95 : decode cX10_mayStore 95 = .ok (.goto 5, 3) := by decide +kernel
theorem dX10_mayStore_98 : decode cX10_mayStore 98 = .ok (.bipush 6, 2) := by decide +kernel
theorem dX10_mayStore_100 : decode cX10_mayStore 100 = .ok (.ireturn, 1) := by decide +kernel

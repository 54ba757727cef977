theorem dX10_clones_0 : decode cX10_clones 0 = .ok (.aload_n 0, 1) := by decide +kernel
theorem dX10_clones_1 : decode cX10_clones 1 = .ok (.aload_n 0, 1) := by decide +kernel
theorem dX10_clones_2 : decode cX10_clones 2 = .ok (.getfield 34, 3) := by decide +kernel
theorem dX10_clones_5 : decode cX10_clones 5 = .ok (.iload_n 1, 1) := by decide +kernel
theorem dX10_clones_6 : decode cX10_clones 6 = .ok (.iaload, 1) := by decide +kernel
theorem dX10_clones_7 : decode cX10_clones 7 = .ok (.invokevirtual 502, 3) := by decide +kernel
theorem dX10_clones_10 : decode cX10_clones 10 = .ok (.aload_n 0, 1) := by decide +kernel
theorem dX10_clones_11 : decode cX10_clones 11 = .ok (.invokevirtual 513, 3) := by decide +kernel
theorem dX10_clones_14 : decode cX10_clones 14 = .ok (.istore_n 2, 1) := by decide +kernel
theorem dX10_clones_15 : decode cX10_clones 15 = .ok (.iload_n 2, 1) := by decide +kernel
theorem dX10_clones_16 : decode cX10_clones 16 = .ok (.ifCond .le 5, 3) := by decide +kernel
theorem dX10_clones_19 : decode cX10_clones 19 = .ok (.iload_n 2, 1) := by decide +kernel
theorem dX10_clones_20 : decode cX10_clones 20 = .ok (.ireturn, 1) := by decide +kernel
theorem dX10_clones_21 : decode cX10_clones 21 = .ok (.aload_n 0, 1) := by decide +kernel
theorem dX10_clones_22 : decode cX10_clones 22 = .ok (.getfield 510, 3) := by decide +kernel
theorem dX10_clones_25 : decode cX10_clones 25 = .ok (.istore_n 3, 1) := by decide +kernel
theorem dX10_clones_26 : decode cX10_clones 26 = .ok (.aload_n 0, 1) := by decide +kernel
theorem dX10_clones_27 : decode cX10_clones 27 = .ok (.lconst 1, 1) := by decide +kernel
theorem dX10_clones_28 : decode cX10_clones 28 = .ok (.aload_n 0, 1) := by decide +kernel
theorem dX10_clones_29 : decode cX10_clones 29 = .ok (.getfield 83, 3) := by decide +kernel
theorem dX10_clones_32 : decode cX10_clones 32 = .ok (.iload_n 3, 1) := by decide +kernel
theorem dX10_clones_33 : decode cX10_clones 33 = .ok (.iaload, 1) := by decide +kernel
theorem dX10_clones_34 : decode cX10_clones 34 = .ok (.i2l, 1) := by decide +kernel
theorem dX10_clones_35 : decode cX10_clones 35 = .ok (.invokevirtual 546, 3) := by decide +kernel
theorem dX10_clones_38 : decode cX10_clones 38 = .ok (.ifCond .ne 6, 3) := by decide +kernel
theorem dX10_clones_41 : decode cX10_clones 41 = .ok (.bipush 7, 2) := by decide +kernel
theorem dX10_clones_43 : decode cX10_clones 43 = .ok (.ireturn, 1) := by decide +kernel
theorem dX10_clones_44 : decode cX10_clones 44 = .ok (.aload_n 0, 1) := by decide +kernel
theorem dX10_clones_45 : decode cX10_clones 45 = .ok (.aload_n 0, 1) := by decide +kernel
theorem dX10_clones_46 : decode cX10_clones 46 = .ok (.getfield 77, 3) := by decide +kernel
theorem dX10_clones_49 : decode cX10_clones 49 = .ok (.iload_n 3, 1) := by decide +kernel
theorem dX10_clones_50 : decode cX10_clones 50 = .ok (.iaload, 1) := by decide +kernel
theorem dX10_clones_51 : decode cX10_clones 51 = .ok (.aload_n 0, 1) := by decide +kernel
theorem dX10_clones_52 : decode cX10_clones 52 = .ok (.getfield 83, 3) := by decide +kernel
theorem dX10_clones_55 : decode cX10_clones 55 = .ok (.iload_n 3, 1) := by decide +kernel
theorem dX10_clones_56 : decode cX10_clones 56 = .ok (.iaload, 1) := by decide +kernel
theorem dX10_clones_57 : decode cX10_clones 57 = .ok (.invokevirtual 550, 3) := by decide +kernel
theorem dX10_clones_60 : decode cX10_clones 60 = .ok (.istore 4, 2) := by decide +kernel
theorem dX10_clones_62 : decode cX10_clones 62 = .ok (.iconst 0, 1) := by decide +kernel
theorem dX10_clones_63 : decode cX10_clones 63 = .ok (.istore 5, 2) := by decide +kernel
theorem dX10_clones_65 : decode cX10_clones 65 = .ok (.iload 5, 2) := by decide +kernel
theorem dX10_clones_67 : decode cX10_clones 67 = .ok (.aload_n 0, 1) := by decide +kernel
theorem dX10_clones_68 : decode cX10_clones 68 = .ok (.getfield 83, 3) := by decide +kernel
theorem dX10_clones_71 : decode cX10_clones 71 = .ok (.iload_n 3, 1) := by decide +kernel
theorem dX10_clones_72 : decode cX10_clones 72 = .ok (.iaload, 1) := by decide +kernel
theorem dX10_clones_73 : decode cX10_clones 73 = .ok (.if_icmp .ge 24, 3) := by decide +kernel
theorem dX10_clones_76 : decode cX10_clones 76 = .ok (.aload_n 0, 1) := by decide +kernel
theorem dX10_clones_77 : decode cX10_clones 77 = .ok (.iload_n 3, 1) := by decide +kernel
theorem dX10_clones_78 : decode cX10_clones 78 = .ok (.iload 5, 2) := by decide +kernel
theorem dX10_clones_80 : decode cX10_clones 80 = .ok (.invokevirtual 519, 3) := by decide +kernel
theorem dX10_clones_83 : decode cX10_clones 83 = .ok (.aload_n 0, 1) := by decide +kernel
theorem dX10_clones_84 : decode cX10_clones 84 = .ok (.iload 4, 2) := by decide +kernel
theorem dX10_clones_86 : decode cX10_clones 86 = .ok (.iload 5, 2) := by decide +kernel
theorem dX10_clones_88 : decode cX10_clones 88 = .ok (.invokevirtual 543, 3) := by decide +kernel
theorem dX10_clones_91 : decode cX10_clones 91 = .ok (.iinc 5 1, 3) := by decide +kernel
theorem dX10_clones_94 : decode cX10_clones 94 = .ok (.goto (-29), 3) := by decide +kernel
theorem dX10_clones_97 : decode cX10_clones 97 = .ok (.aload_n 0, 1) := by decide +kernel
theorem dX10_clones_98 : decode cX10_clones 98 = .ok (.iconst 3, 1) := by decide +kernel
theorem dX10_clones_99 : decode cX10_clones 99 = .ok (.putfield 493, 3) := by decide +kernel
theorem dX10_clones_102 : decode cX10_clones 102 = .ok (.aload_n 0, 1) := by decide +kernel
theorem dX10_clones_103 : decode cX10_clones 103 = .ok (.iconst 0, 1) := by decide +kernel
theorem dX10_clones_104 : decode cX10_clones 104 = .ok (.putfield 496, 3) := by decide +kernel
theorem dX10_clones_107 : decode cX10_clones 107 = .ok (.aload_n 0, 1) := by decide +kernel
theorem dX10_clones_108 : decode cX10_clones 108 = .ok (.iload 4, 2) := by decide +kernel
theorem dX10_clones_110 : decode cX10_clones 110 = .ok (.i2l, 1) := by decide +kernel
theorem dX10_clones_111 : decode cX10_clones 111 = .ok (.putfield 499, 3) := by decide +kernel
theorem dX10_clones_114 : decode cX10_clones 114 = .ok (.aload_n 0, 1) := by decide +kernel
theorem dX10_clones_115 : decode cX10_clones 115 = .ok (.aload_n 0, 1) := by decide +kernel
theorem dX10_clones_116 : decode cX10_clones 116 = .ok (.getfield 31, 3) := by decide +kernel
theorem dX10_clones_119 : decode cX10_clones 119 = .ok (.iload_n 1, 1) := by decide +kernel
theorem dX10_clones_120 : decode cX10_clones 120 = .ok (.iaload, 1) := by decide +kernel
theorem dX10_clones_121 : decode cX10_clones 121 = .ok (.invokevirtual 572, 3) := by decide +kernel
theorem dX10_clones_124 : decode cX10_clones 124 = .ok (.iconst 0, 1) := by decide +kernel
theorem dX10_clones_125 : decode cX10_clones 125 = .ok (.ireturn, 1) := by decide +kernel
theorem dX10_swap_0 : decode cX10_swap 0 = .ok (.aload_n 0, 1) := by decide +kernel
theorem dX10_swap_1 : decode cX10_swap 1 = .ok (.getfield 80, 3) := by decide +kernel
theorem dX10_swap_4 : decode cX10_swap 4 = .ok (.aload_n 0, 1) := by decide +kernel
theorem dX10_swap_5 : decode cX10_swap 5 = .ok (.getfield 510, 3) := by decide +kernel
theorem dX10_swap_8 : decode cX10_swap 8 = .ok (.iaload, 1) := by decide +kernel
theorem dX10_swap_9 : decode cX10_swap 9 = .ok (.iload_n 1, 1) := by decide +kernel
theorem dX10_swap_10 : decode cX10_swap 10 = .ok (.iadd, 1) := by decide +kernel
theorem dX10_swap_11 : decode cX10_swap 11 = .ok (.istore_n 3, 1) := by decide +kernel
theorem dX10_swap_12 : decode cX10_swap 12 = .ok (.aload_n 0, 1) := by decide +kernel
theorem dX10_swap_13 : decode cX10_swap 13 = .ok (.getfield 86, 3) := by decide +kernel
theorem dX10_swap_16 : decode cX10_swap 16 = .ok (.iload_n 3, 1) := by decide +kernel
theorem dX10_swap_17 : decode cX10_swap 17 = .ok (.iaload, 1) := by decide +kernel
theorem dX10_swap_18 : decode cX10_swap 18 = .ok (.istore 4, 2) := by decide +kernel
theorem dX10_swap_20 : decode cX10_swap 20 = .ok (.aload_n 0, 1) := by decide +kernel
theorem dX10_swap_21 : decode cX10_swap 21 = .ok (.getfield 89, 3) := by decide +kernel
theorem dX10_swap_24 : decode cX10_swap 24 = .ok (.iload_n 3, 1) := by decide +kernel
theorem dX10_swap_25 : decode cX10_swap 25 = .ok (.iaload, 1) := by decide +kernel
theorem dX10_swap_26 : decode cX10_swap 26 = .ok (.istore 5, 2) := by decide +kernel
theorem dX10_swap_28 : decode cX10_swap 28 = .ok (.aload_n 0, 1) := by decide +kernel
theorem dX10_swap_29 : decode cX10_swap 29 = .ok (.getfield 92, 3) := by decide +kernel
theorem dX10_swap_32 : decode cX10_swap 32 = .ok (.iload_n 3, 1) := by decide +kernel
theorem dX10_swap_33 : decode cX10_swap 33 = .ok (.laload, 1) := by decide +kernel
theorem dX10_swap_34 : decode cX10_swap 34 = .ok (.lstore 6, 2) := by decide +kernel
theorem dX10_swap_36 : decode cX10_swap 36 = .ok (.aload_n 0, 1) := by decide +kernel
theorem dX10_swap_37 : decode cX10_swap 37 = .ok (.aload_n 0, 1) := by decide +kernel
theorem dX10_swap_38 : decode cX10_swap 38 = .ok (.getfield 510, 3) := by decide +kernel
theorem dX10_swap_41 : decode cX10_swap 41 = .ok (.iload_n 2, 1) := by decide +kernel
theorem dX10_swap_42 : decode cX10_swap 42 = .ok (.invokevirtual 519, 3) := by decide +kernel
theorem dX10_swap_45 : decode cX10_swap 45 = .ok (.aload_n 0, 1) := by decide +kernel
theorem dX10_swap_46 : decode cX10_swap 46 = .ok (.aload_n 0, 1) := by decide +kernel
theorem dX10_swap_47 : decode cX10_swap 47 = .ok (.getfield 510, 3) := by decide +kernel
theorem dX10_swap_50 : decode cX10_swap 50 = .ok (.iload_n 1, 1) := by decide +kernel
theorem dX10_swap_51 : decode cX10_swap 51 = .ok (.invokevirtual 543, 3) := by decide +kernel
theorem dX10_swap_54 : decode cX10_swap 54 = .ok (.aload_n 0, 1) := by decide +kernel
theorem dX10_swap_55 : decode cX10_swap 55 = .ok (.iload 4, 2) := by decide +kernel
theorem dX10_swap_57 : decode cX10_swap 57 = .ok (.putfield 493, 3) := by decide +kernel
theorem dX10_swap_60 : decode cX10_swap 60 = .ok (.aload_n 0, 1) := by decide +kernel
theorem dX10_swap_61 : decode cX10_swap 61 = .ok (.iload 5, 2) := by decide +kernel
theorem dX10_swap_63 : decode cX10_swap 63 = .ok (.putfield 496, 3) := by decide +kernel
theorem dX10_swap_66 : decode cX10_swap 66 = .ok (.aload_n 0, 1) := by decide +kernel
theorem dX10_swap_67 : decode cX10_swap 67 = .ok (.lload 6, 2) := by decide +kernel
theorem dX10_swap_69 : decode cX10_swap 69 = .ok (.putfield 499, 3) := by decide +kernel
theorem dX10_swap_72 : decode cX10_swap 72 = .ok (.aload_n 0, 1) := by decide +kernel
theorem dX10_swap_73 : decode cX10_swap 73 = .ok (.aload_n 0, 1) := by decide +kernel
theorem dX10_swap_74 : decode cX10_swap 74 = .ok (.getfield 510, 3) := by decide +kernel
theorem dX10_swap_77 : decode cX10_swap 77 = .ok (.iload_n 2, 1) := by decide +kernel
theorem dX10_swap_78 : decode cX10_swap 78 = .ok (.invokevirtual 543, 3) := by decide +kernel
theorem dX10_swap_81 : decode cX10_swap 81 = .ok (.return_, 1) := by decide +kernel
theorem dX10_turns_0 : decode cX10_turns 0 = .ok (.aload_n 0, 1) := by decide +kernel
theorem dX10_turns_1 : decode cX10_turns 1 = .ok (.aload_n 0, 1) := by decide +kernel
theorem dX10_turns_2 : decode cX10_turns 2 = .ok (.getfield 34, 3) := by decide +kernel
theorem dX10_turns_5 : decode cX10_turns 5 = .ok (.iload_n 1, 1) := by decide +kernel
theorem dX10_turns_6 : decode cX10_turns 6 = .ok (.iaload, 1) := by decide +kernel
theorem dX10_turns_7 : decode cX10_turns 7 = .ok (.invokevirtual 502, 3) := by decide +kernel
theorem dX10_turns_10 : decode cX10_turns 10 = .ok (.aload_n 0, 1) := by decide +kernel
theorem dX10_turns_11 : decode cX10_turns 11 = .ok (.invokevirtual 513, 3) := by decide +kernel
theorem dX10_turns_14 : decode cX10_turns 14 = .ok (.istore_n 2, 1) := by decide +kernel
theorem dX10_turns_15 : decode cX10_turns 15 = .ok (.iload_n 2, 1) := by decide +kernel
theorem dX10_turns_16 : decode cX10_turns 16 = .ok (.ifCond .le 5, 3) := by decide +kernel
theorem dX10_turns_19 : decode cX10_turns 19 = .ok (.iload_n 2, 1) := by decide +kernel
theorem dX10_turns_20 : decode cX10_turns 20 = .ok (.ireturn, 1) := by decide +kernel
theorem dX10_turns_21 : decode cX10_turns 21 = .ok (.aload_n 0, 1) := by decide +kernel
theorem dX10_turns_22 : decode cX10_turns 22 = .ok (.getfield 16, 3) := by decide +kernel
theorem dX10_turns_25 : decode cX10_turns 25 = .ok (.iload_n 1, 1) := by decide +kernel
theorem dX10_turns_26 : decode cX10_turns 26 = .ok (.iaload, 1) := by decide +kernel
theorem dX10_turns_27 : decode cX10_turns 27 = .ok (.bipush 19, 2) := by decide +kernel
theorem dX10_turns_29 : decode cX10_turns 29 = .ok (.if_icmp .ne 49, 3) := by decide +kernel
theorem dX10_turns_32 : decode cX10_turns 32 = .ok (.aload_n 0, 1) := by decide +kernel
theorem dX10_turns_33 : decode cX10_turns 33 = .ok (.aload_n 0, 1) := by decide +kernel
theorem dX10_turns_34 : decode cX10_turns 34 = .ok (.getfield 119, 3) := by decide +kernel
theorem dX10_turns_37 : decode cX10_turns 37 = .ok (.iconst 0, 1) := by decide +kernel
theorem dX10_turns_38 : decode cX10_turns 38 = .ok (.iaload, 1) := by decide +kernel
theorem dX10_turns_39 : decode cX10_turns 39 = .ok (.invokevirtual 516, 3) := by decide +kernel
theorem dX10_turns_42 : decode cX10_turns 42 = .ok (.ifCond .eq 16, 3) := by decide +kernel
theorem dX10_turns_45 : decode cX10_turns 45 = .ok (.aload_n 0, 1) := by decide +kernel
theorem dX10_turns_46 : decode cX10_turns 46 = .ok (.aload_n 0, 1) := by decide +kernel
theorem dX10_turns_47 : decode cX10_turns 47 = .ok (.getfield 119, 3) := by decide +kernel
theorem dX10_turns_50 : decode cX10_turns 50 = .ok (.iconst 1, 1) := by decide +kernel
theorem dX10_turns_51 : decode cX10_turns 51 = .ok (.iaload, 1) := by decide +kernel
theorem dX10_turns_52 : decode cX10_turns 52 = .ok (.invokevirtual 516, 3) := by decide +kernel
theorem dX10_turns_55 : decode cX10_turns 55 = .ok (.ifCond .ne 5, 3) := by decide +kernel
theorem dX10_turns_58 : decode cX10_turns 58 = .ok (.iconst 2, 1) := by decide +kernel
theorem dX10_turns_59 : decode cX10_turns 59 = .ok (.ireturn, 1) := by decide +kernel
theorem dX10_turns_60 : decode cX10_turns 60 = .ok (.aload_n 0, 1) := by decide +kernel
theorem dX10_turns_61 : decode cX10_turns 61 = .ok (.aload_n 0, 1) := by decide +kernel
theorem dX10_turns_62 : decode cX10_turns 62 = .ok (.getfield 119, 3) := by decide +kernel
theorem dX10_turns_65 : decode cX10_turns 65 = .ok (.iconst 0, 1) := by decide +kernel
theorem dX10_turns_66 : decode cX10_turns 66 = .ok (.iaload, 1) := by decide +kernel
theorem dX10_turns_67 : decode cX10_turns 67 = .ok (.aload_n 0, 1) := by decide +kernel
theorem dX10_turns_68 : decode cX10_turns 68 = .ok (.getfield 119, 3) := by decide +kernel
theorem dX10_turns_71 : decode cX10_turns 71 = .ok (.iconst 1, 1) := by decide +kernel
theorem dX10_turns_72 : decode cX10_turns 72 = .ok (.iaload, 1) := by decide +kernel
theorem dX10_turns_73 : decode cX10_turns 73 = .ok (.invokevirtual 611, 3) := by decide +kernel
theorem dX10_turns_76 : decode cX10_turns 76 = .ok (.iconst 0, 1) := by decide +kernel
theorem dX10_turns_77 : decode cX10_turns 77 = .ok (.ireturn, 1) := by decide +kernel
theorem dX10_turns_78 : decode cX10_turns 78 = .ok (.iconst 0, 1) := by decide +kernel
theorem dX10_turns_79 : decode cX10_turns 79 = .ok (.istore_n 3, 1) := by decide +kernel
theorem dX10_turns_80 : decode cX10_turns 80 = .ok (.iload_n 3, 1) := by decide +kernel
theorem dX10_turns_81 : decode cX10_turns 81 = .ok (.aload_n 0, 1) := by decide +kernel
theorem dX10_turns_82 : decode cX10_turns 82 = .ok (.getfield 83, 3) := by decide +kernel
theorem dX10_turns_85 : decode cX10_turns 85 = .ok (.aload_n 0, 1) := by decide +kernel
theorem dX10_turns_86 : decode cX10_turns 86 = .ok (.getfield 510, 3) := by decide +kernel
theorem dX10_turns_89 : decode cX10_turns 89 = .ok (.iaload, 1) := by decide +kernel
theorem dX10_turns_90 : decode cX10_turns 90 = .ok (.iconst 2, 1) := by decide +kernel
theorem dX10_turns_91 : decode cX10_turns 91 = .ok (.idiv, 1) := by decide +kernel
theorem dX10_turns_92 : decode cX10_turns 92 = .ok (.if_icmp .ge 27, 3) := by decide +kernel
theorem dX10_turns_95 : decode cX10_turns 95 = .ok (.aload_n 0, 1) := by decide +kernel
theorem dX10_turns_96 : decode cX10_turns 96 = .ok (.iload_n 3, 1) := by decide +kernel
theorem dX10_turns_97 : decode cX10_turns 97 = .ok (.aload_n 0, 1) := by decide +kernel
theorem dX10_turns_98 : decode cX10_turns 98 = .ok (.getfield 83, 3) := by decide +kernel
theorem dX10_turns_101 : decode cX10_turns 101 = .ok (.aload_n 0, 1) := by decide +kernel
theorem dX10_turns_102 : decode cX10_turns 102 = .ok (.getfield 510, 3) := by decide +kernel
theorem dX10_turns_105 : decode cX10_turns 105 = .ok (.iaload, 1) := by decide +kernel
theorem dX10_turns_106 : decode cX10_turns 106 = .ok (.iconst 1, 1) := by decide +kernel
theorem dX10_turns_107 : decode cX10_turns 107 = .ok (.isub, 1) := by decide +kernel
theorem dX10_turns_108 : decode cX10_turns 108 = .ok (.iload_n 3, 1) := by decide +kernel
theorem dX10_turns_109 : decode cX10_turns 109 = .ok (.isub, 1) := by decide +kernel
theorem dX10_turns_110 : decode cX10_turns 110 = .ok (.invokevirtual 611, 3) := by decide +kernel
theorem dX10_turns_113 : decode cX10_turns 113 = .ok (.iinc 3 1, 3) := by decide +kernel
theorem dX10_turns_116 : decode cX10_turns 116 = .ok (.goto (-36), 3) := by decide +kernel
theorem dX10_turns_119 : decode cX10_turns 119 = .ok (.iconst 0, 1) := by decide +kernel
theorem dX10_turns_120 : decode cX10_turns 120 = .ok (.ireturn, 1) := by decide +kernel
theorem dX10_fills_0 : decode cX10_fills 0 = .ok (.aload_n 0, 1) := by decide +kernel
theorem dX10_fills_1 : decode cX10_fills 1 = .ok (.iload_n 1, 1) := by decide +kernel
theorem dX10_fills_2 : decode cX10_fills 2 = .ok (.invokevirtual 569, 3) := by decide +kernel
theorem dX10_fills_5 : decode cX10_fills 5 = .ok (.aload_n 0, 1) := by decide +kernel
theorem dX10_fills_6 : decode cX10_fills 6 = .ok (.getfield 493, 3) := by decide +kernel
theorem dX10_fills_9 : decode cX10_fills 9 = .ok (.istore_n 2, 1) := by decide +kernel
theorem dX10_fills_10 : decode cX10_fills 10 = .ok (.aload_n 0, 1) := by decide +kernel
theorem dX10_fills_11 : decode cX10_fills 11 = .ok (.getfield 496, 3) := by decide +kernel
theorem dX10_fills_14 : decode cX10_fills 14 = .ok (.istore_n 3, 1) := by decide +kernel
theorem dX10_fills_15 : decode cX10_fills 15 = .ok (.aload_n 0, 1) := by decide +kernel
theorem dX10_fills_16 : decode cX10_fills 16 = .ok (.getfield 499, 3) := by decide +kernel
theorem dX10_fills_19 : decode cX10_fills 19 = .ok (.lstore 4, 2) := by decide +kernel
theorem dX10_fills_21 : decode cX10_fills 21 = .ok (.aload_n 0, 1) := by decide +kernel
theorem dX10_fills_22 : decode cX10_fills 22 = .ok (.aload_n 0, 1) := by decide +kernel
theorem dX10_fills_23 : decode cX10_fills 23 = .ok (.getfield 34, 3) := by decide +kernel
theorem dX10_fills_26 : decode cX10_fills 26 = .ok (.iload_n 1, 1) := by decide +kernel
theorem dX10_fills_27 : decode cX10_fills 27 = .ok (.iaload, 1) := by decide +kernel
theorem dX10_fills_28 : decode cX10_fills 28 = .ok (.invokevirtual 502, 3) := by decide +kernel
theorem dX10_fills_31 : decode cX10_fills 31 = .ok (.aload_n 0, 1) := by decide +kernel
theorem dX10_fills_32 : decode cX10_fills 32 = .ok (.invokevirtual 513, 3) := by decide +kernel
theorem dX10_fills_35 : decode cX10_fills 35 = .ok (.istore 6, 2) := by decide +kernel
theorem dX10_fills_37 : decode cX10_fills 37 = .ok (.iconst 0, 1) := by decide +kernel
theorem dX10_fills_38 : decode cX10_fills 38 = .ok (.istore 7, 2) := by decide +kernel
theorem dX10_fills_40 : decode cX10_fills 40 = .ok (.iload 6, 2) := by decide +kernel
theorem dX10_fills_42 : decode cX10_fills 42 = .ok (.ifCond .ne 70, 3) := by decide +kernel
theorem dX10_fills_45 : decode cX10_fills 45 = .ok (.iload 7, 2) := by decide +kernel
theorem dX10_fills_47 : decode cX10_fills 47 = .ok (.aload_n 0, 1) := by decide +kernel
theorem dX10_fills_48 : decode cX10_fills 48 = .ok (.getfield 83, 3) := by decide +kernel
theorem dX10_fills_51 : decode cX10_fills 51 = .ok (.aload_n 0, 1) := by decide +kernel
theorem dX10_fills_52 : decode cX10_fills 52 = .ok (.getfield 510, 3) := by decide +kernel
theorem dX10_fills_55 : decode cX10_fills 55 = .ok (.iaload, 1) := by decide +kernel
theorem dX10_fills_56 : decode cX10_fills 56 = .ok (.if_icmp .ge 56, 3) := by decide +kernel
theorem dX10_fills_59 : decode cX10_fills 59 = .ok (.aload_n 0, 1) := by decide +kernel
theorem dX10_fills_60 : decode cX10_fills 60 = .ok (.iload_n 2, 1) := by decide +kernel
theorem dX10_fills_61 : decode cX10_fills 61 = .ok (.putfield 493, 3) := by decide +kernel
theorem dX10_fills_64 : decode cX10_fills 64 = .ok (.aload_n 0, 1) := by decide +kernel
theorem dX10_fills_65 : decode cX10_fills 65 = .ok (.iload_n 3, 1) := by decide +kernel
theorem dX10_fills_66 : decode cX10_fills 66 = .ok (.putfield 496, 3) := by decide +kernel
theorem dX10_fills_69 : decode cX10_fills 69 = .ok (.aload_n 0, 1) := by decide +kernel
theorem dX10_fills_70 : decode cX10_fills 70 = .ok (.lload 4, 2) := by decide +kernel
theorem dX10_fills_72 : decode cX10_fills 72 = .ok (.putfield 499, 3) := by decide +kernel
theorem dX10_fills_75 : decode cX10_fills 75 = .ok (.aload_n 0, 1) := by decide +kernel
theorem dX10_fills_76 : decode cX10_fills 76 = .ok (.aload_n 0, 1) := by decide +kernel
theorem dX10_fills_77 : decode cX10_fills 77 = .ok (.getfield 77, 3) := by decide +kernel
theorem dX10_fills_80 : decode cX10_fills 80 = .ok (.aload_n 0, 1) := by decide +kernel
theorem dX10_fills_81 : decode cX10_fills 81 = .ok (.getfield 510, 3) := by decide +kernel
theorem dX10_fills_84 : decode cX10_fills 84 = .ok (.iaload, 1) := by decide +kernel
theorem dX10_fills_85 : decode cX10_fills 85 = .ok (.iconst 1, 1) := by decide +kernel
theorem dX10_fills_86 : decode cX10_fills 86 = .ok (.invokevirtual 607, 3) := by decide +kernel
theorem dX10_fills_89 : decode cX10_fills 89 = .ok (.istore 6, 2) := by decide +kernel
theorem dX10_fills_91 : decode cX10_fills 91 = .ok (.iload 6, 2) := by decide +kernel
theorem dX10_fills_93 : decode cX10_fills 93 = .ok (.ifCond .ne 13, 3) := by decide +kernel
theorem dX10_fills_96 : decode cX10_fills 96 = .ok (.aload_n 0, 1) := by decide +kernel
theorem dX10_fills_97 : decode cX10_fills 97 = .ok (.aload_n 0, 1) := by decide +kernel
theorem dX10_fills_98 : decode cX10_fills 98 = .ok (.getfield 510, 3) := by decide +kernel
theorem dX10_fills_101 : decode cX10_fills 101 = .ok (.iload 7, 2) := by decide +kernel
theorem dX10_fills_103 : decode cX10_fills 103 = .ok (.invokevirtual 543, 3) := by decide +kernel
theorem dX10_fills_106 : decode cX10_fills 106 = .ok (.iinc 7 1, 3) := by decide +kernel
theorem dX10_fills_109 : decode cX10_fills 109 = .ok (.goto (-69), 3) := by decide +kernel
theorem dX10_fills_112 : decode cX10_fills 112 = .ok (.iload 6, 2) := by decide +kernel
theorem dX10_fills_114 : decode cX10_fills 114 = .ok (.ireturn, 1) := by decide +kernel

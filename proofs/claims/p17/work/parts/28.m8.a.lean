theorem dX10_none_0 : decode cX10_none 0 = .ok (.aload_n 0, 1) := by decide +kernel
theorem dX10_none_1 : decode cX10_none 1 = .ok (.iconst 0, 1) := by decide +kernel
theorem dX10_none_2 : decode cX10_none 2 = .ok (.putfield 493, 3) := by decide +kernel
theorem dX10_none_5 : decode cX10_none 5 = .ok (.aload_n 0, 1) := by decide +kernel
theorem dX10_none_6 : decode cX10_none 6 = .ok (.iconst 0, 1) := by decide +kernel
theorem dX10_none_7 : decode cX10_none 7 = .ok (.putfield 496, 3) := by decide +kernel
theorem dX10_none_10 : decode cX10_none 10 = .ok (.aload_n 0, 1) := by decide +kernel
theorem dX10_none_11 : decode cX10_none 11 = .ok (.lconst 0, 1) := by decide +kernel
theorem dX10_none_12 : decode cX10_none 12 = .ok (.putfield 499, 3) := by decide +kernel
theorem dX10_none_15 : decode cX10_none 15 = .ok (.return_, 1) := by decide +kernel
theorem dX10_number_0 : decode cX10_number 0 = .ok (.aload_n 0, 1) := by decide +kernel
theorem dX10_number_1 : decode cX10_number 1 = .ok (.iconst 1, 1) := by decide +kernel
theorem dX10_number_2 : decode cX10_number 2 = .ok (.putfield 493, 3) := by decide +kernel
theorem dX10_number_5 : decode cX10_number 5 = .ok (.aload_n 0, 1) := by decide +kernel
theorem dX10_number_6 : decode cX10_number 6 = .ok (.iload_n 1, 1) := by decide +kernel
theorem dX10_number_7 : decode cX10_number 7 = .ok (.putfield 496, 3) := by decide +kernel
theorem dX10_number_10 : decode cX10_number 10 = .ok (.aload_n 0, 1) := by decide +kernel
theorem dX10_number_11 : decode cX10_number 11 = .ok (.lload_n 2, 1) := by decide +kernel
theorem dX10_number_12 : decode cX10_number 12 = .ok (.putfield 499, 3) := by decide +kernel
theorem dX10_number_15 : decode cX10_number 15 = .ok (.return_, 1) := by decide +kernel
theorem dX10_ofVar_0 : decode cX10_ofVar 0 = .ok (.aload_n 0, 1) := by decide +kernel
theorem dX10_ofVar_1 : decode cX10_ofVar 1 = .ok (.aload_n 0, 1) := by decide +kernel
theorem dX10_ofVar_2 : decode cX10_ofVar 2 = .ok (.getfield 65, 3) := by decide +kernel
theorem dX10_ofVar_5 : decode cX10_ofVar 5 = .ok (.iload_n 1, 1) := by decide +kernel
theorem dX10_ofVar_6 : decode cX10_ofVar 6 = .ok (.iaload, 1) := by decide +kernel
theorem dX10_ofVar_7 : decode cX10_ofVar 7 = .ok (.putfield 493, 3) := by decide +kernel
theorem dX10_ofVar_10 : decode cX10_ofVar 10 = .ok (.aload_n 0, 1) := by decide +kernel
theorem dX10_ofVar_11 : decode cX10_ofVar 11 = .ok (.aload_n 0, 1) := by decide +kernel
theorem dX10_ofVar_12 : decode cX10_ofVar 12 = .ok (.getfield 68, 3) := by decide +kernel
theorem dX10_ofVar_15 : decode cX10_ofVar 15 = .ok (.iload_n 1, 1) := by decide +kernel
theorem dX10_ofVar_16 : decode cX10_ofVar 16 = .ok (.iaload, 1) := by decide +kernel
theorem dX10_ofVar_17 : decode cX10_ofVar 17 = .ok (.putfield 496, 3) := by decide +kernel
theorem dX10_ofVar_20 : decode cX10_ofVar 20 = .ok (.aload_n 0, 1) := by decide +kernel
theorem dX10_ofVar_21 : decode cX10_ofVar 21 = .ok (.aload_n 0, 1) := by decide +kernel
theorem dX10_ofVar_22 : decode cX10_ofVar 22 = .ok (.getfield 71, 3) := by decide +kernel
theorem dX10_ofVar_25 : decode cX10_ofVar 25 = .ok (.iload_n 1, 1) := by decide +kernel
theorem dX10_ofVar_26 : decode cX10_ofVar 26 = .ok (.laload, 1) := by decide +kernel
theorem dX10_ofVar_27 : decode cX10_ofVar 27 = .ok (.putfield 499, 3) := by decide +kernel
theorem dX10_ofVar_30 : decode cX10_ofVar 30 = .ok (.return_, 1) := by decide +kernel
theorem dX10_toVar_0 : decode cX10_toVar 0 = .ok (.aload_n 0, 1) := by decide +kernel
theorem dX10_toVar_1 : decode cX10_toVar 1 = .ok (.getfield 65, 3) := by decide +kernel
theorem dX10_toVar_4 : decode cX10_toVar 4 = .ok (.iload_n 1, 1) := by decide +kernel
theorem dX10_toVar_5 : decode cX10_toVar 5 = .ok (.aload_n 0, 1) := by decide +kernel
theorem dX10_toVar_6 : decode cX10_toVar 6 = .ok (.getfield 493, 3) := by decide +kernel
theorem dX10_toVar_9 : decode cX10_toVar 9 = .ok (.iastore, 1) := by decide +kernel
theorem dX10_toVar_10 : decode cX10_toVar 10 = .ok (.aload_n 0, 1) := by decide +kernel
theorem dX10_toVar_11 : decode cX10_toVar 11 = .ok (.getfield 68, 3) := by decide +kernel
theorem dX10_toVar_14 : decode cX10_toVar 14 = .ok (.iload_n 1, 1) := by decide +kernel
theorem dX10_toVar_15 : decode cX10_toVar 15 = .ok (.aload_n 0, 1) := by decide +kernel
theorem dX10_toVar_16 : decode cX10_toVar 16 = .ok (.getfield 496, 3) := by decide +kernel
theorem dX10_toVar_19 : decode cX10_toVar 19 = .ok (.iastore, 1) := by decide +kernel
theorem dX10_toVar_20 : decode cX10_toVar 20 = .ok (.aload_n 0, 1) := by decide +kernel
theorem dX10_toVar_21 : decode cX10_toVar 21 = .ok (.getfield 71, 3) := by decide +kernel
theorem dX10_toVar_24 : decode cX10_toVar 24 = .ok (.iload_n 1, 1) := by decide +kernel
theorem dX10_toVar_25 : decode cX10_toVar 25 = .ok (.aload_n 0, 1) := by decide +kernel
theorem dX10_toVar_26 : decode cX10_toVar 26 = .ok (.getfield 499, 3) := by decide +kernel
theorem dX10_toVar_29 : decode cX10_toVar 29 = .ok (.lastore, 1) := by decide +kernel
theorem dX10_toVar_30 : decode cX10_toVar 30 = .ok (.return_, 1) := by decide +kernel
theorem dX10_ofCell_0 : decode cX10_ofCell 0 = .ok (.aload_n 0, 1) := by decide +kernel
theorem dX10_ofCell_1 : decode cX10_ofCell 1 = .ok (.getfield 80, 3) := by decide +kernel
theorem dX10_ofCell_4 : decode cX10_ofCell 4 = .ok (.iload_n 1, 1) := by decide +kernel
theorem dX10_ofCell_5 : decode cX10_ofCell 5 = .ok (.iaload, 1) := by decide +kernel
theorem dX10_ofCell_6 : decode cX10_ofCell 6 = .ok (.iload_n 2, 1) := by decide +kernel
theorem dX10_ofCell_7 : decode cX10_ofCell 7 = .ok (.iadd, 1) := by decide +kernel
theorem dX10_ofCell_8 : decode cX10_ofCell 8 = .ok (.istore_n 3, 1) := by decide +kernel
theorem dX10_ofCell_9 : decode cX10_ofCell 9 = .ok (.aload_n 0, 1) := by decide +kernel
theorem dX10_ofCell_10 : decode cX10_ofCell 10 = .ok (.aload_n 0, 1) := by decide +kernel
theorem dX10_ofCell_11 : decode cX10_ofCell 11 = .ok (.getfield 86, 3) := by decide +kernel
theorem dX10_ofCell_14 : decode cX10_ofCell 14 = .ok (.iload_n 3, 1) := by decide +kernel
theorem dX10_ofCell_15 : decode cX10_ofCell 15 = .ok (.iaload, 1) := by decide +kernel
theorem dX10_ofCell_16 : decode cX10_ofCell 16 = .ok (.putfield 493, 3) := by decide +kernel
theorem dX10_ofCell_19 : decode cX10_ofCell 19 = .ok (.aload_n 0, 1) := by decide +kernel
theorem dX10_ofCell_20 : decode cX10_ofCell 20 = .ok (.aload_n 0, 1) := by decide +kernel
theorem dX10_ofCell_21 : decode cX10_ofCell 21 = .ok (.getfield 89, 3) := by decide +kernel
theorem dX10_ofCell_24 : decode cX10_ofCell 24 = .ok (.iload_n 3, 1) := by decide +kernel
theorem dX10_ofCell_25 : decode cX10_ofCell 25 = .ok (.iaload, 1) := by decide +kernel
theorem dX10_ofCell_26 : decode cX10_ofCell 26 = .ok (.putfield 496, 3) := by decide +kernel
theorem dX10_ofCell_29 : decode cX10_ofCell 29 = .ok (.aload_n 0, 1) := by decide +kernel
theorem dX10_ofCell_30 : decode cX10_ofCell 30 = .ok (.aload_n 0, 1) := by decide +kernel
theorem dX10_ofCell_31 : decode cX10_ofCell 31 = .ok (.getfield 92, 3) := by decide +kernel
theorem dX10_ofCell_34 : decode cX10_ofCell 34 = .ok (.iload_n 3, 1) := by decide +kernel
theorem dX10_ofCell_35 : decode cX10_ofCell 35 = .ok (.laload, 1) := by decide +kernel
theorem dX10_ofCell_36 : decode cX10_ofCell 36 = .ok (.putfield 499, 3) := by decide +kernel
theorem dX10_ofCell_39 : decode cX10_ofCell 39 = .ok (.return_, 1) := by decide +kernel
theorem dX10_toCell_0 : decode cX10_toCell 0 = .ok (.aload_n 0, 1) := by decide +kernel
theorem dX10_toCell_1 : decode cX10_toCell 1 = .ok (.getfield 80, 3) := by decide +kernel
theorem dX10_toCell_4 : decode cX10_toCell 4 = .ok (.iload_n 1, 1) := by decide +kernel
theorem dX10_toCell_5 : decode cX10_toCell 5 = .ok (.iaload, 1) := by decide +kernel
theorem dX10_toCell_6 : decode cX10_toCell 6 = .ok (.iload_n 2, 1) := by decide +kernel
theorem dX10_toCell_7 : decode cX10_toCell 7 = .ok (.iadd, 1) := by decide +kernel
theorem dX10_toCell_8 : decode cX10_toCell 8 = .ok (.istore_n 3, 1) := by decide +kernel
theorem dX10_toCell_9 : decode cX10_toCell 9 = .ok (.aload_n 0, 1) := by decide +kernel
theorem dX10_toCell_10 : decode cX10_toCell 10 = .ok (.getfield 86, 3) := by decide +kernel
theorem dX10_toCell_13 : decode cX10_toCell 13 = .ok (.iload_n 3, 1) := by decide +kernel
theorem dX10_toCell_14 : decode cX10_toCell 14 = .ok (.aload_n 0, 1) := by decide +kernel
theorem dX10_toCell_15 : decode cX10_toCell 15 = .ok (.getfield 493, 3) := by decide +kernel
theorem dX10_toCell_18 : decode cX10_toCell 18 = .ok (.iastore, 1) := by decide +kernel
theorem dX10_toCell_19 : decode cX10_toCell 19 = .ok (.aload_n 0, 1) := by decide +kernel
theorem dX10_toCell_20 : decode cX10_toCell 20 = .ok (.getfield 89, 3) := by decide +kernel
theorem dX10_toCell_23 : decode cX10_toCell 23 = .ok (.iload_n 3, 1) := by decide +kernel
theorem dX10_toCell_24 : decode cX10_toCell 24 = .ok (.aload_n 0, 1) := by decide +kernel
theorem dX10_toCell_25 : decode cX10_toCell 25 = .ok (.getfield 496, 3) := by decide +kernel
theorem dX10_toCell_28 : decode cX10_toCell 28 = .ok (.iastore, 1) := by decide +kernel
theorem dX10_toCell_29 : decode cX10_toCell 29 = .ok (.aload_n 0, 1) := by decide +kernel
theorem dX10_toCell_30 : decode cX10_toCell 30 = .ok (.getfield 92, 3) := by decide +kernel
theorem dX10_toCell_33 : decode cX10_toCell 33 = .ok (.iload_n 3, 1) := by decide +kernel
theorem dX10_toCell_34 : decode cX10_toCell 34 = .ok (.aload_n 0, 1) := by decide +kernel
theorem dX10_toCell_35 : decode cX10_toCell 35 = .ok (.getfield 499, 3) := by decide +kernel
theorem dX10_toCell_38 : decode cX10_toCell 38 = .ok (.lastore, 1) := by decide +kernel
theorem dX10_toCell_39 : decode cX10_toCell 39 = .ok (.return_, 1) := by decide +kernel
theorem dX10_classOf_0 : decode cX10_classOf 0 = .ok (.aload_n 0, 1) := by decide +kernel
theorem dX10_classOf_1 : decode cX10_classOf 1 = .ok (.getfield 493, 3) := by decide +kernel
theorem dX10_classOf_4 : decode cX10_classOf 4 = .ok (.ifCond .ne 7, 3) := by decide +kernel
theorem dX10_classOf_7 : decode cX10_classOf 7 = .ok (.iconst (-1), 1) := by decide +kernel
theorem dX10_classOf_8 : decode cX10_classOf 8 = .ok (.goto 49, 3) := by decide +kernel
theorem dX10_classOf_11 : decode cX10_classOf 11 = .ok (.aload_n 0, 1) := by decide +kernel
theorem dX10_classOf_12 : decode cX10_classOf 12 = .ok (.getfield 493, 3) := by decide +kernel
theorem dX10_classOf_15 : decode cX10_classOf 15 = .ok (.iconst 1, 1) := by decide +kernel
theorem dX10_classOf_16 : decode cX10_classOf 16 = .ok (.if_icmp .ne 10, 3) := by decide +kernel
theorem dX10_classOf_19 : decode cX10_classOf 19 = .ok (.aload_n 0, 1) := by decide +kernel
theorem dX10_classOf_20 : decode cX10_classOf 20 = .ok (.getfield 496, 3) := by decide +kernel
theorem dX10_classOf_23 : decode cX10_classOf 23 = .ok (.goto 34, 3) := by decide +kernel
theorem dX10_classOf_26 : decode cX10_classOf 26 = .ok (.aload_n 0, 1) := by decide +kernel
theorem dX10_classOf_27 : decode cX10_classOf 27 = .ok (.getfield 493, 3) := by decide +kernel
theorem dX10_classOf_30 : decode cX10_classOf 30 = .ok (.iconst 2, 1) := by decide +kernel
theorem dX10_classOf_31 : decode cX10_classOf 31 = .ok (.if_icmp .ne 16, 3) := by decide +kernel
theorem dX10_classOf_34 : decode cX10_classOf 34 = .ok (.aload_n 0, 1) := by decide +kernel
theorem dX10_classOf_35 : decode cX10_classOf 35 = .ok (.getfield 74, 3) := by decide +kernel
theorem dX10_classOf_38 : decode cX10_classOf 38 = .ok (.aload_n 0, 1) := by decide +kernel
theorem dX10_classOf_39 : decode cX10_classOf 39 = .ok (.getfield 499, 3) := by decide +kernel
theorem dX10_classOf_42 : decode cX10_classOf 42 = .ok (.l2i, 1) := by decide +kernel
theorem dX10_classOf_43 : decode cX10_classOf 43 = .ok (.iaload, 1) := by decide +kernel
theorem dX10_classOf_44 : decode cX10_classOf 44 = .ok (.goto 13, 3) := by decide +kernel
theorem dX10_classOf_47 : decode cX10_classOf 47 = .ok (.aload_n 0, 1) := by decide +kernel
theorem dX10_classOf_48 : decode cX10_classOf 48 = .ok (.getfield 77, 3) := by decide +kernel
theorem dX10_classOf_51 : decode cX10_classOf 51 = .ok (.aload_n 0, 1) := by decide +kernel
theorem dX10_classOf_52 : decode cX10_classOf 52 = .ok (.getfield 499, 3) := by decide +kernel
theorem dX10_classOf_55 : decode cX10_classOf 55 = .ok (.l2i, 1) := by decide +kernel
theorem dX10_classOf_56 : decode cX10_classOf 56 = .ok (.iaload, 1) := by decide +kernel
theorem dX10_classOf_57 : decode cX10_classOf 57 = .ok (.ireturn, 1) := by decide +kernel
theorem dX10_readIndexes_0 : decode cX10_readIndexes 0 = .ok (.iconst 0, 1) := by decide +kernel
theorem dX10_readIndexes_1 : decode cX10_readIndexes 1 = .ok (.istore_n 2, 1) := by decide +kernel
theorem dX10_readIndexes_2 : decode cX10_readIndexes 2 = .ok (.iload_n 2, 1) := by decide +kernel
theorem dX10_readIndexes_3 : decode cX10_readIndexes 3 = .ok (.aload_n 0, 1) := by decide +kernel
theorem dX10_readIndexes_4 : decode cX10_readIndexes 4 = .ok (.getfield 43, 3) := by decide +kernel
theorem dX10_readIndexes_7 : decode cX10_readIndexes 7 = .ok (.iload_n 1, 1) := by decide +kernel
theorem dX10_readIndexes_8 : decode cX10_readIndexes 8 = .ok (.iaload, 1) := by decide +kernel
theorem dX10_readIndexes_9 : decode cX10_readIndexes 9 = .ok (.if_icmp .ge 101, 3) := by decide +kernel
theorem dX10_readIndexes_12 : decode cX10_readIndexes 12 = .ok (.aload_n 0, 1) := by decide +kernel
theorem dX10_readIndexes_13 : decode cX10_readIndexes 13 = .ok (.getfield 46, 3) := by decide +kernel
theorem dX10_readIndexes_16 : decode cX10_readIndexes 16 = .ok (.iconst 4, 1) := by decide +kernel
theorem dX10_readIndexes_17 : decode cX10_readIndexes 17 = .ok (.iload_n 1, 1) := by decide +kernel
theorem dX10_readIndexes_18 : decode cX10_readIndexes 18 = .ok (.imul, 1) := by decide +kernel
theorem dX10_readIndexes_19 : decode cX10_readIndexes 19 = .ok (.iload_n 2, 1) := by decide +kernel
theorem dX10_readIndexes_20 : decode cX10_readIndexes 20 = .ok (.iadd, 1) := by decide +kernel
theorem dX10_readIndexes_21 : decode cX10_readIndexes 21 = .ok (.iaload, 1) := by decide +kernel
theorem dX10_readIndexes_22 : decode cX10_readIndexes 22 = .ok (.istore_n 3, 1) := by decide +kernel
theorem dX10_readIndexes_23 : decode cX10_readIndexes 23 = .ok (.iload_n 3, 1) := by decide +kernel
theorem dX10_readIndexes_24 : decode cX10_readIndexes 24 = .ok (.iconst (-1), 1) := by decide +kernel
theorem dX10_readIndexes_25 : decode cX10_readIndexes 25 = .ok (.if_icmp .ne 22, 3) := by decide +kernel
theorem dX10_readIndexes_28 : decode cX10_readIndexes 28 = .ok (.aload_n 0, 1) := by decide +kernel
theorem dX10_readIndexes_29 : decode cX10_readIndexes 29 = .ok (.getfield 119, 3) := by decide +kernel
theorem dX10_readIndexes_32 : decode cX10_readIndexes 32 = .ok (.iload_n 2, 1) := by decide +kernel
theorem dX10_readIndexes_33 : decode cX10_readIndexes 33 = .ok (.aload_n 0, 1) := by decide +kernel
theorem dX10_readIndexes_34 : decode cX10_readIndexes 34 = .ok (.getfield 49, 3) := by decide +kernel
theorem dX10_readIndexes_37 : decode cX10_readIndexes 37 = .ok (.iconst 4, 1) := by decide +kernel
theorem dX10_readIndexes_38 : decode cX10_readIndexes 38 = .ok (.iload_n 1, 1) := by decide +kernel
theorem dX10_readIndexes_39 : decode cX10_readIndexes 39 = .ok (.imul, 1) := by decide +kernel
theorem dX10_readIndexes_40 : decode cX10_readIndexes 40 = .ok (.iload_n 2, 1) := by decide +kernel
theorem dX10_readIndexes_41 : decode cX10_readIndexes 41 = .ok (.iadd, 1) := by decide +kernel
theorem dX10_readIndexes_42 : decode cX10_readIndexes 42 = .ok (.iaload, 1) := by decide +kernel
theorem dX10_readIndexes_43 : decode cX10_readIndexes 43 = .ok (.iastore, 1) := by decide +kernel
theorem dX10_readIndexes_44 : decode cX10_readIndexes 44 = .ok (.goto 60, 3) := by decide +kernel
theorem dX10_readIndexes_47 : decode cX10_readIndexes 47 = .ok (.aload_n 0, 1) := by decide +kernel
theorem dX10_readIndexes_48 : decode cX10_readIndexes 48 = .ok (.getfield 65, 3) := by decide +kernel
theorem dX10_readIndexes_51 : decode cX10_readIndexes 51 = .ok (.iload_n 3, 1) := by decide +kernel
theorem dX10_readIndexes_52 : decode cX10_readIndexes 52 = .ok (.iaload, 1) := by decide +kernel
theorem dX10_readIndexes_53 : decode cX10_readIndexes 53 = .ok (.ifCond .ne 5, 3) := by decide +kernel
theorem dX10_readIndexes_56 : decode cX10_readIndexes 56 = .ok (.iconst 1, 1) := by decide +kernel
theorem dX10_readIndexes_57 : decode cX10_readIndexes 57 = .ok (.ireturn, 1) := by decide +kernel
theorem dX10_readIndexes_58 : decode cX10_readIndexes 58 = .ok (.aload_n 0, 1) := by decide +kernel
theorem dX10_readIndexes_59 : decode cX10_readIndexes 59 = .ok (.getfield 65, 3) := by decide +kernel
theorem dX10_readIndexes_62 : decode cX10_readIndexes 62 = .ok (.iload_n 3, 1) := by decide +kernel
theorem dX10_readIndexes_63 : decode cX10_readIndexes 63 = .ok (.iaload, 1) := by decide +kernel
theorem dX10_readIndexes_64 : decode cX10_readIndexes 64 = .ok (.iconst 1, 1) := by decide +kernel
theorem dX10_readIndexes_65 : decode cX10_readIndexes 65 = .ok (.if_icmp .ne 23, 3) := by decide +kernel
theorem dX10_readIndexes_68 : decode cX10_readIndexes 68 = .ok (.aload_n 0, 1) := by decide +kernel
theorem dX10_readIndexes_69 : decode cX10_readIndexes 69 = .ok (.getfield 68, 3) := by decide +kernel
theorem dX10_readIndexes_72 : decode cX10_readIndexes 72 = .ok (.iload_n 3, 1) := by decide +kernel
theorem dX10_readIndexes_73 : decode cX10_readIndexes 73 = .ok (.iaload, 1) := by decide +kernel
theorem dX10_readIndexes_74 : decode cX10_readIndexes 74 = .ok (.iconst 1, 1) := by decide +kernel
theorem dX10_readIndexes_75 : decode cX10_readIndexes 75 = .ok (.if_icmp .lt 13, 3) := by decide +kernel
theorem dX10_readIndexes_78 : decode cX10_readIndexes 78 = .ok (.aload_n 0, 1) := by decide +kernel
theorem dX10_readIndexes_79 : decode cX10_readIndexes 79 = .ok (.getfield 68, 3) := by decide +kernel
theorem dX10_readIndexes_82 : decode cX10_readIndexes 82 = .ok (.iload_n 3, 1) := by decide +kernel
theorem dX10_readIndexes_83 : decode cX10_readIndexes 83 = .ok (.iaload, 1) := by decide +kernel
theorem dX10_readIndexes_84 : decode cX10_readIndexes 84 = .ok (.iconst 4, 1) := by decide +kernel
theorem dX10_readIndexes_85 : decode cX10_readIndexes 85 = .ok (.if_icmp .le 6, 3) := by decide +kernel
theorem dX10_readIndexes_88 : decode cX10_readIndexes 88 = .ok (.bipush 6, 2) := by decide +kernel
theorem dX10_readIndexes_90 : decode cX10_readIndexes 90 = .ok (.ireturn, 1) := by decide +kernel
theorem dX10_readIndexes_91 : decode cX10_readIndexes 91 = .ok (.aload_n 0, 1) := by decide +kernel
theorem dX10_readIndexes_92 : decode cX10_readIndexes 92 = .ok (.getfield 119, 3) := by decide +kernel
theorem dX10_readIndexes_95 : decode cX10_readIndexes 95 = .ok (.iload_n 2, 1) := by decide +kernel
theorem dX10_readIndexes_96 : decode cX10_readIndexes 96 = .ok (.aload_n 0, 1) := by decide +kernel
theorem dX10_readIndexes_97 : decode cX10_readIndexes 97 = .ok (.getfield 71, 3) := by decide +kernel
theorem dX10_readIndexes_100 : decode cX10_readIndexes 100 = .ok (.iload_n 3, 1) := by decide +kernel
theorem dX10_readIndexes_101 : decode cX10_readIndexes 101 = .ok (.laload, 1) := by decide +kernel
theorem dX10_readIndexes_102 : decode cX10_readIndexes 102 = .ok (.l2i, 1) := by decide +kernel
theorem dX10_readIndexes_103 : decode cX10_readIndexes 103 = .ok (.iastore, 1) := by decide +kernel
theorem dX10_readIndexes_104 : decode cX10_readIndexes 104 = .ok (.iinc 2 1, 3) := by decide +kernel
theorem dX10_readIndexes_107 : decode cX10_readIndexes 107 = .ok (.goto (-105), 3) := by decide +kernel
theorem dX10_readIndexes_110 : decode cX10_readIndexes 110 = .ok (.iconst 0, 1) := by decide +kernel
theorem dX10_readIndexes_111 : decode cX10_readIndexes 111 = .ok (.ireturn, 1) := by decide +kernel
theorem dX10_asArray_0 : decode cX10_asArray 0 = .ok (.aload_n 0, 1) := by decide +kernel
theorem dX10_asArray_1 : decode cX10_asArray 1 = .ok (.getfield 493, 3) := by decide +kernel
theorem dX10_asArray_4 : decode cX10_asArray 4 = .ok (.ifCond .ne 5, 3) := by decide +kernel
theorem dX10_asArray_7 : decode cX10_asArray 7 = .ok (.iconst 1, 1) := by decide +kernel
theorem dX10_asArray_8 : decode cX10_asArray 8 = .ok (.ireturn, 1) := by decide +kernel
theorem dX10_asArray_9 : decode cX10_asArray 9 = .ok (.aload_n 0, 1) := by decide +kernel
theorem dX10_asArray_10 : decode cX10_asArray 10 = .ok (.getfield 493, 3) := by decide +kernel
theorem dX10_asArray_13 : decode cX10_asArray 13 = .ok (.iconst 3, 1) := by decide +kernel
theorem dX10_asArray_14 : decode cX10_asArray 14 = .ok (.if_icmp .eq 6, 3) := by decide +kernel
theorem dX10_asArray_17 : decode cX10_asArray 17 = .ok (.bipush 6, 2) := by decide +kernel
theorem dX10_asArray_19 : decode cX10_asArray 19 = .ok (.ireturn, 1) := by decide +kernel
theorem dX10_asArray_20 : decode cX10_asArray 20 = .ok (.aload_n 0, 1) := by decide +kernel
theorem dX10_asArray_21 : decode cX10_asArray 21 = .ok (.aload_n 0, 1) := by decide +kernel
theorem dX10_asArray_22 : decode cX10_asArray 22 = .ok (.getfield 499, 3) := by decide +kernel
theorem dX10_asArray_25 : decode cX10_asArray 25 = .ok (.l2i, 1) := by decide +kernel
theorem dX10_asArray_26 : decode cX10_asArray 26 = .ok (.putfield 510, 3) := by decide +kernel
theorem dX10_asArray_29 : decode cX10_asArray 29 = .ok (.iconst 0, 1) := by decide +kernel
theorem dX10_asArray_30 : decode cX10_asArray 30 = .ok (.ireturn, 1) := by decide +kernel
theorem dX10_isCell_0 : decode cX10_isCell 0 = .ok (.iload_n 1, 1) := by decide +kernel
theorem dX10_isCell_1 : decode cX10_isCell 1 = .ok (.ifCond .lt 20, 3) := by decide +kernel
theorem dX10_isCell_4 : decode cX10_isCell 4 = .ok (.iload_n 1, 1) := by decide +kernel
theorem dX10_isCell_5 : decode cX10_isCell 5 = .ok (.aload_n 0, 1) := by decide +kernel
theorem dX10_isCell_6 : decode cX10_isCell 6 = .ok (.getfield 83, 3) := by decide +kernel
theorem dX10_isCell_9 : decode cX10_isCell 9 = .ok (.aload_n 0, 1) := by decide +kernel
theorem dX10_isCell_10 : decode cX10_isCell 10 = .ok (.getfield 510, 3) := by decide +kernel
theorem dX10_isCell_13 : decode cX10_isCell 13 = .ok (.iaload, 1) := by decide +kernel
theorem dX10_isCell_14 : decode cX10_isCell 14 = .ok (.if_icmp .ge 7, 3) := by decide +kernel
theorem dX10_isCell_17 : decode cX10_isCell 17 = .ok (.iconst 1, 1) := by decide +kernel
theorem dX10_isCell_18 : decode cX10_isCell 18 = .ok (.goto 4, 3) := by decide +kernel
theorem dX10_isCell_21 : decode cX10_isCell 21 = .ok (.iconst 0, 1) := by decide +kernel
theorem dX10_isCell_22 : decode cX10_isCell 22 = .ok (.ireturn, 1) := by decide +kernel

theorem dX8_become_0 : decode cX8_become 0 = .ok (.aload_n 0, 1) := by decide +kernel
theorem dX8_become_1 : decode cX8_become 1 = .ok (.iload_n 1, 1) := by decide +kernel
theorem dX8_become_2 : decode cX8_become 2 = .ok (.putfield 9, 3) := by decide +kernel
theorem dX8_become_5 : decode cX8_become 5 = .ok (.aload_n 0, 1) := by decide +kernel
theorem dX8_become_6 : decode cX8_become 6 = .ok (.lload_n 2, 1) := by decide +kernel
theorem dX8_become_7 : decode cX8_become 7 = .ok (.putfield 15, 3) := by decide +kernel
theorem dX8_become_10 : decode cX8_become 10 = .ok (.return_, 1) := by decide +kernel
theorem dX8_becomeLike_0 : decode cX8_becomeLike 0 = .ok (.aload_n 0, 1) := by decide +kernel
theorem dX8_becomeLike_1 : decode cX8_becomeLike 1 = .ok (.aload_n 1, 1) := by decide +kernel
theorem dX8_becomeLike_2 : decode cX8_becomeLike 2 = .ok (.getfield 9, 3) := by decide +kernel
theorem dX8_becomeLike_5 : decode cX8_becomeLike 5 = .ok (.aload_n 1, 1) := by decide +kernel
theorem dX8_becomeLike_6 : decode cX8_becomeLike 6 = .ok (.getfield 15, 3) := by decide +kernel
theorem dX8_becomeLike_9 : decode cX8_becomeLike 9 = .ok (.invokevirtual 19, 3) := by decide +kernel
theorem dX8_becomeLike_12 : decode cX8_becomeLike 12 = .ok (.return_, 1) := by decide +kernel
theorem dX8_isNone_0 : decode cX8_isNone 0 = .ok (.aload_n 0, 1) := by decide +kernel
theorem dX8_isNone_1 : decode cX8_isNone 1 = .ok (.getfield 9, 3) := by decide +kernel
theorem dX8_isNone_4 : decode cX8_isNone 4 = .ok (.iconst (-1), 1) := by decide +kernel
theorem dX8_isNone_5 : decode cX8_isNone 5 = .ok (.if_icmp .ne 7, 3) := by decide +kernel
theorem dX8_isNone_8 : decode cX8_isNone 8 = .ok (.iconst 1, 1) := by decide +kernel
theorem dX8_isNone_9 : decode cX8_isNone 9 = .ok (.goto 4, 3) := by decide +kernel
theorem dX8_isNone_12 : decode cX8_isNone 12 = .ok (.iconst 0, 1) := by decide +kernel
theorem dX8_isNone_13 : decode cX8_isNone 13 = .ok (.ireturn, 1) := by decide +kernel
theorem dX8_isNumber_0 : decode cX8_isNumber 0 = .ok (.aload_n 0, 1) := by decide +kernel
theorem dX8_isNumber_1 : decode cX8_isNumber 1 = .ok (.getfield 9, 3) := by decide +kernel
theorem dX8_isNumber_4 : decode cX8_isNumber 4 = .ok (.invokestatic 23, 3) := by decide +kernel
theorem dX8_isNumber_7 : decode cX8_isNumber 7 = .ok (.ireturn, 1) := by decide +kernel
theorem dX8_isArray_0 : decode cX8_isArray 0 = .ok (.aload_n 0, 1) := by decide +kernel
theorem dX8_isArray_1 : decode cX8_isArray 1 = .ok (.getfield 9, 3) := by decide +kernel
theorem dX8_isArray_4 : decode cX8_isArray 4 = .ok (.bipush 20, 2) := by decide +kernel
theorem dX8_isArray_6 : decode cX8_isArray 6 = .ok (.if_icmp .lt 7, 3) := by decide +kernel
theorem dX8_isArray_9 : decode cX8_isArray 9 = .ok (.iconst 1, 1) := by decide +kernel
theorem dX8_isArray_10 : decode cX8_isArray 10 = .ok (.goto 4, 3) := by decide +kernel
theorem dX8_isArray_13 : decode cX8_isArray 13 = .ok (.iconst 0, 1) := by decide +kernel
theorem dX8_isArray_14 : decode cX8_isArray 14 = .ok (.ireturn, 1) := by decide +kernel
theorem dX8_isLike_0 : decode cX8_isLike 0 = .ok (.aload_n 0, 1) := by decide +kernel
theorem dX8_isLike_1 : decode cX8_isLike 1 = .ok (.getfield 9, 3) := by decide +kernel
theorem dX8_isLike_4 : decode cX8_isLike 4 = .ok (.aload_n 1, 1) := by decide +kernel
theorem dX8_isLike_5 : decode cX8_isLike 5 = .ok (.getfield 9, 3) := by decide +kernel
theorem dX8_isLike_8 : decode cX8_isLike 8 = .ok (.if_icmp .ne 19, 3) := by decide +kernel
theorem dX8_isLike_11 : decode cX8_isLike 11 = .ok (.aload_n 0, 1) := by decide +kernel
theorem dX8_isLike_12 : decode cX8_isLike 12 = .ok (.getfield 15, 3) := by decide +kernel
theorem dX8_isLike_15 : decode cX8_isLike 15 = .ok (.aload_n 1, 1) := by decide +kernel
theorem dX8_isLike_16 : decode cX8_isLike 16 = .ok (.getfield 15, 3) := by decide +kernel
theorem dX8_isLike_19 : decode cX8_isLike 19 = .ok (.lcmp, 1) := by decide +kernel
theorem dX8_isLike_20 : decode cX8_isLike 20 = .ok (.ifCond .ne 7, 3) := by decide +kernel
theorem dX8_isLike_23 : decode cX8_isLike 23 = .ok (.iconst 1, 1) := by decide +kernel
theorem dX8_isLike_24 : decode cX8_isLike 24 = .ok (.goto 4, 3) := by decide +kernel
theorem dX8_isLike_27 : decode cX8_isLike 27 = .ok (.iconst 0, 1) := by decide +kernel
theorem dX8_isLike_28 : decode cX8_isLike 28 = .ok (.ireturn, 1) := by decide +kernel
theorem dX8_array_0 : decode cX8_array 0 = .ok (.aload_n 0, 1) := by decide +kernel
theorem dX8_array_1 : decode cX8_array 1 = .ok (.getfield 9, 3) := by decide +kernel
theorem dX8_array_4 : decode cX8_array 4 = .ok (.bipush 20, 2) := by decide +kernel
theorem dX8_array_6 : decode cX8_array 6 = .ok (.if_icmp .lt 11, 3) := by decide +kernel
theorem dX8_array_9 : decode cX8_array 9 = .ok (.aload_n 0, 1) := by decide +kernel
theorem dX8_array_10 : decode cX8_array 10 = .ok (.getfield 15, 3) := by decide +kernel
theorem dX8_array_13 : decode cX8_array 13 = .ok (.l2i, 1) := by decide +kernel
theorem dX8_array_14 : decode cX8_array 14 = .ok (.goto 4, 3) := by decide +kernel
theorem dX8_array_17 : decode cX8_array 17 = .ok (.iconst 0, 1) := by decide +kernel
theorem dX8_array_18 : decode cX8_array 18 = .ok (.ireturn, 1) := by decide +kernel
theorem dX6_clear_0 : decode cX6_clear 0 = .ok (.aload_n 0, 1) := by decide +kernel
theorem dX6_clear_1 : decode cX6_clear 1 = .ok (.iconst 0, 1) := by decide +kernel
theorem dX6_clear_2 : decode cX6_clear 2 = .ok (.putfield 18, 3) := by decide +kernel
theorem dX6_clear_5 : decode cX6_clear 5 = .ok (.aload_n 0, 1) := by decide +kernel
theorem dX6_clear_6 : decode cX6_clear 6 = .ok (.iconst (-1), 1) := by decide +kernel
theorem dX6_clear_7 : decode cX6_clear 7 = .ok (.putfield 22, 3) := by decide +kernel
theorem dX6_clear_10 : decode cX6_clear 10 = .ok (.aload_n 0, 1) := by decide +kernel
theorem dX6_clear_11 : decode cX6_clear 11 = .ok (.iconst 0, 1) := by decide +kernel
theorem dX6_clear_12 : decode cX6_clear 12 = .ok (.putfield 25, 3) := by decide +kernel
theorem dX6_clear_15 : decode cX6_clear 15 = .ok (.aload_n 0, 1) := by decide +kernel
theorem dX6_clear_16 : decode cX6_clear 16 = .ok (.iload_n 1, 1) := by decide +kernel
theorem dX6_clear_17 : decode cX6_clear 17 = .ok (.putfield 28, 3) := by decide +kernel
theorem dX6_clear_20 : decode cX6_clear 20 = .ok (.aload_n 0, 1) := by decide +kernel
theorem dX6_clear_21 : decode cX6_clear 21 = .ok (.iconst (-1), 1) := by decide +kernel
theorem dX6_clear_22 : decode cX6_clear 22 = .ok (.putfield 31, 3) := by decide +kernel
theorem dX6_clear_25 : decode cX6_clear 25 = .ok (.aload_n 0, 1) := by decide +kernel
theorem dX6_clear_26 : decode cX6_clear 26 = .ok (.iconst (-1), 1) := by decide +kernel
theorem dX6_clear_27 : decode cX6_clear 27 = .ok (.putfield 34, 3) := by decide +kernel
theorem dX6_clear_30 : decode cX6_clear 30 = .ok (.aload_n 0, 1) := by decide +kernel
theorem dX6_clear_31 : decode cX6_clear 31 = .ok (.iconst (-1), 1) := by decide +kernel
theorem dX6_clear_32 : decode cX6_clear 32 = .ok (.putfield 37, 3) := by decide +kernel
theorem dX6_clear_35 : decode cX6_clear 35 = .ok (.aload_n 0, 1) := by decide +kernel
theorem dX6_clear_36 : decode cX6_clear 36 = .ok (.iconst 0, 1) := by decide +kernel
theorem dX6_clear_37 : decode cX6_clear 37 = .ok (.putfield 40, 3) := by decide +kernel
theorem dX6_clear_40 : decode cX6_clear 40 = .ok (.aload_n 0, 1) := by decide +kernel
theorem dX6_clear_41 : decode cX6_clear 41 = .ok (.iconst 0, 1) := by decide +kernel
theorem dX6_clear_42 : decode cX6_clear 42 = .ok (.putfield 43, 3) := by decide +kernel
theorem dX6_clear_45 : decode cX6_clear 45 = .ok (.aload_n 0, 1) := by decide +kernel
theorem dX6_clear_46 : decode cX6_clear 46 = .ok (.iconst 0, 1) := by decide +kernel
theorem dX6_clear_47 : decode cX6_clear 47 = .ok (.putfield 46, 3) := by decide +kernel
theorem dX6_clear_50 : decode cX6_clear 50 = .ok (.aload_n 0, 1) := by decide +kernel
theorem dX6_clear_51 : decode cX6_clear 51 = .ok (.iconst (-1), 1) := by decide +kernel
theorem dX6_clear_52 : decode cX6_clear 52 = .ok (.putfield 49, 3) := by decide +kernel
theorem dX6_clear_55 : decode cX6_clear 55 = .ok (.aload_n 0, 1) := by decide +kernel
theorem dX6_clear_56 : decode cX6_clear 56 = .ok (.iconst (-1), 1) := by decide +kernel
theorem dX6_clear_57 : decode cX6_clear 57 = .ok (.putfield 52, 3) := by decide +kernel
theorem dX6_clear_60 : decode cX6_clear 60 = .ok (.aload_n 0, 1) := by decide +kernel
theorem dX6_clear_61 : decode cX6_clear 61 = .ok (.lconst 0, 1) := by decide +kernel
theorem dX6_clear_62 : decode cX6_clear 62 = .ok (.putfield 55, 3) := by decide +kernel
theorem dX6_clear_65 : decode cX6_clear 65 = .ok (.return_, 1) := by decide +kernel
theorem dX6_addIndex_0 : decode cX6_addIndex 0 = .ok (.aload_n 0, 1) := by decide +kernel
theorem dX6_addIndex_1 : decode cX6_addIndex 1 = .ok (.getfield 46, 3) := by decide +kernel
theorem dX6_addIndex_4 : decode cX6_addIndex 4 = .ok (.iconst 3, 1) := by decide +kernel
theorem dX6_addIndex_5 : decode cX6_addIndex 5 = .ok (.if_icmp .ge 33, 3) := by decide +kernel
theorem dX6_addIndex_8 : decode cX6_addIndex 8 = .ok (.aload_n 0, 1) := by decide +kernel
theorem dX6_addIndex_9 : decode cX6_addIndex 9 = .ok (.getfield 11, 3) := by decide +kernel
theorem dX6_addIndex_12 : decode cX6_addIndex 12 = .ok (.aload_n 0, 1) := by decide +kernel
theorem dX6_addIndex_13 : decode cX6_addIndex 13 = .ok (.getfield 46, 3) := by decide +kernel
theorem dX6_addIndex_16 : decode cX6_addIndex 16 = .ok (.iload_n 1, 1) := by decide +kernel
theorem dX6_addIndex_17 : decode cX6_addIndex 17 = .ok (.iastore, 1) := by decide +kernel
theorem dX6_addIndex_18 : decode cX6_addIndex 18 = .ok (.aload_n 0, 1) := by decide +kernel
theorem dX6_addIndex_19 : decode cX6_addIndex 19 = .ok (.getfield 15, 3) := by decide +kernel
theorem dX6_addIndex_22 : decode cX6_addIndex 22 = .ok (.aload_n 0, 1) := by decide +kernel
theorem dX6_addIndex_23 : decode cX6_addIndex 23 = .ok (.getfield 46, 3) := by decide +kernel
theorem dX6_addIndex_26 : decode cX6_addIndex 26 = .ok (.iload_n 2, 1) := by decide +kernel
theorem dX6_addIndex_27 : decode cX6_addIndex 27 = .ok (.iastore, 1) := by decide +kernel
theorem dX6_addIndex_28 : decode cX6_addIndex 28 = .ok (.aload_n 0, 1) := by decide +kernel
theorem dX6_addIndex_29 : decode cX6_addIndex 29 = .ok (.dup, 1) := by decide +kernel
theorem dX6_addIndex_30 : decode cX6_addIndex 30 = .ok (.getfield 46, 3) := by decide +kernel
theorem dX6_addIndex_33 : decode cX6_addIndex 33 = .ok (.iconst 1, 1) := by decide +kernel
theorem dX6_addIndex_34 : decode cX6_addIndex 34 = .ok (.iadd, 1) := by decide +kernel
theorem dX6_addIndex_35 : decode cX6_addIndex 35 = .ok (.putfield 46, 3) := by decide +kernel
theorem dX6_addIndex_38 : decode cX6_addIndex 38 = .ok (.return_, 1) := by decide +kernel

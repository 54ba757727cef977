theorem dX10_newArray_0 : decode cX10_newArray 0 = .ok (.aload_n 0, 1) := by decide +kernel
theorem dX10_newArray_1 : decode cX10_newArray 1 = .ok (.getfield 472, 3) := by decide +kernel
theorem dX10_newArray_4 : decode cX10_newArray 4 = .ok (.istore_n 3, 1) := by decide +kernel
theorem dX10_newArray_5 : decode cX10_newArray 5 = .ok (.aload_n 0, 1) := by decide +kernel
theorem dX10_newArray_6 : decode cX10_newArray 6 = .ok (.dup, 1) := by decide +kernel
theorem dX10_newArray_7 : decode cX10_newArray 7 = .ok (.getfield 472, 3) := by decide +kernel
theorem dX10_newArray_10 : decode cX10_newArray 10 = .ok (.iconst 1, 1) := by decide +kernel
theorem dX10_newArray_11 : decode cX10_newArray 11 = .ok (.iadd, 1) := by decide +kernel
theorem dX10_newArray_12 : decode cX10_newArray 12 = .ok (.putfield 472, 3) := by decide +kernel
theorem dX10_newArray_15 : decode cX10_newArray 15 = .ok (.aload_n 0, 1) := by decide +kernel
theorem dX10_newArray_16 : decode cX10_newArray 16 = .ok (.getfield 77, 3) := by decide +kernel
theorem dX10_newArray_19 : decode cX10_newArray 19 = .ok (.iload_n 3, 1) := by decide +kernel
theorem dX10_newArray_20 : decode cX10_newArray 20 = .ok (.iload_n 1, 1) := by decide +kernel
theorem dX10_newArray_21 : decode cX10_newArray 21 = .ok (.iastore, 1) := by decide +kernel
theorem dX10_newArray_22 : decode cX10_newArray 22 = .ok (.aload_n 0, 1) := by decide +kernel
theorem dX10_newArray_23 : decode cX10_newArray 23 = .ok (.getfield 80, 3) := by decide +kernel
theorem dX10_newArray_26 : decode cX10_newArray 26 = .ok (.iload_n 3, 1) := by decide +kernel
theorem dX10_newArray_27 : decode cX10_newArray 27 = .ok (.aload_n 0, 1) := by decide +kernel
theorem dX10_newArray_28 : decode cX10_newArray 28 = .ok (.getfield 475, 3) := by decide +kernel
theorem dX10_newArray_31 : decode cX10_newArray 31 = .ok (.iastore, 1) := by decide +kernel
theorem dX10_newArray_32 : decode cX10_newArray 32 = .ok (.aload_n 0, 1) := by decide +kernel
theorem dX10_newArray_33 : decode cX10_newArray 33 = .ok (.getfield 83, 3) := by decide +kernel
theorem dX10_newArray_36 : decode cX10_newArray 36 = .ok (.iload_n 3, 1) := by decide +kernel
theorem dX10_newArray_37 : decode cX10_newArray 37 = .ok (.iload_n 2, 1) := by decide +kernel
theorem dX10_newArray_38 : decode cX10_newArray 38 = .ok (.iastore, 1) := by decide +kernel
theorem dX10_newArray_39 : decode cX10_newArray 39 = .ok (.aload_n 0, 1) := by decide +kernel
theorem dX10_newArray_40 : decode cX10_newArray 40 = .ok (.dup, 1) := by decide +kernel
theorem dX10_newArray_41 : decode cX10_newArray 41 = .ok (.getfield 475, 3) := by decide +kernel
theorem dX10_newArray_44 : decode cX10_newArray 44 = .ok (.iload_n 2, 1) := by decide +kernel
theorem dX10_newArray_45 : decode cX10_newArray 45 = .ok (.iadd, 1) := by decide +kernel
theorem dX10_newArray_46 : decode cX10_newArray 46 = .ok (.putfield 475, 3) := by decide +kernel
theorem dX10_newArray_49 : decode cX10_newArray 49 = .ok (.iload_n 1, 1) := by decide +kernel
theorem dX10_newArray_50 : decode cX10_newArray 50 = .ok (.invokestatic 525, 3) := by decide +kernel
theorem dX10_newArray_53 : decode cX10_newArray 53 = .ok (.istore 4, 2) := by decide +kernel
theorem dX10_newArray_55 : decode cX10_newArray 55 = .ok (.iconst 0, 1) := by decide +kernel
theorem dX10_newArray_56 : decode cX10_newArray 56 = .ok (.istore 5, 2) := by decide +kernel
theorem dX10_newArray_58 : decode cX10_newArray 58 = .ok (.iload 5, 2) := by decide +kernel
theorem dX10_newArray_60 : decode cX10_newArray 60 = .ok (.iload_n 2, 1) := by decide +kernel
theorem dX10_newArray_61 : decode cX10_newArray 61 = .ok (.if_icmp .ge 37, 3) := by decide +kernel
theorem dX10_newArray_64 : decode cX10_newArray 64 = .ok (.iload 4, 2) := by decide +kernel
theorem dX10_newArray_66 : decode cX10_newArray 66 = .ok (.ifCond .eq 15, 3) := by decide +kernel
theorem dX10_newArray_69 : decode cX10_newArray 69 = .ok (.aload_n 0, 1) := by decide +kernel
theorem dX10_newArray_70 : decode cX10_newArray 70 = .ok (.iload_n 1, 1) := by decide +kernel
theorem dX10_newArray_71 : decode cX10_newArray 71 = .ok (.bipush 20, 2) := by decide +kernel
theorem dX10_newArray_73 : decode cX10_newArray 73 = .ok (.isub, 1) := by decide +kernel
theorem dX10_newArray_74 : decode cX10_newArray 74 = .ok (.lconst 0, 1) := by decide +kernel
theorem dX10_newArray_75 : decode cX10_newArray 75 = .ok (.invokevirtual 505, 3) := by decide +kernel
theorem dX10_newArray_78 : decode cX10_newArray 78 = .ok (.goto 7, 3) := by decide +kernel
theorem dX10_newArray_81 : decode cX10_newArray 81 = .ok (.aload_n 0, 1) := by decide +kernel
theorem dX10_newArray_82 : decode cX10_newArray 82 = .ok (.invokevirtual 508, 3) := by decide +kernel
theorem dX10_newArray_85 : decode cX10_newArray 85 = .ok (.aload_n 0, 1) := by decide +kernel
theorem dX10_newArray_86 : decode cX10_newArray 86 = .ok (.iload_n 3, 1) := by decide +kernel
theorem dX10_newArray_87 : decode cX10_newArray 87 = .ok (.iload 5, 2) := by decide +kernel
theorem dX10_newArray_89 : decode cX10_newArray 89 = .ok (.invokevirtual 543, 3) := by decide +kernel
theorem dX10_newArray_92 : decode cX10_newArray 92 = .ok (.iinc 5 1, 3) := by decide +kernel
theorem dX10_newArray_95 : decode cX10_newArray 95 = .ok (.goto (-37), 3) := by decide +kernel
theorem dX10_newArray_98 : decode cX10_newArray 98 = .ok (.iload_n 3, 1) := by decide +kernel
theorem dX10_newArray_99 : decode cX10_newArray 99 = .ok (.ireturn, 1) := by decide +kernel

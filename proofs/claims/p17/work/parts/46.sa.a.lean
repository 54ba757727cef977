theorem dX3_stepAt_0 : decode cX3_stepAt 0 = .ok (.iload_n 1, 1) := by decide +kernel
theorem dX3_stepAt_1 : decode cX3_stepAt 1 = .ok (.ifCond .lt 12, 3) := by decide +kernel
theorem dX3_stepAt_4 : decode cX3_stepAt 4 = .ok (.iload_n 1, 1) := by decide +kernel
theorem dX3_stepAt_5 : decode cX3_stepAt 5 = .ok (.aload_n 0, 1) := by decide +kernel
theorem dX3_stepAt_6 : decode cX3_stepAt 6 = .ok (.getfield 11, 3) := by decide +kernel
theorem dX3_stepAt_9 : decode cX3_stepAt 9 = .ok (.arraylength, 1) := by decide +kernel
theorem dX3_stepAt_10 : decode cX3_stepAt 10 = .ok (.if_icmp .lt 8, 3) := by decide +kernel
theorem dX3_stepAt_13 : decode cX3_stepAt 13 = .ok (.aload_n 0, 1) := by decide +kernel
theorem dX3_stepAt_14 : decode cX3_stepAt 14 = .ok (.getfield 18, 3) := by decide +kernel
theorem dX3_stepAt_17 : decode cX3_stepAt 17 = .ok (.areturn, 1) := by decide +kernel
theorem dX3_stepAt_18 : decode cX3_stepAt 18 = .ok (.aload_n 0, 1) := by decide +kernel
theorem dX3_stepAt_19 : decode cX3_stepAt 19 = .ok (.getfield 11, 3) := by decide +kernel
theorem dX3_stepAt_22 : decode cX3_stepAt 22 = .ok (.iload_n 1, 1) := by decide +kernel
theorem dX3_stepAt_23 : decode cX3_stepAt 23 = .ok (.aaload, 1) := by decide +kernel
theorem dX3_stepAt_24 : decode cX3_stepAt 24 = .ok (.astore_n 2, 1) := by decide +kernel
theorem dX3_stepAt_25 : decode cX3_stepAt 25 = .ok (.aload_n 2, 1) := by decide +kernel
theorem dX3_stepAt_26 : decode cX3_stepAt 26 = .ok (.ifnonnull 18, 3) := by decide +kernel
theorem dX3_stepAt_29 : decode cX3_stepAt 29 = .ok (.new 9, 3) := by decide +kernel
theorem dX3_stepAt_32 : decode cX3_stepAt 32 = .ok (.dup, 1) := by decide +kernel
theorem dX3_stepAt_33 : decode cX3_stepAt 33 = .ok (.invokespecial 17, 3) := by decide +kernel
theorem dX3_stepAt_36 : decode cX3_stepAt 36 = .ok (.astore_n 2, 1) := by decide +kernel
theorem dX3_stepAt_37 : decode cX3_stepAt 37 = .ok (.aload_n 0, 1) := by decide +kernel
theorem dX3_stepAt_38 : decode cX3_stepAt 38 = .ok (.getfield 11, 3) := by decide +kernel
theorem dX3_stepAt_41 : decode cX3_stepAt 41 = .ok (.iload_n 1, 1) := by decide +kernel
theorem dX3_stepAt_42 : decode cX3_stepAt 42 = .ok (.aload_n 2, 1) := by decide +kernel
theorem dX3_stepAt_43 : decode cX3_stepAt 43 = .ok (.aastore, 1) := by decide +kernel
theorem dX3_stepAt_44 : decode cX3_stepAt 44 = .ok (.aload_n 2, 1) := by decide +kernel
theorem dX3_stepAt_45 : decode cX3_stepAt 45 = .ok (.areturn, 1) := by decide +kernel

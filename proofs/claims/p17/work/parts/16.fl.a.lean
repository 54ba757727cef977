theorem dJxf58ca_isNaN_12338_0 : decode cJxf58ca_isNaN_12338 0 = .ok (.fload_n 0, 1) := by decide +kernel
theorem dJxf58ca_isNaN_12338_1 : decode cJxf58ca_isNaN_12338 1 = .ok (.fload_n 0, 1) := by decide +kernel
theorem dJxf58ca_isNaN_12338_2 : decode cJxf58ca_isNaN_12338 2 = .ok (.fcmp .l, 1) := by decide +kernel
theorem dJxf58ca_isNaN_12338_3 : decode cJxf58ca_isNaN_12338 3 = .ok (.ifCond .eq 7, 3) := by decide +kernel
theorem dJxf58ca_isNaN_12338_6 : decode cJxf58ca_isNaN_12338 6 = .ok (.iconst 1, 1) := by decide +kernel
theorem dJxf58ca_isNaN_12338_7 : decode cJxf58ca_isNaN_12338 7 = .ok (.goto 4, 3) := by decide +kernel
theorem dJxf58ca_isNaN_12338_10 : decode cJxf58ca_isNaN_12338 10 = .ok (.iconst 0, 1) := by decide +kernel
theorem dJxf58ca_isNaN_12338_11 : decode cJxf58ca_isNaN_12338 11 = .ok (.ireturn, 1) := by decide +kernel
theorem dJxe99ae_isNaN_b9ae7_0 : decode cJxe99ae_isNaN_b9ae7 0 = .ok (.dload_n 0, 1) := by decide +kernel
theorem dJxe99ae_isNaN_b9ae7_1 : decode cJxe99ae_isNaN_b9ae7 1 = .ok (.dload_n 0, 1) := by decide +kernel
theorem dJxe99ae_isNaN_b9ae7_2 : decode cJxe99ae_isNaN_b9ae7 2 = .ok (.dcmp .l, 1) := by decide +kernel
theorem dJxe99ae_isNaN_b9ae7_3 : decode cJxe99ae_isNaN_b9ae7 3 = .ok (.ifCond .eq 7, 3) := by decide +kernel
theorem dJxe99ae_isNaN_b9ae7_6 : decode cJxe99ae_isNaN_b9ae7 6 = .ok (.iconst 1, 1) := by decide +kernel
theorem dJxe99ae_isNaN_b9ae7_7 : decode cJxe99ae_isNaN_b9ae7 7 = .ok (.goto 4, 3) := by decide +kernel
theorem dJxe99ae_isNaN_b9ae7_10 : decode cJxe99ae_isNaN_b9ae7 10 = .ok (.iconst 0, 1) := by decide +kernel
theorem dJxe99ae_isNaN_b9ae7_11 : decode cJxe99ae_isNaN_b9ae7 11 = .ok (.ireturn, 1) := by decide +kernel
theorem dJxf58ca_floatToIntBits_5c35a_0 : decode cJxf58ca_floatToIntBits_5c35a 0 = .ok (.fload_n 0, 1) := by decide +kernel
theorem dJxf58ca_floatToIntBits_5c35a_1 : decode cJxf58ca_floatToIntBits_5c35a 1 = .ok (.invokestatic 59, 3) := by decide +kernel
theorem dJxf58ca_floatToIntBits_5c35a_4 : decode cJxf58ca_floatToIntBits_5c35a 4 = .ok (.ifCond .ne 8, 3) := by decide +kernel
theorem dJxf58ca_floatToIntBits_5c35a_7 : decode cJxf58ca_floatToIntBits_5c35a 7 = .ok (.fload_n 0, 1) := by decide +kernel
theorem dJxf58ca_floatToIntBits_5c35a_8 : decode cJxf58ca_floatToIntBits_5c35a 8 = .ok (.invokestatic 74, 3) := by decide +kernel
theorem dJxf58ca_floatToIntBits_5c35a_11 : decode cJxf58ca_floatToIntBits_5c35a 11 = .ok (.ireturn, 1) := by decide +kernel
theorem dJxf58ca_floatToIntBits_5c35a_12 : decode cJxf58ca_floatToIntBits_5c35a 12 = .ok (.ldc 77, 2) := by decide +kernel
theorem dJxf58ca_floatToIntBits_5c35a_14 : decode cJxf58ca_floatToIntBits_5c35a 14 = .ok (.ireturn, 1) := by decide +kernel
theorem dJxe99ae_doubleToLongBits_ccdee_0 : decode cJxe99ae_doubleToLongBits_ccdee 0 = .ok (.dload_n 0, 1) := by decide +kernel
theorem dJxe99ae_doubleToLongBits_ccdee_1 : decode cJxe99ae_doubleToLongBits_ccdee 1 = .ok (.invokestatic 122, 3) := by decide +kernel
theorem dJxe99ae_doubleToLongBits_ccdee_4 : decode cJxe99ae_doubleToLongBits_ccdee 4 = .ok (.ifCond .ne 8, 3) := by decide +kernel
theorem dJxe99ae_doubleToLongBits_ccdee_7 : decode cJxe99ae_doubleToLongBits_ccdee 7 = .ok (.dload_n 0, 1) := by decide +kernel
theorem dJxe99ae_doubleToLongBits_ccdee_8 : decode cJxe99ae_doubleToLongBits_ccdee 8 = .ok (.invokestatic 134, 3) := by decide +kernel
theorem dJxe99ae_doubleToLongBits_ccdee_11 : decode cJxe99ae_doubleToLongBits_ccdee 11 = .ok (.lreturn, 1) := by decide +kernel
theorem dJxe99ae_doubleToLongBits_ccdee_12 : decode cJxe99ae_doubleToLongBits_ccdee 12 = .ok (.ldc2_w 137, 3) := by decide +kernel
theorem dJxe99ae_doubleToLongBits_ccdee_15 : decode cJxe99ae_doubleToLongBits_ccdee 15 = .ok (.lreturn, 1) := by decide +kernel
theorem dX10_widened_0 : decode cX10_widened 0 = .ok (.iload_n 0, 1) := by decide +kernel
theorem dX10_widened_1 : decode cX10_widened 1 = .ok (.iload_n 3, 1) := by decide +kernel
theorem dX10_widened_2 : decode cX10_widened 2 = .ok (.if_icmp .eq 9, 3) := by decide +kernel
theorem dX10_widened_5 : decode cX10_widened 5 = .ok (.iload_n 3, 1) := by decide +kernel
theorem dX10_widened_6 : decode cX10_widened 6 = .ok (.bipush 6, 2) := by decide +kernel
theorem dX10_widened_8 : decode cX10_widened 8 = .ok (.if_icmp .ge 5, 3) := by decide +kernel
theorem dX10_widened_11 : decode cX10_widened 11 = .ok (.lload_n 1, 1) := by decide +kernel
theorem dX10_widened_12 : decode cX10_widened 12 = .ok (.lreturn, 1) := by decide +kernel
theorem dX10_widened_13 : decode cX10_widened 13 = .ok (.iload_n 0, 1) := by decide +kernel
theorem dX10_widened_14 : decode cX10_widened 14 = .ok (.bipush 6, 2) := by decide +kernel
theorem dX10_widened_16 : decode cX10_widened 16 = .ok (.if_icmp .ne 13, 3) := by decide +kernel
theorem dX10_widened_19 : decode cX10_widened 19 = .ok (.lload_n 1, 1) := by decide +kernel
theorem dX10_widened_20 : decode cX10_widened 20 = .ok (.l2i, 1) := by decide +kernel
theorem dX10_widened_21 : decode cX10_widened 21 = .ok (.invokestatic 241, 3) := by decide +kernel
theorem dX10_widened_24 : decode cX10_widened 24 = .ok (.f2d, 1) := by decide +kernel
theorem dX10_widened_25 : decode cX10_widened 25 = .ok (.invokestatic 247, 3) := by decide +kernel
theorem dX10_widened_28 : decode cX10_widened 28 = .ok (.lreturn, 1) := by decide +kernel
theorem dX10_widened_29 : decode cX10_widened 29 = .ok (.iload_n 3, 1) := by decide +kernel
theorem dX10_widened_30 : decode cX10_widened 30 = .ok (.bipush 6, 2) := by decide +kernel
theorem dX10_widened_32 : decode cX10_widened 32 = .ok (.if_icmp .ne 12, 3) := by decide +kernel
theorem dX10_widened_35 : decode cX10_widened 35 = .ok (.lload_n 1, 1) := by decide +kernel
theorem dX10_widened_36 : decode cX10_widened 36 = .ok (.l2f, 1) := by decide +kernel
theorem dX10_widened_37 : decode cX10_widened 37 = .ok (.invokestatic 253, 3) := by decide +kernel
theorem dX10_widened_40 : decode cX10_widened 40 = .ok (.i2l, 1) := by decide +kernel
theorem dX10_widened_41 : decode cX10_widened 41 = .ok (.goto 8, 3) := by decide +kernel
theorem dX10_widened_44 : decode cX10_widened 44 = .ok (.lload_n 1, 1) := by decide +kernel
theorem dX10_widened_45 : decode cX10_widened 45 = .ok (.l2d, 1) := by decide +kernel
theorem dX10_widened_46 : decode cX10_widened 46 = .ok (.invokestatic 247, 3) := by decide +kernel
theorem dX10_widened_49 : decode cX10_widened 49 = .ok (.lreturn, 1) := by decide +kernel
theorem dX10_whole_0 : decode cX10_whole 0 = .ok (.iload_n 0, 1) := by decide +kernel
theorem dX10_whole_1 : decode cX10_whole 1 = .ok (.bipush 6, 2) := by decide +kernel
theorem dX10_whole_3 : decode cX10_whole 3 = .ok (.if_icmp .ne 12, 3) := by decide +kernel
theorem dX10_whole_6 : decode cX10_whole 6 = .ok (.lload_n 1, 1) := by decide +kernel
theorem dX10_whole_7 : decode cX10_whole 7 = .ok (.l2i, 1) := by decide +kernel
theorem dX10_whole_8 : decode cX10_whole 8 = .ok (.invokestatic 241, 3) := by decide +kernel
theorem dX10_whole_11 : decode cX10_whole 11 = .ok (.f2l, 1) := by decide +kernel
theorem dX10_whole_12 : decode cX10_whole 12 = .ok (.goto 18, 3) := by decide +kernel
theorem dX10_whole_15 : decode cX10_whole 15 = .ok (.iload_n 0, 1) := by decide +kernel
theorem dX10_whole_16 : decode cX10_whole 16 = .ok (.bipush 7, 2) := by decide +kernel
theorem dX10_whole_18 : decode cX10_whole 18 = .ok (.if_icmp .ne 11, 3) := by decide +kernel
theorem dX10_whole_21 : decode cX10_whole 21 = .ok (.lload_n 1, 1) := by decide +kernel
theorem dX10_whole_22 : decode cX10_whole 22 = .ok (.invokestatic 257, 3) := by decide +kernel
theorem dX10_whole_25 : decode cX10_whole 25 = .ok (.d2l, 1) := by decide +kernel
theorem dX10_whole_26 : decode cX10_whole 26 = .ok (.goto 4, 3) := by decide +kernel
theorem dX10_whole_29 : decode cX10_whole 29 = .ok (.lload_n 1, 1) := by decide +kernel
theorem dX10_whole_30 : decode cX10_whole 30 = .ok (.lreturn, 1) := by decide +kernel

theorem dJ1_canEncode_9a6ad_0 : decode cJ1_canEncode_9a6ad 0 = .ok (.iload_n 0, 1) := by decide +kernel
theorem dJ1_canEncode_9a6ad_1 : decode cJ1_canEncode_9a6ad 1 = .ok (.ifCond .lt 14, 3) := by decide +kernel
theorem dJ1_canEncode_9a6ad_4 : decode cJ1_canEncode_9a6ad 4 = .ok (.iload_n 0, 1) := by decide +kernel
theorem dJ1_canEncode_9a6ad_5 : decode cJ1_canEncode_9a6ad 5 = .ok (.sipush 255, 3) := by decide +kernel
theorem dJ1_canEncode_9a6ad_8 : decode cJ1_canEncode_9a6ad 8 = .ok (.if_icmp .gt 7, 3) := by decide +kernel
theorem dJ1_canEncode_9a6ad_11 : decode cJ1_canEncode_9a6ad 11 = .ok (.iconst 1, 1) := by decide +kernel
theorem dJ1_canEncode_9a6ad_12 : decode cJ1_canEncode_9a6ad 12 = .ok (.goto 4, 3) := by decide +kernel
theorem dJ1_canEncode_9a6ad_15 : decode cJ1_canEncode_9a6ad 15 = .ok (.iconst 0, 1) := by decide +kernel
theorem dJ1_canEncode_9a6ad_16 : decode cJ1_canEncode_9a6ad 16 = .ok (.ireturn, 1) := by decide +kernel
theorem dJ1_indexOfChar_4cfef_0 : decode cJ1_indexOfChar_4cfef 0 = .ok (.iload_n 1, 1) := by decide +kernel
theorem dJ1_indexOfChar_4cfef_1 : decode cJ1_indexOfChar_4cfef 1 = .ok (.i2b, 1) := by decide +kernel
theorem dJ1_indexOfChar_4cfef_2 : decode cJ1_indexOfChar_4cfef 2 = .ok (.istore 4, 2) := by decide +kernel
theorem dJ1_indexOfChar_4cfef_4 : decode cJ1_indexOfChar_4cfef 4 = .ok (.iload_n 2, 1) := by decide +kernel
theorem dJ1_indexOfChar_4cfef_5 : decode cJ1_indexOfChar_4cfef 5 = .ok (.istore 5, 2) := by decide +kernel
theorem dJ1_indexOfChar_4cfef_7 : decode cJ1_indexOfChar_4cfef 7 = .ok (.iload 5, 2) := by decide +kernel
theorem dJ1_indexOfChar_4cfef_9 : decode cJ1_indexOfChar_4cfef 9 = .ok (.iload_n 3, 1) := by decide +kernel
theorem dJ1_indexOfChar_4cfef_10 : decode cJ1_indexOfChar_4cfef 10 = .ok (.if_icmp .ge 21, 3) := by decide +kernel
theorem dJ1_indexOfChar_4cfef_13 : decode cJ1_indexOfChar_4cfef 13 = .ok (.aload_n 0, 1) := by decide +kernel
theorem dJ1_indexOfChar_4cfef_14 : decode cJ1_indexOfChar_4cfef 14 = .ok (.iload 5, 2) := by decide +kernel
theorem dJ1_indexOfChar_4cfef_16 : decode cJ1_indexOfChar_4cfef 16 = .ok (.baload, 1) := by decide +kernel
theorem dJ1_indexOfChar_4cfef_17 : decode cJ1_indexOfChar_4cfef 17 = .ok (.iload 4, 2) := by decide +kernel
theorem dJ1_indexOfChar_4cfef_19 : decode cJ1_indexOfChar_4cfef 19 = .ok (.if_icmp .ne 6, 3) := by decide +kernel
theorem dJ1_indexOfChar_4cfef_22 : decode cJ1_indexOfChar_4cfef 22 = .ok (.iload 5, 2) := by decide +kernel
theorem dJ1_indexOfChar_4cfef_24 : decode cJ1_indexOfChar_4cfef 24 = .ok (.ireturn, 1) := by decide +kernel
theorem dJ1_indexOfChar_4cfef_25 : decode cJ1_indexOfChar_4cfef 25 = .ok (.iinc 5 1, 3) := by decide +kernel
theorem dJ1_indexOfChar_4cfef_28 : decode cJ1_indexOfChar_4cfef 28 = .ok (.goto (-21), 3) := by decide +kernel
theorem dJ1_indexOfChar_4cfef_31 : decode cJ1_indexOfChar_4cfef 31 = .ok (.iconst (-1), 1) := by decide +kernel
theorem dJ1_indexOfChar_4cfef_32 : decode cJ1_indexOfChar_4cfef 32 = .ok (.ireturn, 1) := by decide +kernel
theorem dJ1_indexOf_4cfef_0 : decode cJ1_indexOf_4cfef 0 = .ok (.iload_n 1, 1) := by decide +kernel
theorem dJ1_indexOf_4cfef_1 : decode cJ1_indexOf_4cfef 1 = .ok (.invokestatic 88, 3) := by decide +kernel
theorem dJ1_indexOf_4cfef_4 : decode cJ1_indexOf_4cfef 4 = .ok (.ifCond .ne 5, 3) := by decide +kernel
theorem dJ1_indexOf_4cfef_7 : decode cJ1_indexOf_4cfef 7 = .ok (.iconst (-1), 1) := by decide +kernel
theorem dJ1_indexOf_4cfef_8 : decode cJ1_indexOf_4cfef 8 = .ok (.ireturn, 1) := by decide +kernel
theorem dJ1_indexOf_4cfef_9 : decode cJ1_indexOf_4cfef 9 = .ok (.iload_n 2, 1) := by decide +kernel
theorem dJ1_indexOf_4cfef_10 : decode cJ1_indexOf_4cfef 10 = .ok (.iconst 0, 1) := by decide +kernel
theorem dJ1_indexOf_4cfef_11 : decode cJ1_indexOf_4cfef 11 = .ok (.invokestatic 92, 3) := by decide +kernel
theorem dJ1_indexOf_4cfef_14 : decode cJ1_indexOf_4cfef 14 = .ok (.istore_n 2, 1) := by decide +kernel
theorem dJ1_indexOf_4cfef_15 : decode cJ1_indexOf_4cfef 15 = .ok (.iload_n 3, 1) := by decide +kernel
theorem dJ1_indexOf_4cfef_16 : decode cJ1_indexOf_4cfef 16 = .ok (.aload_n 0, 1) := by decide +kernel
theorem dJ1_indexOf_4cfef_17 : decode cJ1_indexOf_4cfef 17 = .ok (.arraylength, 1) := by decide +kernel
theorem dJ1_indexOf_4cfef_18 : decode cJ1_indexOf_4cfef 18 = .ok (.invokestatic 38, 3) := by decide +kernel
theorem dJ1_indexOf_4cfef_21 : decode cJ1_indexOf_4cfef 21 = .ok (.istore_n 3, 1) := by decide +kernel
theorem dJ1_indexOf_4cfef_22 : decode cJ1_indexOf_4cfef 22 = .ok (.iload_n 2, 1) := by decide +kernel
theorem dJ1_indexOf_4cfef_23 : decode cJ1_indexOf_4cfef 23 = .ok (.iload_n 3, 1) := by decide +kernel
theorem dJ1_indexOf_4cfef_24 : decode cJ1_indexOf_4cfef 24 = .ok (.if_icmp .lt 5, 3) := by decide +kernel
theorem dJ1_indexOf_4cfef_27 : decode cJ1_indexOf_4cfef 27 = .ok (.iconst (-1), 1) := by decide +kernel
theorem dJ1_indexOf_4cfef_28 : decode cJ1_indexOf_4cfef 28 = .ok (.ireturn, 1) := by decide +kernel
theorem dJ1_indexOf_4cfef_29 : decode cJ1_indexOf_4cfef 29 = .ok (.aload_n 0, 1) := by decide +kernel
theorem dJ1_indexOf_4cfef_30 : decode cJ1_indexOf_4cfef 30 = .ok (.iload_n 1, 1) := by decide +kernel
theorem dJ1_indexOf_4cfef_31 : decode cJ1_indexOf_4cfef 31 = .ok (.iload_n 2, 1) := by decide +kernel
theorem dJ1_indexOf_4cfef_32 : decode cJ1_indexOf_4cfef 32 = .ok (.iload_n 3, 1) := by decide +kernel
theorem dJ1_indexOf_4cfef_33 : decode cJ1_indexOf_4cfef 33 = .ok (.invokestatic 95, 3) := by decide +kernel
theorem dJ1_indexOf_4cfef_36 : decode cJ1_indexOf_4cfef 36 = .ok (.ireturn, 1) := by decide +kernel
theorem dJ0_indexOf_7cf53_0 : decode cJ0_indexOf_7cf53 0 = .ok (.aload_n 0, 1) := by decide +kernel
theorem dJ0_indexOf_7cf53_1 : decode cJ0_indexOf_7cf53 1 = .ok (.invokevirtual 492, 3) := by decide +kernel
theorem dJ0_indexOf_7cf53_4 : decode cJ0_indexOf_7cf53 4 = .ok (.ifCond .eq 19, 3) := by decide +kernel
theorem dJ0_indexOf_7cf53_7 : decode cJ0_indexOf_7cf53 7 = .ok (.aload_n 0, 1) := by decide +kernel
theorem dJ0_indexOf_7cf53_8 : decode cJ0_indexOf_7cf53 8 = .ok (.getfield 9, 3) := by decide +kernel
theorem dJ0_indexOf_7cf53_11 : decode cJ0_indexOf_7cf53 11 = .ok (.iload_n 1, 1) := by decide +kernel
theorem dJ0_indexOf_7cf53_12 : decode cJ0_indexOf_7cf53 12 = .ok (.iload_n 2, 1) := by decide +kernel
theorem dJ0_indexOf_7cf53_13 : decode cJ0_indexOf_7cf53 13 = .ok (.aload_n 0, 1) := by decide +kernel
theorem dJ0_indexOf_7cf53_14 : decode cJ0_indexOf_7cf53 14 = .ok (.invokevirtual 505, 3) := by decide +kernel
theorem dJ0_indexOf_7cf53_17 : decode cJ0_indexOf_7cf53 17 = .ok (.invokestatic 637, 3) := by decide +kernel
theorem dJ0_indexOf_7cf53_20 : decode cJ0_indexOf_7cf53 20 = .ok (.goto 16, 3) := by decide +kernel
theorem dJ0_indexOf_7cf53_23 : decode cJ0_indexOf_7cf53 23 = .ok (.aload_n 0, 1) := by decide +kernel
theorem dJ0_indexOf_7cf53_24 : decode cJ0_indexOf_7cf53 24 = .ok (.getfield 9, 3) := by decide +kernel
theorem dJ0_indexOf_7cf53_27 : decode cJ0_indexOf_7cf53 27 = .ok (.iload_n 1, 1) := by decide +kernel
theorem dJ0_indexOf_7cf53_28 : decode cJ0_indexOf_7cf53 28 = .ok (.iload_n 2, 1) := by decide +kernel
theorem dJ0_indexOf_7cf53_29 : decode cJ0_indexOf_7cf53 29 = .ok (.aload_n 0, 1) := by decide +kernel
theorem dJ0_indexOf_7cf53_30 : decode cJ0_indexOf_7cf53 30 = .ok (.invokevirtual 505, 3) := by decide +kernel
theorem dJ0_indexOf_7cf53_33 : decode cJ0_indexOf_7cf53 33 = .ok (.invokestatic 640, 3) := by decide +kernel
theorem dJ0_indexOf_7cf53_36 : decode cJ0_indexOf_7cf53 36 = .ok (.ireturn, 1) := by decide +kernel
theorem dJ0_indexOf_0f7a4_0 : decode cJ0_indexOf_0f7a4 0 = .ok (.aload_n 0, 1) := by decide +kernel
theorem dJ0_indexOf_0f7a4_1 : decode cJ0_indexOf_0f7a4 1 = .ok (.iload_n 1, 1) := by decide +kernel
theorem dJ0_indexOf_0f7a4_2 : decode cJ0_indexOf_0f7a4 2 = .ok (.iconst 0, 1) := by decide +kernel
theorem dJ0_indexOf_0f7a4_3 : decode cJ0_indexOf_0f7a4 3 = .ok (.invokevirtual 633, 3) := by decide +kernel
theorem dJ0_indexOf_0f7a4_6 : decode cJ0_indexOf_0f7a4 6 = .ok (.ireturn, 1) := by decide +kernel
theorem dX0_isClass_0 : decode cX0_isClass 0 = .ok (.iload_n 0, 1) := by decide +kernel
theorem dX0_isClass_1 : decode cX0_isClass 1 = .ok (.ifCond .lt 9, 3) := by decide +kernel
theorem dX0_isClass_4 : decode cX0_isClass 4 = .ok (.iload_n 0, 1) := by decide +kernel
theorem dX0_isClass_5 : decode cX0_isClass 5 = .ok (.bipush 80, 2) := by decide +kernel
theorem dX0_isClass_7 : decode cX0_isClass 7 = .ok (.if_icmp .lt 5, 3) := by decide +kernel
theorem dX0_isClass_10 : decode cX0_isClass 10 = .ok (.iconst 0, 1) := by decide +kernel
theorem dX0_isClass_11 : decode cX0_isClass 11 = .ok (.ireturn, 1) := by decide +kernel
theorem dX0_isClass_12 : decode cX0_isClass 12 = .ok (.iload_n 0, 1) := by decide +kernel
theorem dX0_isClass_13 : decode cX0_isClass 13 = .ok (.bipush 20, 2) := by decide +kernel
theorem dX0_isClass_15 : decode cX0_isClass 15 = .ok (.irem, 1) := by decide +kernel
theorem dX0_isClass_16 : decode cX0_isClass 16 = .ok (.istore_n 1, 1) := by decide +kernel
theorem dX0_isClass_17 : decode cX0_isClass 17 = .ok (.iload_n 0, 1) := by decide +kernel
theorem dX0_isClass_18 : decode cX0_isClass 18 = .ok (.bipush 20, 2) := by decide +kernel
theorem dX0_isClass_20 : decode cX0_isClass 20 = .ok (.if_icmp .ge 17, 3) := by decide +kernel
theorem dX0_isClass_23 : decode cX0_isClass 23 = .ok (.iload_n 1, 1) := by decide +kernel
theorem dX0_isClass_24 : decode cX0_isClass 24 = .ok (.bipush 15, 2) := by decide +kernel
theorem dX0_isClass_26 : decode cX0_isClass 26 = .ok (.if_icmp .ge 7, 3) := by decide +kernel
theorem dX0_isClass_29 : decode cX0_isClass 29 = .ok (.iconst 1, 1) := by decide +kernel
theorem dX0_isClass_30 : decode cX0_isClass 30 = .ok (.goto 18, 3) := by decide +kernel
theorem dX0_isClass_33 : decode cX0_isClass 33 = .ok (.iconst 0, 1) := by decide +kernel
theorem dX0_isClass_34 : decode cX0_isClass 34 = .ok (.goto 14, 3) := by decide +kernel
theorem dX0_isClass_37 : decode cX0_isClass 37 = .ok (.iload_n 1, 1) := by decide +kernel
theorem dX0_isClass_38 : decode cX0_isClass 38 = .ok (.bipush 17, 2) := by decide +kernel
theorem dX0_isClass_40 : decode cX0_isClass 40 = .ok (.if_icmp .ge 7, 3) := by decide +kernel
theorem dX0_isClass_43 : decode cX0_isClass 43 = .ok (.iconst 1, 1) := by decide +kernel
theorem dX0_isClass_44 : decode cX0_isClass 44 = .ok (.goto 4, 3) := by decide +kernel
theorem dX0_isClass_47 : decode cX0_isClass 47 = .ok (.iconst 0, 1) := by decide +kernel
theorem dX0_isClass_48 : decode cX0_isClass 48 = .ok (.ireturn, 1) := by decide +kernel
theorem dX0_isArrays_0 : decode cX0_isArrays 0 = .ok (.iload_n 0, 1) := by decide +kernel
theorem dX0_isArrays_1 : decode cX0_isArrays 1 = .ok (.bipush 20, 2) := by decide +kernel
theorem dX0_isArrays_3 : decode cX0_isArrays 3 = .ok (.if_icmp .lt 14, 3) := by decide +kernel
theorem dX0_isArrays_6 : decode cX0_isArrays 6 = .ok (.iload_n 0, 1) := by decide +kernel
theorem dX0_isArrays_7 : decode cX0_isArrays 7 = .ok (.invokestatic 11, 3) := by decide +kernel
theorem dX0_isArrays_10 : decode cX0_isArrays 10 = .ok (.ifCond .eq 7, 3) := by decide +kernel
theorem dX0_isArrays_13 : decode cX0_isArrays 13 = .ok (.iconst 1, 1) := by decide +kernel
theorem dX0_isArrays_14 : decode cX0_isArrays 14 = .ok (.goto 4, 3) := by decide +kernel
theorem dX0_isArrays_17 : decode cX0_isArrays 17 = .ok (.iconst 0, 1) := by decide +kernel
theorem dX0_isArrays_18 : decode cX0_isArrays 18 = .ok (.ireturn, 1) := by decide +kernel
theorem dX0_isNumber_0 : decode cX0_isNumber 0 = .ok (.iload_n 0, 1) := by decide +kernel
theorem dX0_isNumber_1 : decode cX0_isNumber 1 = .ok (.ifCond .lt 13, 3) := by decide +kernel
theorem dX0_isNumber_4 : decode cX0_isNumber 4 = .ok (.iload_n 0, 1) := by decide +kernel
theorem dX0_isNumber_5 : decode cX0_isNumber 5 = .ok (.bipush 8, 2) := by decide +kernel
theorem dX0_isNumber_7 : decode cX0_isNumber 7 = .ok (.if_icmp .ge 7, 3) := by decide +kernel
theorem dX0_isNumber_10 : decode cX0_isNumber 10 = .ok (.iconst 1, 1) := by decide +kernel
theorem dX0_isNumber_11 : decode cX0_isNumber 11 = .ok (.goto 4, 3) := by decide +kernel
theorem dX0_isNumber_14 : decode cX0_isNumber 14 = .ok (.iconst 0, 1) := by decide +kernel
theorem dX0_isNumber_15 : decode cX0_isNumber 15 = .ok (.ireturn, 1) := by decide +kernel
theorem dX0_ofNumbers_0 : decode cX0_ofNumbers 0 = .ok (.iload_n 0, 1) := by decide +kernel
theorem dX0_ofNumbers_1 : decode cX0_ofNumbers 1 = .ok (.bipush 20, 2) := by decide +kernel
theorem dX0_ofNumbers_3 : decode cX0_ofNumbers 3 = .ok (.if_icmp .lt 17, 3) := by decide +kernel
theorem dX0_ofNumbers_6 : decode cX0_ofNumbers 6 = .ok (.iload_n 0, 1) := by decide +kernel
theorem dX0_ofNumbers_7 : decode cX0_ofNumbers 7 = .ok (.bipush 20, 2) := by decide +kernel
theorem dX0_ofNumbers_9 : decode cX0_ofNumbers 9 = .ok (.isub, 1) := by decide +kernel
theorem dX0_ofNumbers_10 : decode cX0_ofNumbers 10 = .ok (.invokestatic 15, 3) := by decide +kernel
theorem dX0_ofNumbers_13 : decode cX0_ofNumbers 13 = .ok (.ifCond .eq 7, 3) := by decide +kernel
theorem dX0_ofNumbers_16 : decode cX0_ofNumbers 16 = .ok (.iconst 1, 1) := by decide +kernel
theorem dX0_ofNumbers_17 : decode cX0_ofNumbers 17 = .ok (.goto 4, 3) := by decide +kernel
theorem dX0_ofNumbers_20 : decode cX0_ofNumbers 20 = .ok (.iconst 0, 1) := by decide +kernel
theorem dX0_ofNumbers_21 : decode cX0_ofNumbers 21 = .ok (.ireturn, 1) := by decide +kernel
theorem dX0_elementsOf_0 : decode cX0_elementsOf 0 = .ok (.iload_n 0, 1) := by decide +kernel
theorem dX0_elementsOf_1 : decode cX0_elementsOf 1 = .ok (.bipush 20, 2) := by decide +kernel
theorem dX0_elementsOf_3 : decode cX0_elementsOf 3 = .ok (.isub, 1) := by decide +kernel
theorem dX0_elementsOf_4 : decode cX0_elementsOf 4 = .ok (.ireturn, 1) := by decide +kernel
theorem dX0_isBelow_0 : decode cX0_isBelow 0 = .ok (.iload_n 0, 1) := by decide +kernel
theorem dX0_isBelow_1 : decode cX0_isBelow 1 = .ok (.iload_n 1, 1) := by decide +kernel
theorem dX0_isBelow_2 : decode cX0_isBelow 2 = .ok (.if_icmp .ne 5, 3) := by decide +kernel
theorem dX0_isBelow_5 : decode cX0_isBelow 5 = .ok (.iconst 1, 1) := by decide +kernel
theorem dX0_isBelow_6 : decode cX0_isBelow 6 = .ok (.ireturn, 1) := by decide +kernel
theorem dX0_isBelow_7 : decode cX0_isBelow 7 = .ok (.iload_n 0, 1) := by decide +kernel
theorem dX0_isBelow_8 : decode cX0_isBelow 8 = .ok (.ifCond .lt 18, 3) := by decide +kernel
theorem dX0_isBelow_11 : decode cX0_isBelow 11 = .ok (.iload_n 1, 1) := by decide +kernel
theorem dX0_isBelow_12 : decode cX0_isBelow 12 = .ok (.ifCond .lt 14, 3) := by decide +kernel
theorem dX0_isBelow_15 : decode cX0_isBelow 15 = .ok (.iload_n 0, 1) := by decide +kernel
theorem dX0_isBelow_16 : decode cX0_isBelow 16 = .ok (.bipush 20, 2) := by decide +kernel
theorem dX0_isBelow_18 : decode cX0_isBelow 18 = .ok (.idiv, 1) := by decide +kernel
theorem dX0_isBelow_19 : decode cX0_isBelow 19 = .ok (.iload_n 1, 1) := by decide +kernel
theorem dX0_isBelow_20 : decode cX0_isBelow 20 = .ok (.bipush 20, 2) := by decide +kernel
theorem dX0_isBelow_22 : decode cX0_isBelow 22 = .ok (.idiv, 1) := by decide +kernel
theorem dX0_isBelow_23 : decode cX0_isBelow 23 = .ok (.if_icmp .eq 5, 3) := by decide +kernel
theorem dX0_isBelow_26 : decode cX0_isBelow 26 = .ok (.iconst 0, 1) := by decide +kernel
theorem dX0_isBelow_27 : decode cX0_isBelow 27 = .ok (.ireturn, 1) := by decide +kernel
theorem dX0_isBelow_28 : decode cX0_isBelow 28 = .ok (.iload_n 0, 1) := by decide +kernel
theorem dX0_isBelow_29 : decode cX0_isBelow 29 = .ok (.bipush 20, 2) := by decide +kernel
theorem dX0_isBelow_31 : decode cX0_isBelow 31 = .ok (.irem, 1) := by decide +kernel
theorem dX0_isBelow_32 : decode cX0_isBelow 32 = .ok (.bipush 8, 2) := by decide +kernel
theorem dX0_isBelow_34 : decode cX0_isBelow 34 = .ok (.isub, 1) := by decide +kernel
theorem dX0_isBelow_35 : decode cX0_isBelow 35 = .ok (.istore_n 2, 1) := by decide +kernel
theorem dX0_isBelow_36 : decode cX0_isBelow 36 = .ok (.iload_n 1, 1) := by decide +kernel
theorem dX0_isBelow_37 : decode cX0_isBelow 37 = .ok (.bipush 20, 2) := by decide +kernel
theorem dX0_isBelow_39 : decode cX0_isBelow 39 = .ok (.irem, 1) := by decide +kernel
theorem dX0_isBelow_40 : decode cX0_isBelow 40 = .ok (.istore_n 3, 1) := by decide +kernel
theorem dX0_isBelow_41 : decode cX0_isBelow 41 = .ok (.iload_n 2, 1) := by decide +kernel
theorem dX0_isBelow_42 : decode cX0_isBelow 42 = .ok (.ifCond .lt 34, 3) := by decide +kernel
theorem dX0_isBelow_45 : decode cX0_isBelow 45 = .ok (.iload_n 2, 1) := by decide +kernel
theorem dX0_isBelow_46 : decode cX0_isBelow 46 = .ok (.getstatic 18, 3) := by decide +kernel
theorem dX0_isBelow_49 : decode cX0_isBelow 49 = .ok (.arraylength, 1) := by decide +kernel
theorem dX0_isBelow_50 : decode cX0_isBelow 50 = .ok (.if_icmp .ge 26, 3) := by decide +kernel
theorem dX0_isBelow_53 : decode cX0_isBelow 53 = .ok (.iload_n 3, 1) := by decide +kernel
theorem dX0_isBelow_54 : decode cX0_isBelow 54 = .ok (.bipush 8, 2) := by decide +kernel
theorem dX0_isBelow_56 : decode cX0_isBelow 56 = .ok (.if_icmp .lt 20, 3) := by decide +kernel
theorem dX0_isBelow_59 : decode cX0_isBelow 59 = .ok (.getstatic 18, 3) := by decide +kernel
theorem dX0_isBelow_62 : decode cX0_isBelow 62 = .ok (.iload_n 2, 1) := by decide +kernel
theorem dX0_isBelow_63 : decode cX0_isBelow 63 = .ok (.iaload, 1) := by decide +kernel
theorem dX0_isBelow_64 : decode cX0_isBelow 64 = .ok (.iload_n 3, 1) := by decide +kernel
theorem dX0_isBelow_65 : decode cX0_isBelow 65 = .ok (.ishr, 1) := by decide +kernel
theorem dX0_isBelow_66 : decode cX0_isBelow 66 = .ok (.iconst 1, 1) := by decide +kernel
theorem dX0_isBelow_67 : decode cX0_isBelow 67 = .ok (.iand, 1) := by decide +kernel
theorem dX0_isBelow_68 : decode cX0_isBelow 68 = .ok (.iconst 1, 1) := by decide +kernel
theorem dX0_isBelow_69 : decode cX0_isBelow 69 = .ok (.if_icmp .ne 7, 3) := by decide +kernel
theorem dX0_isBelow_72 : decode cX0_isBelow 72 = .ok (.iconst 1, 1) := by decide +kernel
theorem dX0_isBelow_73 : decode cX0_isBelow 73 = .ok (.goto 4, 3) := by decide +kernel
theorem dX0_isBelow_76 : decode cX0_isBelow 76 = .ok (.iconst 0, 1) := by decide +kernel
theorem dX0_isBelow_77 : decode cX0_isBelow 77 = .ok (.ireturn, 1) := by decide +kernel
theorem dX0_widens_0 : decode cX0_widens 0 = .ok (.iload_n 0, 1) := by decide +kernel
theorem dX0_widens_1 : decode cX0_widens 1 = .ok (.ifCond .lt 27, 3) := by decide +kernel
theorem dX0_widens_4 : decode cX0_widens 4 = .ok (.iload_n 0, 1) := by decide +kernel
theorem dX0_widens_5 : decode cX0_widens 5 = .ok (.getstatic 22, 3) := by decide +kernel
theorem dX0_widens_8 : decode cX0_widens 8 = .ok (.arraylength, 1) := by decide +kernel
theorem dX0_widens_9 : decode cX0_widens 9 = .ok (.if_icmp .ge 19, 3) := by decide +kernel
theorem dX0_widens_12 : decode cX0_widens 12 = .ok (.iload_n 1, 1) := by decide +kernel
theorem dX0_widens_13 : decode cX0_widens 13 = .ok (.ifCond .lt 15, 3) := by decide +kernel
theorem dX0_widens_16 : decode cX0_widens 16 = .ok (.iload_n 1, 1) := by decide +kernel
theorem dX0_widens_17 : decode cX0_widens 17 = .ok (.getstatic 22, 3) := by decide +kernel
theorem dX0_widens_20 : decode cX0_widens 20 = .ok (.arraylength, 1) := by decide +kernel
theorem dX0_widens_21 : decode cX0_widens 21 = .ok (.if_icmp .ge 7, 3) := by decide +kernel
theorem dX0_widens_24 : decode cX0_widens 24 = .ok (.iconst 1, 1) := by decide +kernel
theorem dX0_widens_25 : decode cX0_widens 25 = .ok (.goto 4, 3) := by decide +kernel
theorem dX0_widens_28 : decode cX0_widens 28 = .ok (.iconst 0, 1) := by decide +kernel
theorem dX0_widens_29 : decode cX0_widens 29 = .ok (.istore_n 2, 1) := by decide +kernel
theorem dX0_widens_30 : decode cX0_widens 30 = .ok (.iload_n 2, 1) := by decide +kernel
theorem dX0_widens_31 : decode cX0_widens 31 = .ok (.ifCond .eq 20, 3) := by decide +kernel
theorem dX0_widens_34 : decode cX0_widens 34 = .ok (.getstatic 22, 3) := by decide +kernel
theorem dX0_widens_37 : decode cX0_widens 37 = .ok (.iload_n 0, 1) := by decide +kernel
theorem dX0_widens_38 : decode cX0_widens 38 = .ok (.iaload, 1) := by decide +kernel
theorem dX0_widens_39 : decode cX0_widens 39 = .ok (.iload_n 1, 1) := by decide +kernel
theorem dX0_widens_40 : decode cX0_widens 40 = .ok (.ishr, 1) := by decide +kernel
theorem dX0_widens_41 : decode cX0_widens 41 = .ok (.iconst 1, 1) := by decide +kernel
theorem dX0_widens_42 : decode cX0_widens 42 = .ok (.iand, 1) := by decide +kernel
theorem dX0_widens_43 : decode cX0_widens 43 = .ok (.iconst 1, 1) := by decide +kernel
theorem dX0_widens_44 : decode cX0_widens 44 = .ok (.if_icmp .ne 7, 3) := by decide +kernel
theorem dX0_widens_47 : decode cX0_widens 47 = .ok (.iconst 1, 1) := by decide +kernel
theorem dX0_widens_48 : decode cX0_widens 48 = .ok (.goto 4, 3) := by decide +kernel
theorem dX0_widens_51 : decode cX0_widens 51 = .ok (.iconst 0, 1) := by decide +kernel
theorem dX0_widens_52 : decode cX0_widens 52 = .ok (.ireturn, 1) := by decide +kernel
theorem dX0_widened_0 : decode cX0_widened 0 = .ok (.iload_n 2, 1) := by decide +kernel
theorem dX0_widened_1 : decode cX0_widened 1 = .ok (.bipush 6, 2) := by decide +kernel
theorem dX0_widened_3 : decode cX0_widened 3 = .ok (.if_icmp .ne 7, 3) := by decide +kernel
theorem dX0_widened_6 : decode cX0_widened 6 = .ok (.lload_n 0, 1) := by decide +kernel
theorem dX0_widened_7 : decode cX0_widened 7 = .ok (.l2f, 1) := by decide +kernel
theorem dX0_widened_8 : decode cX0_widened 8 = .ok (.f2l, 1) := by decide +kernel
theorem dX0_widened_9 : decode cX0_widened 9 = .ok (.lreturn, 1) := by decide +kernel
theorem dX0_widened_10 : decode cX0_widened 10 = .ok (.iload_n 2, 1) := by decide +kernel
theorem dX0_widened_11 : decode cX0_widened 11 = .ok (.bipush 7, 2) := by decide +kernel
theorem dX0_widened_13 : decode cX0_widened 13 = .ok (.if_icmp .ne 9, 3) := by decide +kernel
theorem dX0_widened_16 : decode cX0_widened 16 = .ok (.lload_n 0, 1) := by decide +kernel
theorem dX0_widened_17 : decode cX0_widened 17 = .ok (.l2d, 1) := by decide +kernel
theorem dX0_widened_18 : decode cX0_widened 18 = .ok (.d2l, 1) := by decide +kernel
theorem dX0_widened_19 : decode cX0_widened 19 = .ok (.goto 4, 3) := by decide +kernel
theorem dX0_widened_22 : decode cX0_widened 22 = .ok (.lload_n 0, 1) := by decide +kernel
theorem dX0_widened_23 : decode cX0_widened 23 = .ok (.lreturn, 1) := by decide +kernel
theorem dX0_has_0 : decode cX0_has 0 = .ok (.iload_n 0, 1) := by decide +kernel
theorem dX0_has_1 : decode cX0_has 1 = .ok (.ifCond .lt 11, 3) := by decide +kernel
theorem dX0_has_4 : decode cX0_has 4 = .ok (.iload_n 0, 1) := by decide +kernel
theorem dX0_has_5 : decode cX0_has 5 = .ok (.getstatic 25, 3) := by decide +kernel
theorem dX0_has_8 : decode cX0_has 8 = .ok (.arraylength, 1) := by decide +kernel
theorem dX0_has_9 : decode cX0_has 9 = .ok (.if_icmp .lt 5, 3) := by decide +kernel
theorem dX0_has_12 : decode cX0_has 12 = .ok (.iconst 0, 1) := by decide +kernel
theorem dX0_has_13 : decode cX0_has 13 = .ok (.ireturn, 1) := by decide +kernel
theorem dX0_has_14 : decode cX0_has 14 = .ok (.lload_n 1, 1) := by decide +kernel
theorem dX0_has_15 : decode cX0_has 15 = .ok (.lconst 0, 1) := by decide +kernel
theorem dX0_has_16 : decode cX0_has 16 = .ok (.lcmp, 1) := by decide +kernel
theorem dX0_has_17 : decode cX0_has 17 = .ok (.ifCond .ge 26, 3) := by decide +kernel
theorem dX0_has_20 : decode cX0_has 20 = .ok (.iload_n 3, 1) := by decide +kernel
theorem dX0_has_21 : decode cX0_has 21 = .ok (.ifCond .eq 20, 3) := by decide +kernel
theorem dX0_has_24 : decode cX0_has 24 = .ok (.lload_n 1, 1) := by decide +kernel
theorem dX0_has_25 : decode cX0_has 25 = .ok (.ldc2_w 29, 3) := by decide +kernel
theorem dX0_has_28 : decode cX0_has 28 = .ok (.lcmp, 1) := by decide +kernel
theorem dX0_has_29 : decode cX0_has 29 = .ok (.ifCond .ne 12, 3) := by decide +kernel
theorem dX0_has_32 : decode cX0_has 32 = .ok (.iload_n 0, 1) := by decide +kernel
theorem dX0_has_33 : decode cX0_has 33 = .ok (.iconst 5, 1) := by decide +kernel
theorem dX0_has_34 : decode cX0_has 34 = .ok (.if_icmp .lt 7, 3) := by decide +kernel
theorem dX0_has_37 : decode cX0_has 37 = .ok (.iconst 1, 1) := by decide +kernel
theorem dX0_has_38 : decode cX0_has 38 = .ok (.goto 4, 3) := by decide +kernel
theorem dX0_has_41 : decode cX0_has 41 = .ok (.iconst 0, 1) := by decide +kernel
theorem dX0_has_42 : decode cX0_has 42 = .ok (.ireturn, 1) := by decide +kernel
theorem dX0_has_43 : decode cX0_has 43 = .ok (.iload_n 3, 1) := by decide +kernel
theorem dX0_has_44 : decode cX0_has 44 = .ok (.ifCond .eq 8, 3) := by decide +kernel
theorem dX0_has_47 : decode cX0_has 47 = .ok (.lload_n 1, 1) := by decide +kernel
theorem dX0_has_48 : decode cX0_has 48 = .ok (.lneg, 1) := by decide +kernel
theorem dX0_has_49 : decode cX0_has 49 = .ok (.goto 4, 3) := by decide +kernel
theorem dX0_has_52 : decode cX0_has 52 = .ok (.lload_n 1, 1) := by decide +kernel
theorem dX0_has_53 : decode cX0_has 53 = .ok (.lstore 4, 2) := by decide +kernel
theorem dX0_has_55 : decode cX0_has 55 = .ok (.lload 4, 2) := by decide +kernel
theorem dX0_has_57 : decode cX0_has 57 = .ok (.getstatic 25, 3) := by decide +kernel
theorem dX0_has_60 : decode cX0_has 60 = .ok (.iload_n 0, 1) := by decide +kernel
theorem dX0_has_61 : decode cX0_has 61 = .ok (.laload, 1) := by decide +kernel
theorem dX0_has_62 : decode cX0_has 62 = .ok (.lcmp, 1) := by decide +kernel
theorem dX0_has_63 : decode cX0_has 63 = .ok (.ifCond .lt 18, 3) := by decide +kernel
theorem dX0_has_66 : decode cX0_has 66 = .ok (.lload 4, 2) := by decide +kernel
theorem dX0_has_68 : decode cX0_has 68 = .ok (.getstatic 31, 3) := by decide +kernel
theorem dX0_has_71 : decode cX0_has 71 = .ok (.iload_n 0, 1) := by decide +kernel
theorem dX0_has_72 : decode cX0_has 72 = .ok (.laload, 1) := by decide +kernel
theorem dX0_has_73 : decode cX0_has 73 = .ok (.lcmp, 1) := by decide +kernel
theorem dX0_has_74 : decode cX0_has 74 = .ok (.ifCond .gt 7, 3) := by decide +kernel
theorem dX0_has_77 : decode cX0_has 77 = .ok (.iconst 1, 1) := by decide +kernel
theorem dX0_has_78 : decode cX0_has 78 = .ok (.goto 4, 3) := by decide +kernel
theorem dX0_has_81 : decode cX0_has 81 = .ok (.iconst 0, 1) := by decide +kernel
theorem dX0_has_82 : decode cX0_has 82 = .ok (.ireturn, 1) := by decide +kernel
theorem dX0_writeRefusal_0 : decode cX0_writeRefusal 0 = .ok (.iload_n 0, 1) := by decide +kernel
theorem dX0_writeRefusal_1 : decode cX0_writeRefusal 1 = .ok (.invokestatic 15, 3) := by decide +kernel
theorem dX0_writeRefusal_4 : decode cX0_writeRefusal 4 = .ok (.ifCond .eq 18, 3) := by decide +kernel
theorem dX0_writeRefusal_7 : decode cX0_writeRefusal 7 = .ok (.iload_n 1, 1) := by decide +kernel
theorem dX0_writeRefusal_8 : decode cX0_writeRefusal 8 = .ok (.iload_n 0, 1) := by decide +kernel
theorem dX0_writeRefusal_9 : decode cX0_writeRefusal 9 = .ok (.invokestatic 34, 3) := by decide +kernel
theorem dX0_writeRefusal_12 : decode cX0_writeRefusal 12 = .ok (.ifCond .eq 7, 3) := by decide +kernel
theorem dX0_writeRefusal_15 : decode cX0_writeRefusal 15 = .ok (.iconst 0, 1) := by decide +kernel
theorem dX0_writeRefusal_16 : decode cX0_writeRefusal 16 = .ok (.goto 5, 3) := by decide +kernel
theorem dX0_writeRefusal_19 : decode cX0_writeRefusal 19 = .ok (.bipush 6, 2) := by decide +kernel
theorem dX0_writeRefusal_21 : decode cX0_writeRefusal 21 = .ok (.ireturn, 1) := by decide +kernel
theorem dX0_writeRefusal_22 : decode cX0_writeRefusal 22 = .ok (.iload_n 1, 1) := by decide +kernel
theorem dX0_writeRefusal_23 : decode cX0_writeRefusal 23 = .ok (.iconst (-1), 1) := by decide +kernel
theorem dX0_writeRefusal_24 : decode cX0_writeRefusal 24 = .ok (.if_icmp .ne 5, 3) := by decide +kernel
theorem dX0_writeRefusal_27 : decode cX0_writeRefusal 27 = .ok (.iconst 0, 1) := by decide +kernel
theorem dX0_writeRefusal_28 : decode cX0_writeRefusal 28 = .ok (.ireturn, 1) := by decide +kernel
theorem dX0_writeRefusal_29 : decode cX0_writeRefusal 29 = .ok (.iload_n 1, 1) := by decide +kernel
theorem dX0_writeRefusal_30 : decode cX0_writeRefusal 30 = .ok (.invokestatic 15, 3) := by decide +kernel
theorem dX0_writeRefusal_33 : decode cX0_writeRefusal 33 = .ok (.ifCond .eq 6, 3) := by decide +kernel
theorem dX0_writeRefusal_36 : decode cX0_writeRefusal 36 = .ok (.bipush 6, 2) := by decide +kernel
theorem dX0_writeRefusal_38 : decode cX0_writeRefusal 38 = .ok (.ireturn, 1) := by decide +kernel
theorem dX0_writeRefusal_39 : decode cX0_writeRefusal 39 = .ok (.iload_n 1, 1) := by decide +kernel
theorem dX0_writeRefusal_40 : decode cX0_writeRefusal 40 = .ok (.iload_n 0, 1) := by decide +kernel
theorem dX0_writeRefusal_41 : decode cX0_writeRefusal 41 = .ok (.invokestatic 38, 3) := by decide +kernel
theorem dX0_writeRefusal_44 : decode cX0_writeRefusal 44 = .ok (.ifCond .eq 7, 3) := by decide +kernel
theorem dX0_writeRefusal_47 : decode cX0_writeRefusal 47 = .ok (.iconst 0, 1) := by decide +kernel
theorem dX0_writeRefusal_48 : decode cX0_writeRefusal 48 = .ok (.goto 4, 3) := by decide +kernel
theorem dX0_writeRefusal_51 : decode cX0_writeRefusal 51 = .ok (.iconst 4, 1) := by decide +kernel
theorem dX0_writeRefusal_52 : decode cX0_writeRefusal 52 = .ok (.ireturn, 1) := by decide +kernel
theorem dX0_areUnlike_0 : decode cX0_areUnlike 0 = .ok (.iload_n 0, 1) := by decide +kernel
theorem dX0_areUnlike_1 : decode cX0_areUnlike 1 = .ok (.iload_n 1, 1) := by decide +kernel
theorem dX0_areUnlike_2 : decode cX0_areUnlike 2 = .ok (.if_icmp .eq 21, 3) := by decide +kernel
theorem dX0_areUnlike_5 : decode cX0_areUnlike 5 = .ok (.iload_n 0, 1) := by decide +kernel
theorem dX0_areUnlike_6 : decode cX0_areUnlike 6 = .ok (.invokestatic 41, 3) := by decide +kernel
theorem dX0_areUnlike_9 : decode cX0_areUnlike 9 = .ok (.ifCond .ne 10, 3) := by decide +kernel
theorem dX0_areUnlike_12 : decode cX0_areUnlike 12 = .ok (.iload_n 1, 1) := by decide +kernel
theorem dX0_areUnlike_13 : decode cX0_areUnlike 13 = .ok (.invokestatic 41, 3) := by decide +kernel
theorem dX0_areUnlike_16 : decode cX0_areUnlike 16 = .ok (.ifCond .eq 7, 3) := by decide +kernel
theorem dX0_areUnlike_19 : decode cX0_areUnlike 19 = .ok (.iconst 1, 1) := by decide +kernel
theorem dX0_areUnlike_20 : decode cX0_areUnlike 20 = .ok (.goto 4, 3) := by decide +kernel
theorem dX0_areUnlike_23 : decode cX0_areUnlike 23 = .ok (.iconst 0, 1) := by decide +kernel
theorem dX0_areUnlike_24 : decode cX0_areUnlike 24 = .ok (.ireturn, 1) := by decide +kernel
theorem dX0_nameBegin_0 : decode cX0_nameBegin 0 = .ok (.iconst 0, 1) := by decide +kernel
theorem dX0_nameBegin_1 : decode cX0_nameBegin 1 = .ok (.istore_n 1, 1) := by decide +kernel
theorem dX0_nameBegin_2 : decode cX0_nameBegin 2 = .ok (.iconst 0, 1) := by decide +kernel
theorem dX0_nameBegin_3 : decode cX0_nameBegin 3 = .ok (.istore_n 2, 1) := by decide +kernel
theorem dX0_nameBegin_4 : decode cX0_nameBegin 4 = .ok (.iload_n 2, 1) := by decide +kernel
theorem dX0_nameBegin_5 : decode cX0_nameBegin 5 = .ok (.ldc 51, 2) := by decide +kernel
theorem dX0_nameBegin_7 : decode cX0_nameBegin 7 = .ok (.invokevirtual 59, 3) := by decide +kernel
theorem dX0_nameBegin_10 : decode cX0_nameBegin 10 = .ok (.if_icmp .ge 30, 3) := by decide +kernel
theorem dX0_nameBegin_13 : decode cX0_nameBegin 13 = .ok (.iload_n 1, 1) := by decide +kernel
theorem dX0_nameBegin_14 : decode cX0_nameBegin 14 = .ok (.iload_n 0, 1) := by decide +kernel
theorem dX0_nameBegin_15 : decode cX0_nameBegin 15 = .ok (.if_icmp .ne 5, 3) := by decide +kernel
theorem dX0_nameBegin_18 : decode cX0_nameBegin 18 = .ok (.iload_n 2, 1) := by decide +kernel
theorem dX0_nameBegin_19 : decode cX0_nameBegin 19 = .ok (.ireturn, 1) := by decide +kernel
theorem dX0_nameBegin_20 : decode cX0_nameBegin 20 = .ok (.ldc 51, 2) := by decide +kernel
theorem dX0_nameBegin_22 : decode cX0_nameBegin 22 = .ok (.iload_n 2, 1) := by decide +kernel
theorem dX0_nameBegin_23 : decode cX0_nameBegin 23 = .ok (.invokevirtual 53, 3) := by decide +kernel
theorem dX0_nameBegin_26 : decode cX0_nameBegin 26 = .ok (.bipush 32, 2) := by decide +kernel
theorem dX0_nameBegin_28 : decode cX0_nameBegin 28 = .ok (.if_icmp .ne 6, 3) := by decide +kernel
theorem dX0_nameBegin_31 : decode cX0_nameBegin 31 = .ok (.iinc 1 1, 3) := by decide +kernel
theorem dX0_nameBegin_34 : decode cX0_nameBegin 34 = .ok (.iinc 2 1, 3) := by decide +kernel
theorem dX0_nameBegin_37 : decode cX0_nameBegin 37 = .ok (.goto (-33), 3) := by decide +kernel
theorem dX0_nameBegin_40 : decode cX0_nameBegin 40 = .ok (.ldc 51, 2) := by decide +kernel
theorem dX0_nameBegin_42 : decode cX0_nameBegin 42 = .ok (.invokevirtual 59, 3) := by decide +kernel
theorem dX0_nameBegin_45 : decode cX0_nameBegin 45 = .ok (.ireturn, 1) := by decide +kernel
theorem dX0_nameLength_0 : decode cX0_nameLength 0 = .ok (.iconst 0, 1) := by decide +kernel
theorem dX0_nameLength_1 : decode cX0_nameLength 1 = .ok (.istore_n 1, 1) := by decide +kernel
theorem dX0_nameLength_2 : decode cX0_nameLength 2 = .ok (.iload_n 0, 1) := by decide +kernel
theorem dX0_nameLength_3 : decode cX0_nameLength 3 = .ok (.iload_n 1, 1) := by decide +kernel
theorem dX0_nameLength_4 : decode cX0_nameLength 4 = .ok (.iadd, 1) := by decide +kernel
theorem dX0_nameLength_5 : decode cX0_nameLength 5 = .ok (.ldc 51, 2) := by decide +kernel
theorem dX0_nameLength_7 : decode cX0_nameLength 7 = .ok (.invokevirtual 59, 3) := by decide +kernel
theorem dX0_nameLength_10 : decode cX0_nameLength 10 = .ok (.if_icmp .ge 22, 3) := by decide +kernel
theorem dX0_nameLength_13 : decode cX0_nameLength 13 = .ok (.ldc 51, 2) := by decide +kernel
theorem dX0_nameLength_15 : decode cX0_nameLength 15 = .ok (.iload_n 0, 1) := by decide +kernel
theorem dX0_nameLength_16 : decode cX0_nameLength 16 = .ok (.iload_n 1, 1) := by decide +kernel
theorem dX0_nameLength_17 : decode cX0_nameLength 17 = .ok (.iadd, 1) := by decide +kernel
theorem dX0_nameLength_18 : decode cX0_nameLength 18 = .ok (.invokevirtual 53, 3) := by decide +kernel
theorem dX0_nameLength_21 : decode cX0_nameLength 21 = .ok (.bipush 32, 2) := by decide +kernel
theorem dX0_nameLength_23 : decode cX0_nameLength 23 = .ok (.if_icmp .eq 9, 3) := by decide +kernel
theorem dX0_nameLength_26 : decode cX0_nameLength 26 = .ok (.iinc 1 1, 3) := by decide +kernel
theorem dX0_nameLength_29 : decode cX0_nameLength 29 = .ok (.goto (-27), 3) := by decide +kernel
theorem dX0_nameLength_32 : decode cX0_nameLength 32 = .ok (.iload_n 1, 1) := by decide +kernel
theorem dX0_nameLength_33 : decode cX0_nameLength 33 = .ok (.ireturn, 1) := by decide +kernel
theorem dX0_nameByte_0 : decode cX0_nameByte 0 = .ok (.iload_n 0, 1) := by decide +kernel
theorem dX0_nameByte_1 : decode cX0_nameByte 1 = .ok (.bipush 20, 2) := by decide +kernel
theorem dX0_nameByte_3 : decode cX0_nameByte 3 = .ok (.irem, 1) := by decide +kernel
theorem dX0_nameByte_4 : decode cX0_nameByte 4 = .ok (.invokestatic 44, 3) := by decide +kernel
theorem dX0_nameByte_7 : decode cX0_nameByte 7 = .ok (.istore_n 2, 1) := by decide +kernel
theorem dX0_nameByte_8 : decode cX0_nameByte 8 = .ok (.iload_n 2, 1) := by decide +kernel
theorem dX0_nameByte_9 : decode cX0_nameByte 9 = .ok (.invokestatic 48, 3) := by decide +kernel
theorem dX0_nameByte_12 : decode cX0_nameByte 12 = .ok (.istore_n 3, 1) := by decide +kernel
theorem dX0_nameByte_13 : decode cX0_nameByte 13 = .ok (.iload_n 1, 1) := by decide +kernel
theorem dX0_nameByte_14 : decode cX0_nameByte 14 = .ok (.ifCond .lt 15, 3) := by decide +kernel
theorem dX0_nameByte_17 : decode cX0_nameByte 17 = .ok (.iload_n 1, 1) := by decide +kernel
theorem dX0_nameByte_18 : decode cX0_nameByte 18 = .ok (.iload_n 3, 1) := by decide +kernel
theorem dX0_nameByte_19 : decode cX0_nameByte 19 = .ok (.iconst 2, 1) := by decide +kernel
theorem dX0_nameByte_20 : decode cX0_nameByte 20 = .ok (.iload_n 0, 1) := by decide +kernel
theorem dX0_nameByte_21 : decode cX0_nameByte 21 = .ok (.bipush 20, 2) := by decide +kernel
theorem dX0_nameByte_23 : decode cX0_nameByte 23 = .ok (.idiv, 1) := by decide +kernel
theorem dX0_nameByte_24 : decode cX0_nameByte 24 = .ok (.imul, 1) := by decide +kernel
theorem dX0_nameByte_25 : decode cX0_nameByte 25 = .ok (.iadd, 1) := by decide +kernel
theorem dX0_nameByte_26 : decode cX0_nameByte 26 = .ok (.if_icmp .lt 5, 3) := by decide +kernel
theorem dX0_nameByte_29 : decode cX0_nameByte 29 = .ok (.iconst (-1), 1) := by decide +kernel
theorem dX0_nameByte_30 : decode cX0_nameByte 30 = .ok (.ireturn, 1) := by decide +kernel
theorem dX0_nameByte_31 : decode cX0_nameByte 31 = .ok (.iload_n 1, 1) := by decide +kernel
theorem dX0_nameByte_32 : decode cX0_nameByte 32 = .ok (.iload_n 3, 1) := by decide +kernel
theorem dX0_nameByte_33 : decode cX0_nameByte 33 = .ok (.if_icmp .ge 12, 3) := by decide +kernel
theorem dX0_nameByte_36 : decode cX0_nameByte 36 = .ok (.ldc 51, 2) := by decide +kernel
theorem dX0_nameByte_38 : decode cX0_nameByte 38 = .ok (.iload_n 2, 1) := by decide +kernel
theorem dX0_nameByte_39 : decode cX0_nameByte 39 = .ok (.iload_n 1, 1) := by decide +kernel
theorem dX0_nameByte_40 : decode cX0_nameByte 40 = .ok (.iadd, 1) := by decide +kernel
theorem dX0_nameByte_41 : decode cX0_nameByte 41 = .ok (.invokevirtual 53, 3) := by decide +kernel
theorem dX0_nameByte_44 : decode cX0_nameByte 44 = .ok (.ireturn, 1) := by decide +kernel
theorem dX0_nameByte_45 : decode cX0_nameByte 45 = .ok (.iload_n 1, 1) := by decide +kernel
theorem dX0_nameByte_46 : decode cX0_nameByte 46 = .ok (.iload_n 3, 1) := by decide +kernel
theorem dX0_nameByte_47 : decode cX0_nameByte 47 = .ok (.isub, 1) := by decide +kernel
theorem dX0_nameByte_48 : decode cX0_nameByte 48 = .ok (.iconst 2, 1) := by decide +kernel
theorem dX0_nameByte_49 : decode cX0_nameByte 49 = .ok (.irem, 1) := by decide +kernel
theorem dX0_nameByte_50 : decode cX0_nameByte 50 = .ok (.ifCond .ne 8, 3) := by decide +kernel
theorem dX0_nameByte_53 : decode cX0_nameByte 53 = .ok (.bipush 91, 2) := by decide +kernel
theorem dX0_nameByte_55 : decode cX0_nameByte 55 = .ok (.goto 5, 3) := by decide +kernel
theorem dX0_nameByte_58 : decode cX0_nameByte 58 = .ok (.bipush 93, 2) := by decide +kernel
theorem dX0_nameByte_60 : decode cX0_nameByte 60 = .ok (.ireturn, 1) := by decide +kernel

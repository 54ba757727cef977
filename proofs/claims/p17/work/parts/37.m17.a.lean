theorem dX10_step__0 : decode cX10_step_ 0 = .ok (.aload_n 0, 1) := by decide +kernel
theorem dX10_step__1 : decode cX10_step_ 1 = .ok (.invokevirtual 513, 3) := by decide +kernel
theorem dX10_step__4 : decode cX10_step_ 4 = .ok (.ifCond .ne 11, 3) := by decide +kernel
theorem dX10_step__7 : decode cX10_step_ 7 = .ok (.aload_n 0, 1) := by decide +kernel
theorem dX10_step__8 : decode cX10_step_ 8 = .ok (.iload_n 1, 1) := by decide +kernel
theorem dX10_step__9 : decode cX10_step_ 9 = .ok (.invokevirtual 516, 3) := by decide +kernel
theorem dX10_step__12 : decode cX10_step_ 12 = .ok (.ifCond .ne 5, 3) := by decide +kernel
theorem dX10_step__15 : decode cX10_step_ 15 = .ok (.iconst 0, 1) := by decide +kernel
theorem dX10_step__16 : decode cX10_step_ 16 = .ok (.ireturn, 1) := by decide +kernel
theorem dX10_step__17 : decode cX10_step_ 17 = .ok (.aload_n 0, 1) := by decide +kernel
theorem dX10_step__18 : decode cX10_step_ 18 = .ok (.aload_n 0, 1) := by decide +kernel
theorem dX10_step__19 : decode cX10_step_ 19 = .ok (.getfield 510, 3) := by decide +kernel
theorem dX10_step__22 : decode cX10_step_ 22 = .ok (.iload_n 1, 1) := by decide +kernel
theorem dX10_step__23 : decode cX10_step_ 23 = .ok (.invokevirtual 519, 3) := by decide +kernel
theorem dX10_step__26 : decode cX10_step_ 26 = .ok (.iconst 1, 1) := by decide +kernel
theorem dX10_step__27 : decode cX10_step_ 27 = .ok (.ireturn, 1) := by decide +kernel
theorem dX10_goes_0 : decode cX10_goes 0 = .ok (.iload_n 1, 1) := by decide +kernel
theorem dX10_goes_1 : decode cX10_goes 1 = .ok (.ifCond .lt 9, 3) := by decide +kernel
theorem dX10_goes_4 : decode cX10_goes 4 = .ok (.iload_n 1, 1) := by decide +kernel
theorem dX10_goes_5 : decode cX10_goes 5 = .ok (.bipush 25, 2) := by decide +kernel
theorem dX10_goes_7 : decode cX10_goes 7 = .ok (.if_icmp .le 5, 3) := by decide +kernel
theorem dX10_goes_10 : decode cX10_goes 10 = .ok (.iconst 0, 1) := by decide +kernel
theorem dX10_goes_11 : decode cX10_goes 11 = .ok (.ireturn, 1) := by decide +kernel
theorem dX10_goes_12 : decode cX10_goes 12 = .ok (.aload_n 0, 1) := by decide +kernel
theorem dX10_goes_13 : decode cX10_goes 13 = .ok (.iload_n 1, 1) := by decide +kernel
theorem dX10_goes_14 : decode cX10_goes 14 = .ok (.invokevirtual 502, 3) := by decide +kernel
theorem dX10_goes_17 : decode cX10_goes 17 = .ok (.iload_n 2, 1) := by decide +kernel
theorem dX10_goes_18 : decode cX10_goes 18 = .ok (.iconst (-1), 1) := by decide +kernel
theorem dX10_goes_19 : decode cX10_goes 19 = .ok (.if_icmp .ne 5, 3) := by decide +kernel
theorem dX10_goes_22 : decode cX10_goes 22 = .ok (.iconst 1, 1) := by decide +kernel
theorem dX10_goes_23 : decode cX10_goes 23 = .ok (.ireturn, 1) := by decide +kernel
theorem dX10_goes_24 : decode cX10_goes 24 = .ok (.aload_n 0, 1) := by decide +kernel
theorem dX10_goes_25 : decode cX10_goes 25 = .ok (.iload_n 2, 1) := by decide +kernel
theorem dX10_goes_26 : decode cX10_goes 26 = .ok (.invokevirtual 616, 3) := by decide +kernel
theorem dX10_goes_29 : decode cX10_goes 29 = .ok (.ifCond .ne 5, 3) := by decide +kernel
theorem dX10_goes_32 : decode cX10_goes 32 = .ok (.iconst 0, 1) := by decide +kernel
theorem dX10_goes_33 : decode cX10_goes 33 = .ok (.ireturn, 1) := by decide +kernel
theorem dX10_goes_34 : decode cX10_goes 34 = .ok (.iload_n 3, 1) := by decide +kernel
theorem dX10_goes_35 : decode cX10_goes 35 = .ok (.iconst (-1), 1) := by decide +kernel
theorem dX10_goes_36 : decode cX10_goes 36 = .ok (.if_icmp .ne 5, 3) := by decide +kernel
theorem dX10_goes_39 : decode cX10_goes 39 = .ok (.iconst 1, 1) := by decide +kernel
theorem dX10_goes_40 : decode cX10_goes 40 = .ok (.ireturn, 1) := by decide +kernel
theorem dX10_goes_41 : decode cX10_goes 41 = .ok (.aload_n 0, 1) := by decide +kernel
theorem dX10_goes_42 : decode cX10_goes 42 = .ok (.iload_n 3, 1) := by decide +kernel
theorem dX10_goes_43 : decode cX10_goes 43 = .ok (.invokevirtual 616, 3) := by decide +kernel
theorem dX10_goes_46 : decode cX10_goes 46 = .ok (.ifCond .ne 5, 3) := by decide +kernel
theorem dX10_goes_49 : decode cX10_goes 49 = .ok (.iconst 0, 1) := by decide +kernel
theorem dX10_goes_50 : decode cX10_goes 50 = .ok (.ireturn, 1) := by decide +kernel
theorem dX10_goes_51 : decode cX10_goes 51 = .ok (.iload 4, 2) := by decide +kernel
theorem dX10_goes_53 : decode cX10_goes 53 = .ok (.iconst (-1), 1) := by decide +kernel
theorem dX10_goes_54 : decode cX10_goes 54 = .ok (.if_icmp .eq 12, 3) := by decide +kernel
theorem dX10_goes_57 : decode cX10_goes 57 = .ok (.aload_n 0, 1) := by decide +kernel
theorem dX10_goes_58 : decode cX10_goes 58 = .ok (.iload 4, 2) := by decide +kernel
theorem dX10_goes_60 : decode cX10_goes 60 = .ok (.invokevirtual 616, 3) := by decide +kernel
theorem dX10_goes_63 : decode cX10_goes 63 = .ok (.ifCond .eq 7, 3) := by decide +kernel
theorem dX10_goes_66 : decode cX10_goes 66 = .ok (.iconst 1, 1) := by decide +kernel
theorem dX10_goes_67 : decode cX10_goes 67 = .ok (.goto 4, 3) := by decide +kernel
theorem dX10_goes_70 : decode cX10_goes 70 = .ok (.iconst 0, 1) := by decide +kernel
theorem dX10_goes_71 : decode cX10_goes 71 = .ok (.ireturn, 1) := by decide +kernel
theorem dX10_look_0 : decode cX10_look 0 = .ok (.aload_n 0, 1) := by decide +kernel
theorem dX10_look_1 : decode cX10_look 1 = .ok (.iconst 0, 1) := by decide +kernel
theorem dX10_look_2 : decode cX10_look 2 = .ok (.putfield 122, 3) := by decide +kernel
theorem dX10_look_5 : decode cX10_look 5 = .ok (.aload_n 0, 1) := by decide +kernel
theorem dX10_look_6 : decode cX10_look 6 = .ok (.iload_n 1, 1) := by decide +kernel
theorem dX10_look_7 : decode cX10_look 7 = .ok (.iload_n 2, 1) := by decide +kernel
theorem dX10_look_8 : decode cX10_look 8 = .ok (.iload_n 3, 1) := by decide +kernel
theorem dX10_look_9 : decode cX10_look 9 = .ok (.iload 4, 2) := by decide +kernel
theorem dX10_look_11 : decode cX10_look 11 = .ok (.invokevirtual 619, 3) := by decide +kernel
theorem dX10_look_14 : decode cX10_look 14 = .ok (.istore 6, 2) := by decide +kernel
theorem dX10_look_16 : decode cX10_look 16 = .ok (.iload 5, 2) := by decide +kernel
theorem dX10_look_18 : decode cX10_look 18 = .ok (.ifCond .ne 18, 3) := by decide +kernel
theorem dX10_look_21 : decode cX10_look 21 = .ok (.iload 6, 2) := by decide +kernel
theorem dX10_look_23 : decode cX10_look 23 = .ok (.ifCond .eq 10, 3) := by decide +kernel
theorem dX10_look_26 : decode cX10_look 26 = .ok (.aload_n 0, 1) := by decide +kernel
theorem dX10_look_27 : decode cX10_look 27 = .ok (.invokevirtual 531, 3) := by decide +kernel
theorem dX10_look_30 : decode cX10_look 30 = .ok (.goto 5, 3) := by decide +kernel
theorem dX10_look_33 : decode cX10_look 33 = .ok (.bipush (-2), 2) := by decide +kernel
theorem dX10_look_35 : decode cX10_look 35 = .ok (.ireturn, 1) := by decide +kernel
theorem dX10_look_36 : decode cX10_look 36 = .ok (.iload 5, 2) := by decide +kernel
theorem dX10_look_38 : decode cX10_look 38 = .ok (.iconst 1, 1) := by decide +kernel
theorem dX10_look_39 : decode cX10_look 39 = .ok (.if_icmp .ne 29, 3) := by decide +kernel
theorem dX10_look_42 : decode cX10_look 42 = .ok (.iload 6, 2) := by decide +kernel
theorem dX10_look_44 : decode cX10_look 44 = .ok (.ifCond .eq 24, 3) := by decide +kernel
theorem dX10_look_47 : decode cX10_look 47 = .ok (.aload_n 0, 1) := by decide +kernel
theorem dX10_look_48 : decode cX10_look 48 = .ok (.getfield 493, 3) := by decide +kernel
theorem dX10_look_51 : decode cX10_look 51 = .ok (.iconst 3, 1) := by decide +kernel
theorem dX10_look_52 : decode cX10_look 52 = .ok (.if_icmp .ne 16, 3) := by decide +kernel
theorem dX10_look_55 : decode cX10_look 55 = .ok (.aload_n 0, 1) := by decide +kernel
theorem dX10_look_56 : decode cX10_look 56 = .ok (.getfield 83, 3) := by decide +kernel
theorem dX10_look_59 : decode cX10_look 59 = .ok (.aload_n 0, 1) := by decide +kernel
theorem dX10_look_60 : decode cX10_look 60 = .ok (.getfield 499, 3) := by decide +kernel
theorem dX10_look_63 : decode cX10_look 63 = .ok (.l2i, 1) := by decide +kernel
theorem dX10_look_64 : decode cX10_look 64 = .ok (.iaload, 1) := by decide +kernel
theorem dX10_look_65 : decode cX10_look 65 = .ok (.goto 4, 3) := by decide +kernel
theorem dX10_look_68 : decode cX10_look 68 = .ok (.iconst (-1), 1) := by decide +kernel
theorem dX10_look_69 : decode cX10_look 69 = .ok (.ireturn, 1) := by decide +kernel
theorem dX10_value_0 : decode cX10_value 0 = .ok (.aload_n 0, 1) := by decide +kernel
theorem dX10_value_1 : decode cX10_value 1 = .ok (.iload_n 1, 1) := by decide +kernel
theorem dX10_value_2 : decode cX10_value 2 = .ok (.iload_n 2, 1) := by decide +kernel
theorem dX10_value_3 : decode cX10_value 3 = .ok (.iload_n 3, 1) := by decide +kernel
theorem dX10_value_4 : decode cX10_value 4 = .ok (.iload 4, 2) := by decide +kernel
theorem dX10_value_6 : decode cX10_value 6 = .ok (.invokevirtual 619, 3) := by decide +kernel
theorem dX10_value_9 : decode cX10_value 9 = .ok (.ifCond .eq 15, 3) := by decide +kernel
theorem dX10_value_12 : decode cX10_value 12 = .ok (.aload_n 0, 1) := by decide +kernel
theorem dX10_value_13 : decode cX10_value 13 = .ok (.getfield 493, 3) := by decide +kernel
theorem dX10_value_16 : decode cX10_value 16 = .ok (.iconst 1, 1) := by decide +kernel
theorem dX10_value_17 : decode cX10_value 17 = .ok (.if_icmp .ne 7, 3) := by decide +kernel
theorem dX10_value_20 : decode cX10_value 20 = .ok (.iconst 1, 1) := by decide +kernel
theorem dX10_value_21 : decode cX10_value 21 = .ok (.goto 4, 3) := by decide +kernel
theorem dX10_value_24 : decode cX10_value 24 = .ok (.iconst 0, 1) := by decide +kernel
theorem dX10_value_25 : decode cX10_value 25 = .ok (.istore 5, 2) := by decide +kernel
theorem dX10_value_27 : decode cX10_value 27 = .ok (.aload_n 0, 1) := by decide +kernel
theorem dX10_value_28 : decode cX10_value 28 = .ok (.iload 5, 2) := by decide +kernel
theorem dX10_value_30 : decode cX10_value 30 = .ok (.ifCond .eq 7, 3) := by decide +kernel
theorem dX10_value_33 : decode cX10_value 33 = .ok (.iconst 0, 1) := by decide +kernel
theorem dX10_value_34 : decode cX10_value 34 = .ok (.goto 4, 3) := by decide +kernel
theorem dX10_value_37 : decode cX10_value 37 = .ok (.iconst 1, 1) := by decide +kernel
theorem dX10_value_38 : decode cX10_value 38 = .ok (.putfield 122, 3) := by decide +kernel
theorem dX10_value_41 : decode cX10_value 41 = .ok (.iload 5, 2) := by decide +kernel
theorem dX10_value_43 : decode cX10_value 43 = .ok (.ifCond .eq 17, 3) := by decide +kernel
theorem dX10_value_46 : decode cX10_value 46 = .ok (.aload_n 0, 1) := by decide +kernel
theorem dX10_value_47 : decode cX10_value 47 = .ok (.getfield 496, 3) := by decide +kernel
theorem dX10_value_50 : decode cX10_value 50 = .ok (.aload_n 0, 1) := by decide +kernel
theorem dX10_value_51 : decode cX10_value 51 = .ok (.getfield 499, 3) := by decide +kernel
theorem dX10_value_54 : decode cX10_value 54 = .ok (.invokestatic 554, 3) := by decide +kernel
theorem dX10_value_57 : decode cX10_value 57 = .ok (.goto 4, 3) := by decide +kernel
theorem dX10_value_60 : decode cX10_value 60 = .ok (.lconst 0, 1) := by decide +kernel
theorem dX10_value_61 : decode cX10_value 61 = .ok (.lreturn, 1) := by decide +kernel
theorem dX10_same_0 : decode cX10_same 0 = .ok (.aload_n 0, 1) := by decide +kernel
theorem dX10_same_1 : decode cX10_same 1 = .ok (.iconst 0, 1) := by decide +kernel
theorem dX10_same_2 : decode cX10_same 2 = .ok (.putfield 122, 3) := by decide +kernel
theorem dX10_same_5 : decode cX10_same 5 = .ok (.aload_n 0, 1) := by decide +kernel
theorem dX10_same_6 : decode cX10_same 6 = .ok (.iload_n 1, 1) := by decide +kernel
theorem dX10_same_7 : decode cX10_same 7 = .ok (.iload_n 2, 1) := by decide +kernel
theorem dX10_same_8 : decode cX10_same 8 = .ok (.iconst (-1), 1) := by decide +kernel
theorem dX10_same_9 : decode cX10_same 9 = .ok (.iconst (-1), 1) := by decide +kernel
theorem dX10_same_10 : decode cX10_same 10 = .ok (.invokevirtual 619, 3) := by decide +kernel
theorem dX10_same_13 : decode cX10_same 13 = .ok (.ifCond .ne 5, 3) := by decide +kernel
theorem dX10_same_16 : decode cX10_same 16 = .ok (.iconst 0, 1) := by decide +kernel
theorem dX10_same_17 : decode cX10_same 17 = .ok (.ireturn, 1) := by decide +kernel
theorem dX10_same_18 : decode cX10_same 18 = .ok (.aload_n 0, 1) := by decide +kernel
theorem dX10_same_19 : decode cX10_same 19 = .ok (.getfield 493, 3) := by decide +kernel
theorem dX10_same_22 : decode cX10_same 22 = .ok (.istore 5, 2) := by decide +kernel
theorem dX10_same_24 : decode cX10_same 24 = .ok (.aload_n 0, 1) := by decide +kernel
theorem dX10_same_25 : decode cX10_same 25 = .ok (.getfield 499, 3) := by decide +kernel
theorem dX10_same_28 : decode cX10_same 28 = .ok (.lstore 6, 2) := by decide +kernel
theorem dX10_same_30 : decode cX10_same 30 = .ok (.aload_n 0, 1) := by decide +kernel
theorem dX10_same_31 : decode cX10_same 31 = .ok (.iload_n 3, 1) := by decide +kernel
theorem dX10_same_32 : decode cX10_same 32 = .ok (.iload 4, 2) := by decide +kernel
theorem dX10_same_34 : decode cX10_same 34 = .ok (.iconst (-1), 1) := by decide +kernel
theorem dX10_same_35 : decode cX10_same 35 = .ok (.iconst (-1), 1) := by decide +kernel
theorem dX10_same_36 : decode cX10_same 36 = .ok (.invokevirtual 619, 3) := by decide +kernel
theorem dX10_same_39 : decode cX10_same 39 = .ok (.ifCond .eq 32, 3) := by decide +kernel
theorem dX10_same_42 : decode cX10_same 42 = .ok (.iload 5, 2) := by decide +kernel
theorem dX10_same_44 : decode cX10_same 44 = .ok (.iconst 1, 1) := by decide +kernel
theorem dX10_same_45 : decode cX10_same 45 = .ok (.if_icmp .le 26, 3) := by decide +kernel
theorem dX10_same_48 : decode cX10_same 48 = .ok (.iload 5, 2) := by decide +kernel
theorem dX10_same_50 : decode cX10_same 50 = .ok (.aload_n 0, 1) := by decide +kernel
theorem dX10_same_51 : decode cX10_same 51 = .ok (.getfield 493, 3) := by decide +kernel
theorem dX10_same_54 : decode cX10_same 54 = .ok (.if_icmp .ne 17, 3) := by decide +kernel
theorem dX10_same_57 : decode cX10_same 57 = .ok (.lload 6, 2) := by decide +kernel
theorem dX10_same_59 : decode cX10_same 59 = .ok (.aload_n 0, 1) := by decide +kernel
theorem dX10_same_60 : decode cX10_same 60 = .ok (.getfield 499, 3) := by decide +kernel
theorem dX10_same_63 : decode cX10_same 63 = .ok (.lcmp, 1) := by decide +kernel
theorem dX10_same_64 : decode cX10_same 64 = .ok (.ifCond .ne 7, 3) := by decide +kernel
theorem dX10_same_67 : decode cX10_same 67 = .ok (.iconst 1, 1) := by decide +kernel
theorem dX10_same_68 : decode cX10_same 68 = .ok (.goto 4, 3) := by decide +kernel
theorem dX10_same_71 : decode cX10_same 71 = .ok (.iconst 0, 1) := by decide +kernel
theorem dX10_same_72 : decode cX10_same 72 = .ok (.ireturn, 1) := by decide +kernel
theorem dX10_marked_0 : decode cX10_marked 0 = .ok (.iload_n 1, 1) := by decide +kernel
theorem dX10_marked_1 : decode cX10_marked 1 = .ok (.ifCond .lt 31, 3) := by decide +kernel
theorem dX10_marked_4 : decode cX10_marked 4 = .ok (.iload_n 1, 1) := by decide +kernel
theorem dX10_marked_5 : decode cX10_marked 5 = .ok (.aload_n 0, 1) := by decide +kernel
theorem dX10_marked_6 : decode cX10_marked 6 = .ok (.getfield 478, 3) := by decide +kernel
theorem dX10_marked_9 : decode cX10_marked 9 = .ok (.if_icmp .ge 23, 3) := by decide +kernel
theorem dX10_marked_12 : decode cX10_marked 12 = .ok (.iload_n 1, 1) := by decide +kernel
theorem dX10_marked_13 : decode cX10_marked 13 = .ok (.bipush 50, 2) := by decide +kernel
theorem dX10_marked_15 : decode cX10_marked 15 = .ok (.if_icmp .ge 17, 3) := by decide +kernel
theorem dX10_marked_18 : decode cX10_marked 18 = .ok (.aload_n 0, 1) := by decide +kernel
theorem dX10_marked_19 : decode cX10_marked 19 = .ok (.getfield 107, 3) := by decide +kernel
theorem dX10_marked_22 : decode cX10_marked 22 = .ok (.iload_n 1, 1) := by decide +kernel
theorem dX10_marked_23 : decode cX10_marked 23 = .ok (.iaload, 1) := by decide +kernel
theorem dX10_marked_24 : decode cX10_marked 24 = .ok (.iconst 1, 1) := by decide +kernel
theorem dX10_marked_25 : decode cX10_marked 25 = .ok (.if_icmp .ne 7, 3) := by decide +kernel
theorem dX10_marked_28 : decode cX10_marked 28 = .ok (.iconst 1, 1) := by decide +kernel
theorem dX10_marked_29 : decode cX10_marked 29 = .ok (.goto 4, 3) := by decide +kernel
theorem dX10_marked_32 : decode cX10_marked 32 = .ok (.iconst 0, 1) := by decide +kernel
theorem dX10_marked_33 : decode cX10_marked 33 = .ok (.istore_n 2, 1) := by decide +kernel
theorem dX10_marked_34 : decode cX10_marked 34 = .ok (.aload_n 0, 1) := by decide +kernel
theorem dX10_marked_35 : decode cX10_marked 35 = .ok (.iload_n 2, 1) := by decide +kernel
theorem dX10_marked_36 : decode cX10_marked 36 = .ok (.ifCond .eq 7, 3) := by decide +kernel
theorem dX10_marked_39 : decode cX10_marked 39 = .ok (.iconst 0, 1) := by decide +kernel
theorem dX10_marked_40 : decode cX10_marked 40 = .ok (.goto 4, 3) := by decide +kernel
theorem dX10_marked_43 : decode cX10_marked 43 = .ok (.iconst 1, 1) := by decide +kernel
theorem dX10_marked_44 : decode cX10_marked 44 = .ok (.putfield 122, 3) := by decide +kernel
theorem dX10_marked_47 : decode cX10_marked 47 = .ok (.iload_n 2, 1) := by decide +kernel
theorem dX10_marked_48 : decode cX10_marked 48 = .ok (.ifCond .eq 21, 3) := by decide +kernel
theorem dX10_marked_51 : decode cX10_marked 51 = .ok (.aload_n 0, 1) := by decide +kernel
theorem dX10_marked_52 : decode cX10_marked 52 = .ok (.getfield 110, 3) := by decide +kernel
theorem dX10_marked_55 : decode cX10_marked 55 = .ok (.iload_n 1, 1) := by decide +kernel
theorem dX10_marked_56 : decode cX10_marked 56 = .ok (.iaload, 1) := by decide +kernel
theorem dX10_marked_57 : decode cX10_marked 57 = .ok (.aload_n 0, 1) := by decide +kernel
theorem dX10_marked_58 : decode cX10_marked 58 = .ok (.getfield 116, 3) := by decide +kernel
theorem dX10_marked_61 : decode cX10_marked 61 = .ok (.iload_n 1, 1) := by decide +kernel
theorem dX10_marked_62 : decode cX10_marked 62 = .ok (.laload, 1) := by decide +kernel
theorem dX10_marked_63 : decode cX10_marked 63 = .ok (.invokestatic 554, 3) := by decide +kernel
theorem dX10_marked_66 : decode cX10_marked 66 = .ok (.goto 4, 3) := by decide +kernel
theorem dX10_marked_69 : decode cX10_marked 69 = .ok (.lconst 0, 1) := by decide +kernel
theorem dX10_marked_70 : decode cX10_marked 70 = .ok (.lreturn, 1) := by decide +kernel
theorem dX10_name_0 : decode cX10_name 0 = .ok (.aload_n 0, 1) := by decide +kernel
theorem dX10_name_1 : decode cX10_name 1 = .ok (.iconst 0, 1) := by decide +kernel
theorem dX10_name_2 : decode cX10_name 2 = .ok (.putfield 122, 3) := by decide +kernel
theorem dX10_name_5 : decode cX10_name 5 = .ok (.iload_n 1, 1) := by decide +kernel
theorem dX10_name_6 : decode cX10_name 6 = .ok (.invokestatic 623, 3) := by decide +kernel
theorem dX10_name_9 : decode cX10_name 9 = .ok (.ifCond .eq 7, 3) := by decide +kernel
theorem dX10_name_12 : decode cX10_name 12 = .ok (.iload_n 2, 1) := by decide +kernel
theorem dX10_name_13 : decode cX10_name 13 = .ok (.ifCond .ge 5, 3) := by decide +kernel
theorem dX10_name_16 : decode cX10_name 16 = .ok (.iconst (-1), 1) := by decide +kernel
theorem dX10_name_17 : decode cX10_name 17 = .ok (.ireturn, 1) := by decide +kernel
theorem dX10_name_18 : decode cX10_name 18 = .ok (.iload_n 1, 1) := by decide +kernel
theorem dX10_name_19 : decode cX10_name 19 = .ok (.bipush 20, 2) := by decide +kernel
theorem dX10_name_21 : decode cX10_name 21 = .ok (.irem, 1) := by decide +kernel
theorem dX10_name_22 : decode cX10_name 22 = .ok (.invokestatic 181, 3) := by decide +kernel
theorem dX10_name_25 : decode cX10_name 25 = .ok (.astore_n 3, 1) := by decide +kernel
theorem dX10_name_26 : decode cX10_name 26 = .ok (.iload_n 2, 1) := by decide +kernel
theorem dX10_name_27 : decode cX10_name 27 = .ok (.aload_n 3, 1) := by decide +kernel
theorem dX10_name_28 : decode cX10_name 28 = .ok (.invokevirtual 133, 3) := by decide +kernel
theorem dX10_name_31 : decode cX10_name 31 = .ok (.if_icmp .ge 9, 3) := by decide +kernel
theorem dX10_name_34 : decode cX10_name 34 = .ok (.aload_n 3, 1) := by decide +kernel
theorem dX10_name_35 : decode cX10_name 35 = .ok (.iload_n 2, 1) := by decide +kernel
theorem dX10_name_36 : decode cX10_name 36 = .ok (.invokevirtual 141, 3) := by decide +kernel
theorem dX10_name_39 : decode cX10_name 39 = .ok (.ireturn, 1) := by decide +kernel
theorem dX10_name_40 : decode cX10_name 40 = .ok (.iload_n 2, 1) := by decide +kernel
theorem dX10_name_41 : decode cX10_name 41 = .ok (.aload_n 3, 1) := by decide +kernel
theorem dX10_name_42 : decode cX10_name 42 = .ok (.invokevirtual 133, 3) := by decide +kernel
theorem dX10_name_45 : decode cX10_name 45 = .ok (.isub, 1) := by decide +kernel
theorem dX10_name_46 : decode cX10_name 46 = .ok (.istore 4, 2) := by decide +kernel
theorem dX10_name_48 : decode cX10_name 48 = .ok (.iload 4, 2) := by decide +kernel
theorem dX10_name_50 : decode cX10_name 50 = .ok (.iload_n 1, 1) := by decide +kernel
theorem dX10_name_51 : decode cX10_name 51 = .ok (.bipush 20, 2) := by decide +kernel
theorem dX10_name_53 : decode cX10_name 53 = .ok (.idiv, 1) := by decide +kernel
theorem dX10_name_54 : decode cX10_name 54 = .ok (.iconst 2, 1) := by decide +kernel
theorem dX10_name_55 : decode cX10_name 55 = .ok (.imul, 1) := by decide +kernel
theorem dX10_name_56 : decode cX10_name 56 = .ok (.if_icmp .lt 7, 3) := by decide +kernel
theorem dX10_name_59 : decode cX10_name 59 = .ok (.iconst (-1), 1) := by decide +kernel
theorem dX10_name_60 : decode cX10_name 60 = .ok (.goto 17, 3) := by decide +kernel
theorem dX10_name_63 : decode cX10_name 63 = .ok (.iload 4, 2) := by decide +kernel
theorem dX10_name_65 : decode cX10_name 65 = .ok (.iconst 2, 1) := by decide +kernel
theorem dX10_name_66 : decode cX10_name 66 = .ok (.irem, 1) := by decide +kernel
theorem dX10_name_67 : decode cX10_name 67 = .ok (.ifCond .ne 8, 3) := by decide +kernel
theorem dX10_name_70 : decode cX10_name 70 = .ok (.bipush 91, 2) := by decide +kernel
theorem dX10_name_72 : decode cX10_name 72 = .ok (.goto 5, 3) := by decide +kernel
theorem dX10_name_75 : decode cX10_name 75 = .ok (.bipush 93, 2) := by decide +kernel
theorem dX10_name_77 : decode cX10_name 77 = .ok (.ireturn, 1) := by decide +kernel
theorem dX10_below_0 : decode cX10_below 0 = .ok (.aload_n 0, 1) := by decide +kernel
theorem dX10_below_1 : decode cX10_below 1 = .ok (.iconst 0, 1) := by decide +kernel
theorem dX10_below_2 : decode cX10_below 2 = .ok (.putfield 122, 3) := by decide +kernel
theorem dX10_below_5 : decode cX10_below 5 = .ok (.iload_n 1, 1) := by decide +kernel
theorem dX10_below_6 : decode cX10_below 6 = .ok (.invokestatic 623, 3) := by decide +kernel
theorem dX10_below_9 : decode cX10_below 9 = .ok (.ifCond .eq 22, 3) := by decide +kernel
theorem dX10_below_12 : decode cX10_below 12 = .ok (.iload_n 2, 1) := by decide +kernel
theorem dX10_below_13 : decode cX10_below 13 = .ok (.invokestatic 623, 3) := by decide +kernel
theorem dX10_below_16 : decode cX10_below 16 = .ok (.ifCond .eq 15, 3) := by decide +kernel
theorem dX10_below_19 : decode cX10_below 19 = .ok (.iload_n 1, 1) := by decide +kernel
theorem dX10_below_20 : decode cX10_below 20 = .ok (.iload_n 2, 1) := by decide +kernel
theorem dX10_below_21 : decode cX10_below 21 = .ok (.invokestatic 534, 3) := by decide +kernel
theorem dX10_below_24 : decode cX10_below 24 = .ok (.ifCond .eq 7, 3) := by decide +kernel
theorem dX10_below_27 : decode cX10_below 27 = .ok (.iconst 1, 1) := by decide +kernel
theorem dX10_below_28 : decode cX10_below 28 = .ok (.goto 4, 3) := by decide +kernel
theorem dX10_below_31 : decode cX10_below 31 = .ok (.iconst 0, 1) := by decide +kernel
theorem dX10_below_32 : decode cX10_below 32 = .ok (.ireturn, 1) := by decide +kernel
theorem dX10_stores_0 : decode cX10_stores 0 = .ok (.aload_n 0, 1) := by decide +kernel
theorem dX10_stores_1 : decode cX10_stores 1 = .ok (.iconst 0, 1) := by decide +kernel
theorem dX10_stores_2 : decode cX10_stores 2 = .ok (.putfield 122, 3) := by decide +kernel
theorem dX10_stores_5 : decode cX10_stores 5 = .ok (.iload_n 1, 1) := by decide +kernel
theorem dX10_stores_6 : decode cX10_stores 6 = .ok (.invokestatic 623, 3) := by decide +kernel
theorem dX10_stores_9 : decode cX10_stores 9 = .ok (.ifCond .eq 16, 3) := by decide +kernel
theorem dX10_stores_12 : decode cX10_stores 12 = .ok (.iload_n 1, 1) := by decide +kernel
theorem dX10_stores_13 : decode cX10_stores 13 = .ok (.bipush 20, 2) := by decide +kernel
theorem dX10_stores_15 : decode cX10_stores 15 = .ok (.if_icmp .lt 10, 3) := by decide +kernel
theorem dX10_stores_18 : decode cX10_stores 18 = .ok (.iload_n 2, 1) := by decide +kernel
theorem dX10_stores_19 : decode cX10_stores 19 = .ok (.invokestatic 623, 3) := by decide +kernel
theorem dX10_stores_22 : decode cX10_stores 22 = .ok (.ifCond .ne 5, 3) := by decide +kernel
theorem dX10_stores_25 : decode cX10_stores 25 = .ok (.iconst (-1), 1) := by decide +kernel
theorem dX10_stores_26 : decode cX10_stores 26 = .ok (.ireturn, 1) := by decide +kernel
theorem dX10_stores_27 : decode cX10_stores 27 = .ok (.iload_n 1, 1) := by decide +kernel
theorem dX10_stores_28 : decode cX10_stores 28 = .ok (.invokestatic 525, 3) := by decide +kernel
theorem dX10_stores_31 : decode cX10_stores 31 = .ok (.ifCond .eq 27, 3) := by decide +kernel
theorem dX10_stores_34 : decode cX10_stores 34 = .ok (.iload_n 2, 1) := by decide +kernel
theorem dX10_stores_35 : decode cX10_stores 35 = .ok (.bipush 8, 2) := by decide +kernel
theorem dX10_stores_37 : decode cX10_stores 37 = .ok (.if_icmp .ge 18, 3) := by decide +kernel
theorem dX10_stores_40 : decode cX10_stores 40 = .ok (.iload_n 2, 1) := by decide +kernel
theorem dX10_stores_41 : decode cX10_stores 41 = .ok (.iload_n 1, 1) := by decide +kernel
theorem dX10_stores_42 : decode cX10_stores 42 = .ok (.invokestatic 522, 3) := by decide +kernel
theorem dX10_stores_45 : decode cX10_stores 45 = .ok (.invokestatic 528, 3) := by decide +kernel
theorem dX10_stores_48 : decode cX10_stores 48 = .ok (.ifCond .eq 7, 3) := by decide +kernel
theorem dX10_stores_51 : decode cX10_stores 51 = .ok (.iconst 0, 1) := by decide +kernel
theorem dX10_stores_52 : decode cX10_stores 52 = .ok (.goto 5, 3) := by decide +kernel
theorem dX10_stores_55 : decode cX10_stores 55 = .ok (.bipush 6, 2) := by decide +kernel
theorem dX10_stores_57 : decode cX10_stores 57 = .ok (.ireturn, 1) := by decide +kernel
theorem dX10_stores_58 : decode cX10_stores 58 = .ok (.iload_n 2, 1) := by decide +kernel
theorem dX10_stores_59 : decode cX10_stores 59 = .ok (.bipush 8, 2) := by decide +kernel
theorem dX10_stores_61 : decode cX10_stores 61 = .ok (.if_icmp .ge 6, 3) := by decide +kernel
theorem dX10_stores_64 : decode cX10_stores 64 = .ok (.bipush 6, 2) := by decide +kernel
theorem dX10_stores_66 : decode cX10_stores 66 = .ok (.ireturn, 1) := by decide +kernel
theorem dX10_stores_67 : decode cX10_stores 67 = .ok (.iload_n 2, 1) := by decide +kernel
theorem dX10_stores_68 : decode cX10_stores 68 = .ok (.iload_n 1, 1) := by decide +kernel
theorem dX10_stores_69 : decode cX10_stores 69 = .ok (.invokestatic 522, 3) := by decide +kernel
theorem dX10_stores_72 : decode cX10_stores 72 = .ok (.invokestatic 534, 3) := by decide +kernel
theorem dX10_stores_75 : decode cX10_stores 75 = .ok (.ifCond .eq 7, 3) := by decide +kernel
theorem dX10_stores_78 : decode cX10_stores 78 = .ok (.iconst 0, 1) := by decide +kernel
theorem dX10_stores_79 : decode cX10_stores 79 = .ok (.goto 4, 3) := by decide +kernel
theorem dX10_stores_82 : decode cX10_stores 82 = .ok (.iconst 4, 1) := by decide +kernel
theorem dX10_stores_83 : decode cX10_stores 83 = .ok (.ireturn, 1) := by decide +kernel
theorem dX10_copies__0 : decode cX10_copies_ 0 = .ok (.aload_n 0, 1) := by decide +kernel
theorem dX10_copies__1 : decode cX10_copies_ 1 = .ok (.iconst 0, 1) := by decide +kernel
theorem dX10_copies__2 : decode cX10_copies_ 2 = .ok (.putfield 122, 3) := by decide +kernel
theorem dX10_copies__5 : decode cX10_copies_ 5 = .ok (.aload_n 0, 1) := by decide +kernel
theorem dX10_copies__6 : decode cX10_copies_ 6 = .ok (.iload_n 1, 1) := by decide +kernel
theorem dX10_copies__7 : decode cX10_copies_ 7 = .ok (.iload_n 2, 1) := by decide +kernel
theorem dX10_copies__8 : decode cX10_copies_ 8 = .ok (.invokevirtual 626, 3) := by decide +kernel
theorem dX10_copies__11 : decode cX10_copies_ 11 = .ok (.ifCond .ne 16, 3) := by decide +kernel
theorem dX10_copies__14 : decode cX10_copies_ 14 = .ok (.iload_n 3, 1) := by decide +kernel
theorem dX10_copies__15 : decode cX10_copies_ 15 = .ok (.invokestatic 623, 3) := by decide +kernel
theorem dX10_copies__18 : decode cX10_copies_ 18 = .ok (.ifCond .eq 9, 3) := by decide +kernel
theorem dX10_copies__21 : decode cX10_copies_ 21 = .ok (.iload_n 3, 1) := by decide +kernel
theorem dX10_copies__22 : decode cX10_copies_ 22 = .ok (.bipush 20, 2) := by decide +kernel
theorem dX10_copies__24 : decode cX10_copies_ 24 = .ok (.if_icmp .ge 5, 3) := by decide +kernel
theorem dX10_copies__27 : decode cX10_copies_ 27 = .ok (.iconst (-1), 1) := by decide +kernel
theorem dX10_copies__28 : decode cX10_copies_ 28 = .ok (.ireturn, 1) := by decide +kernel
theorem dX10_copies__29 : decode cX10_copies_ 29 = .ok (.iload_n 1, 1) := by decide +kernel
theorem dX10_copies__30 : decode cX10_copies_ 30 = .ok (.invokestatic 525, 3) := by decide +kernel
theorem dX10_copies__33 : decode cX10_copies_ 33 = .ok (.ifCond .ne 10, 3) := by decide +kernel
theorem dX10_copies__36 : decode cX10_copies_ 36 = .ok (.iload_n 3, 1) := by decide +kernel
theorem dX10_copies__37 : decode cX10_copies_ 37 = .ok (.invokestatic 525, 3) := by decide +kernel
theorem dX10_copies__40 : decode cX10_copies_ 40 = .ok (.ifCond .eq 15, 3) := by decide +kernel
theorem dX10_copies__43 : decode cX10_copies_ 43 = .ok (.iload_n 1, 1) := by decide +kernel
theorem dX10_copies__44 : decode cX10_copies_ 44 = .ok (.iload_n 3, 1) := by decide +kernel
theorem dX10_copies__45 : decode cX10_copies_ 45 = .ok (.if_icmp .ne 7, 3) := by decide +kernel
theorem dX10_copies__48 : decode cX10_copies_ 48 = .ok (.iconst 0, 1) := by decide +kernel
theorem dX10_copies__49 : decode cX10_copies_ 49 = .ok (.goto 5, 3) := by decide +kernel
theorem dX10_copies__52 : decode cX10_copies_ 52 = .ok (.bipush 6, 2) := by decide +kernel
theorem dX10_copies__54 : decode cX10_copies_ 54 = .ok (.ireturn, 1) := by decide +kernel
theorem dX10_copies__55 : decode cX10_copies_ 55 = .ok (.iload_n 2, 1) := by decide +kernel
theorem dX10_copies__56 : decode cX10_copies_ 56 = .ok (.iload_n 3, 1) := by decide +kernel
theorem dX10_copies__57 : decode cX10_copies_ 57 = .ok (.invokestatic 522, 3) := by decide +kernel
theorem dX10_copies__60 : decode cX10_copies_ 60 = .ok (.invokestatic 534, 3) := by decide +kernel
theorem dX10_copies__63 : decode cX10_copies_ 63 = .ok (.ifCond .eq 7, 3) := by decide +kernel
theorem dX10_copies__66 : decode cX10_copies_ 66 = .ok (.iconst 0, 1) := by decide +kernel
theorem dX10_copies__67 : decode cX10_copies_ 67 = .ok (.goto 4, 3) := by decide +kernel
theorem dX10_copies__70 : decode cX10_copies_ 70 = .ok (.iconst 4, 1) := by decide +kernel
theorem dX10_copies__71 : decode cX10_copies_ 71 = .ok (.ireturn, 1) := by decide +kernel

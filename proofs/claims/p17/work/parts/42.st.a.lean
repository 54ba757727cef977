theorem dX7_empty_0 : decode cX7_empty 0 = .ok (.aload_n 0, 1) := by decide +kernel
theorem dX7_empty_1 : decode cX7_empty 1 = .ok (.iconst 1, 1) := by decide +kernel
theorem dX7_empty_2 : decode cX7_empty 2 = .ok (.putfield 25, 3) := by decide +kernel
theorem dX7_empty_5 : decode cX7_empty 5 = .ok (.aload_n 0, 1) := by decide +kernel
theorem dX7_empty_6 : decode cX7_empty 6 = .ok (.iconst 0, 1) := by decide +kernel
theorem dX7_empty_7 : decode cX7_empty 7 = .ok (.putfield 29, 3) := by decide +kernel
theorem dX7_empty_10 : decode cX7_empty 10 = .ok (.aload_n 0, 1) := by decide +kernel
theorem dX7_empty_11 : decode cX7_empty 11 = .ok (.iconst 0, 1) := by decide +kernel
theorem dX7_empty_12 : decode cX7_empty 12 = .ok (.putfield 32, 3) := by decide +kernel
theorem dX7_empty_15 : decode cX7_empty 15 = .ok (.return_, 1) := by decide +kernel
theorem dX7_hasRoom_0 : decode cX7_hasRoom 0 = .ok (.lload_n 3, 1) := by decide +kernel
theorem dX7_hasRoom_1 : decode cX7_hasRoom 1 = .ok (.ldc2_w 35, 3) := by decide +kernel
theorem dX7_hasRoom_4 : decode cX7_hasRoom 4 = .ok (.lcmp, 1) := by decide +kernel
theorem dX7_hasRoom_5 : decode cX7_hasRoom 5 = .ok (.ifCond .gt 35, 3) := by decide +kernel
theorem dX7_hasRoom_8 : decode cX7_hasRoom 8 = .ok (.lload_n 1, 1) := by decide +kernel
theorem dX7_hasRoom_9 : decode cX7_hasRoom 9 = .ok (.sipush 200, 3) := by decide +kernel
theorem dX7_hasRoom_12 : decode cX7_hasRoom 12 = .ok (.aload_n 0, 1) := by decide +kernel
theorem dX7_hasRoom_13 : decode cX7_hasRoom 13 = .ok (.getfield 29, 3) := by decide +kernel
theorem dX7_hasRoom_16 : decode cX7_hasRoom 16 = .ok (.isub, 1) := by decide +kernel
theorem dX7_hasRoom_17 : decode cX7_hasRoom 17 = .ok (.i2l, 1) := by decide +kernel
theorem dX7_hasRoom_18 : decode cX7_hasRoom 18 = .ok (.lcmp, 1) := by decide +kernel
theorem dX7_hasRoom_19 : decode cX7_hasRoom 19 = .ok (.ifCond .gt 21, 3) := by decide +kernel
theorem dX7_hasRoom_22 : decode cX7_hasRoom 22 = .ok (.lload_n 3, 1) := by decide +kernel
theorem dX7_hasRoom_23 : decode cX7_hasRoom 23 = .ok (.sipush 4000, 3) := by decide +kernel
theorem dX7_hasRoom_26 : decode cX7_hasRoom 26 = .ok (.aload_n 0, 1) := by decide +kernel
theorem dX7_hasRoom_27 : decode cX7_hasRoom 27 = .ok (.getfield 32, 3) := by decide +kernel
theorem dX7_hasRoom_30 : decode cX7_hasRoom 30 = .ok (.isub, 1) := by decide +kernel
theorem dX7_hasRoom_31 : decode cX7_hasRoom 31 = .ok (.i2l, 1) := by decide +kernel
theorem dX7_hasRoom_32 : decode cX7_hasRoom 32 = .ok (.lcmp, 1) := by decide +kernel
theorem dX7_hasRoom_33 : decode cX7_hasRoom 33 = .ok (.ifCond .gt 7, 3) := by decide +kernel
theorem dX7_hasRoom_36 : decode cX7_hasRoom 36 = .ok (.iconst 1, 1) := by decide +kernel
theorem dX7_hasRoom_37 : decode cX7_hasRoom 37 = .ok (.goto 4, 3) := by decide +kernel
theorem dX7_hasRoom_40 : decode cX7_hasRoom 40 = .ok (.iconst 0, 1) := by decide +kernel
theorem dX7_hasRoom_41 : decode cX7_hasRoom 41 = .ok (.ireturn, 1) := by decide +kernel
theorem dX7_makeCreature_0 : decode cX7_makeCreature 0 = .ok (.aload_n 0, 1) := by decide +kernel
theorem dX7_makeCreature_1 : decode cX7_makeCreature 1 = .ok (.getfield 25, 3) := by decide +kernel
theorem dX7_makeCreature_4 : decode cX7_makeCreature 4 = .ok (.sipush 301, 3) := by decide +kernel
theorem dX7_makeCreature_7 : decode cX7_makeCreature 7 = .ok (.if_icmp .lt 5, 3) := by decide +kernel
theorem dX7_makeCreature_10 : decode cX7_makeCreature 10 = .ok (.iconst 0, 1) := by decide +kernel
theorem dX7_makeCreature_11 : decode cX7_makeCreature 11 = .ok (.ireturn, 1) := by decide +kernel
theorem dX7_makeCreature_12 : decode cX7_makeCreature 12 = .ok (.aload_n 0, 1) := by decide +kernel
theorem dX7_makeCreature_13 : decode cX7_makeCreature 13 = .ok (.getfield 11, 3) := by decide +kernel
theorem dX7_makeCreature_16 : decode cX7_makeCreature 16 = .ok (.aload_n 0, 1) := by decide +kernel
theorem dX7_makeCreature_17 : decode cX7_makeCreature 17 = .ok (.getfield 25, 3) := by decide +kernel
theorem dX7_makeCreature_20 : decode cX7_makeCreature 20 = .ok (.iload_n 1, 1) := by decide +kernel
theorem dX7_makeCreature_21 : decode cX7_makeCreature 21 = .ok (.iastore, 1) := by decide +kernel
theorem dX7_makeCreature_22 : decode cX7_makeCreature 22 = .ok (.aload_n 0, 1) := by decide +kernel
theorem dX7_makeCreature_23 : decode cX7_makeCreature 23 = .ok (.getfield 15, 3) := by decide +kernel
theorem dX7_makeCreature_26 : decode cX7_makeCreature 26 = .ok (.aload_n 0, 1) := by decide +kernel
theorem dX7_makeCreature_27 : decode cX7_makeCreature 27 = .ok (.getfield 25, 3) := by decide +kernel
theorem dX7_makeCreature_30 : decode cX7_makeCreature 30 = .ok (.iconst 0, 1) := by decide +kernel
theorem dX7_makeCreature_31 : decode cX7_makeCreature 31 = .ok (.iastore, 1) := by decide +kernel
theorem dX7_makeCreature_32 : decode cX7_makeCreature 32 = .ok (.aload_n 0, 1) := by decide +kernel
theorem dX7_makeCreature_33 : decode cX7_makeCreature 33 = .ok (.getfield 18, 3) := by decide +kernel
theorem dX7_makeCreature_36 : decode cX7_makeCreature 36 = .ok (.aload_n 0, 1) := by decide +kernel
theorem dX7_makeCreature_37 : decode cX7_makeCreature 37 = .ok (.getfield 25, 3) := by decide +kernel
theorem dX7_makeCreature_40 : decode cX7_makeCreature 40 = .ok (.iconst 0, 1) := by decide +kernel
theorem dX7_makeCreature_41 : decode cX7_makeCreature 41 = .ok (.iastore, 1) := by decide +kernel
theorem dX7_makeCreature_42 : decode cX7_makeCreature 42 = .ok (.aload_n 0, 1) := by decide +kernel
theorem dX7_makeCreature_43 : decode cX7_makeCreature 43 = .ok (.dup, 1) := by decide +kernel
theorem dX7_makeCreature_44 : decode cX7_makeCreature 44 = .ok (.getfield 25, 3) := by decide +kernel
theorem dX7_makeCreature_47 : decode cX7_makeCreature 47 = .ok (.iconst 1, 1) := by decide +kernel
theorem dX7_makeCreature_48 : decode cX7_makeCreature 48 = .ok (.iadd, 1) := by decide +kernel
theorem dX7_makeCreature_49 : decode cX7_makeCreature 49 = .ok (.putfield 25, 3) := by decide +kernel
theorem dX7_makeCreature_52 : decode cX7_makeCreature 52 = .ok (.aload_n 0, 1) := by decide +kernel
theorem dX7_makeCreature_53 : decode cX7_makeCreature 53 = .ok (.getfield 25, 3) := by decide +kernel
theorem dX7_makeCreature_56 : decode cX7_makeCreature 56 = .ok (.iconst 1, 1) := by decide +kernel
theorem dX7_makeCreature_57 : decode cX7_makeCreature 57 = .ok (.isub, 1) := by decide +kernel
theorem dX7_makeCreature_58 : decode cX7_makeCreature 58 = .ok (.ireturn, 1) := by decide +kernel
theorem dX7_makeArray_0 : decode cX7_makeArray 0 = .ok (.iload_n 2, 1) := by decide +kernel
theorem dX7_makeArray_1 : decode cX7_makeArray 1 = .ok (.ifCond .lt 25, 3) := by decide +kernel
theorem dX7_makeArray_4 : decode cX7_makeArray 4 = .ok (.iload_n 2, 1) := by decide +kernel
theorem dX7_makeArray_5 : decode cX7_makeArray 5 = .ok (.sipush 4000, 3) := by decide +kernel
theorem dX7_makeArray_8 : decode cX7_makeArray 8 = .ok (.aload_n 0, 1) := by decide +kernel
theorem dX7_makeArray_9 : decode cX7_makeArray 9 = .ok (.getfield 32, 3) := by decide +kernel
theorem dX7_makeArray_12 : decode cX7_makeArray 12 = .ok (.isub, 1) := by decide +kernel
theorem dX7_makeArray_13 : decode cX7_makeArray 13 = .ok (.if_icmp .gt 13, 3) := by decide +kernel
theorem dX7_makeArray_16 : decode cX7_makeArray 16 = .ok (.aload_n 0, 1) := by decide +kernel
theorem dX7_makeArray_17 : decode cX7_makeArray 17 = .ok (.getfield 25, 3) := by decide +kernel
theorem dX7_makeArray_20 : decode cX7_makeArray 20 = .ok (.sipush 301, 3) := by decide +kernel
theorem dX7_makeArray_23 : decode cX7_makeArray 23 = .ok (.if_icmp .lt 5, 3) := by decide +kernel
theorem dX7_makeArray_26 : decode cX7_makeArray 26 = .ok (.iconst 0, 1) := by decide +kernel
theorem dX7_makeArray_27 : decode cX7_makeArray 27 = .ok (.ireturn, 1) := by decide +kernel
theorem dX7_makeArray_28 : decode cX7_makeArray 28 = .ok (.aload_n 0, 1) := by decide +kernel
theorem dX7_makeArray_29 : decode cX7_makeArray 29 = .ok (.getfield 11, 3) := by decide +kernel
theorem dX7_makeArray_32 : decode cX7_makeArray 32 = .ok (.aload_n 0, 1) := by decide +kernel
theorem dX7_makeArray_33 : decode cX7_makeArray 33 = .ok (.getfield 25, 3) := by decide +kernel
theorem dX7_makeArray_36 : decode cX7_makeArray 36 = .ok (.iload_n 1, 1) := by decide +kernel
theorem dX7_makeArray_37 : decode cX7_makeArray 37 = .ok (.iastore, 1) := by decide +kernel
theorem dX7_makeArray_38 : decode cX7_makeArray 38 = .ok (.aload_n 0, 1) := by decide +kernel
theorem dX7_makeArray_39 : decode cX7_makeArray 39 = .ok (.getfield 15, 3) := by decide +kernel
theorem dX7_makeArray_42 : decode cX7_makeArray 42 = .ok (.aload_n 0, 1) := by decide +kernel
theorem dX7_makeArray_43 : decode cX7_makeArray 43 = .ok (.getfield 25, 3) := by decide +kernel
theorem dX7_makeArray_46 : decode cX7_makeArray 46 = .ok (.aload_n 0, 1) := by decide +kernel
theorem dX7_makeArray_47 : decode cX7_makeArray 47 = .ok (.getfield 32, 3) := by decide +kernel
theorem dX7_makeArray_50 : decode cX7_makeArray 50 = .ok (.iastore, 1) := by decide +kernel
theorem dX7_makeArray_51 : decode cX7_makeArray 51 = .ok (.aload_n 0, 1) := by decide +kernel
theorem dX7_makeArray_52 : decode cX7_makeArray 52 = .ok (.getfield 18, 3) := by decide +kernel
theorem dX7_makeArray_55 : decode cX7_makeArray 55 = .ok (.aload_n 0, 1) := by decide +kernel
theorem dX7_makeArray_56 : decode cX7_makeArray 56 = .ok (.getfield 25, 3) := by decide +kernel
theorem dX7_makeArray_59 : decode cX7_makeArray 59 = .ok (.iload_n 2, 1) := by decide +kernel
theorem dX7_makeArray_60 : decode cX7_makeArray 60 = .ok (.iastore, 1) := by decide +kernel
theorem dX7_makeArray_61 : decode cX7_makeArray 61 = .ok (.iconst 0, 1) := by decide +kernel
theorem dX7_makeArray_62 : decode cX7_makeArray 62 = .ok (.istore_n 3, 1) := by decide +kernel
theorem dX7_makeArray_63 : decode cX7_makeArray 63 = .ok (.iload_n 3, 1) := by decide +kernel
theorem dX7_makeArray_64 : decode cX7_makeArray 64 = .ok (.iload_n 2, 1) := by decide +kernel
theorem dX7_makeArray_65 : decode cX7_makeArray 65 = .ok (.if_icmp .ge 21, 3) := by decide +kernel
theorem dX7_makeArray_68 : decode cX7_makeArray 68 = .ok (.aload_n 0, 1) := by decide +kernel
theorem dX7_makeArray_69 : decode cX7_makeArray 69 = .ok (.getfield 21, 3) := by decide +kernel
theorem dX7_makeArray_72 : decode cX7_makeArray 72 = .ok (.aload_n 0, 1) := by decide +kernel
theorem dX7_makeArray_73 : decode cX7_makeArray 73 = .ok (.getfield 32, 3) := by decide +kernel
theorem dX7_makeArray_76 : decode cX7_makeArray 76 = .ok (.iload_n 3, 1) := by decide +kernel
theorem dX7_makeArray_77 : decode cX7_makeArray 77 = .ok (.iadd, 1) := by decide +kernel
theorem dX7_makeArray_78 : decode cX7_makeArray 78 = .ok (.lconst 0, 1) := by decide +kernel
theorem dX7_makeArray_79 : decode cX7_makeArray 79 = .ok (.lastore, 1) := by decide +kernel
theorem dX7_makeArray_80 : decode cX7_makeArray 80 = .ok (.iinc 3 1, 3) := by decide +kernel
theorem dX7_makeArray_83 : decode cX7_makeArray 83 = .ok (.goto (-20), 3) := by decide +kernel
theorem dX7_makeArray_86 : decode cX7_makeArray 86 = .ok (.aload_n 0, 1) := by decide +kernel
theorem dX7_makeArray_87 : decode cX7_makeArray 87 = .ok (.dup, 1) := by decide +kernel
theorem dX7_makeArray_88 : decode cX7_makeArray 88 = .ok (.getfield 32, 3) := by decide +kernel
theorem dX7_makeArray_91 : decode cX7_makeArray 91 = .ok (.iload_n 2, 1) := by decide +kernel
theorem dX7_makeArray_92 : decode cX7_makeArray 92 = .ok (.iadd, 1) := by decide +kernel
theorem dX7_makeArray_93 : decode cX7_makeArray 93 = .ok (.putfield 32, 3) := by decide +kernel
theorem dX7_makeArray_96 : decode cX7_makeArray 96 = .ok (.aload_n 0, 1) := by decide +kernel
theorem dX7_makeArray_97 : decode cX7_makeArray 97 = .ok (.dup, 1) := by decide +kernel
theorem dX7_makeArray_98 : decode cX7_makeArray 98 = .ok (.getfield 29, 3) := by decide +kernel
theorem dX7_makeArray_101 : decode cX7_makeArray 101 = .ok (.iconst 1, 1) := by decide +kernel
theorem dX7_makeArray_102 : decode cX7_makeArray 102 = .ok (.iadd, 1) := by decide +kernel
theorem dX7_makeArray_103 : decode cX7_makeArray 103 = .ok (.putfield 29, 3) := by decide +kernel
theorem dX7_makeArray_106 : decode cX7_makeArray 106 = .ok (.aload_n 0, 1) := by decide +kernel
theorem dX7_makeArray_107 : decode cX7_makeArray 107 = .ok (.dup, 1) := by decide +kernel
theorem dX7_makeArray_108 : decode cX7_makeArray 108 = .ok (.getfield 25, 3) := by decide +kernel
theorem dX7_makeArray_111 : decode cX7_makeArray 111 = .ok (.iconst 1, 1) := by decide +kernel
theorem dX7_makeArray_112 : decode cX7_makeArray 112 = .ok (.iadd, 1) := by decide +kernel
theorem dX7_makeArray_113 : decode cX7_makeArray 113 = .ok (.putfield 25, 3) := by decide +kernel
theorem dX7_makeArray_116 : decode cX7_makeArray 116 = .ok (.aload_n 0, 1) := by decide +kernel
theorem dX7_makeArray_117 : decode cX7_makeArray 117 = .ok (.getfield 25, 3) := by decide +kernel
theorem dX7_makeArray_120 : decode cX7_makeArray 120 = .ok (.iconst 1, 1) := by decide +kernel
theorem dX7_makeArray_121 : decode cX7_makeArray 121 = .ok (.isub, 1) := by decide +kernel
theorem dX7_makeArray_122 : decode cX7_makeArray 122 = .ok (.ireturn, 1) := by decide +kernel
theorem dX7_isThing_0 : decode cX7_isThing 0 = .ok (.iload_n 1, 1) := by decide +kernel
theorem dX7_isThing_1 : decode cX7_isThing 1 = .ok (.ifCond .le 15, 3) := by decide +kernel
theorem dX7_isThing_4 : decode cX7_isThing 4 = .ok (.iload_n 1, 1) := by decide +kernel
theorem dX7_isThing_5 : decode cX7_isThing 5 = .ok (.aload_n 0, 1) := by decide +kernel
theorem dX7_isThing_6 : decode cX7_isThing 6 = .ok (.getfield 25, 3) := by decide +kernel
theorem dX7_isThing_9 : decode cX7_isThing 9 = .ok (.if_icmp .ge 7, 3) := by decide +kernel
theorem dX7_isThing_12 : decode cX7_isThing 12 = .ok (.iconst 1, 1) := by decide +kernel
theorem dX7_isThing_13 : decode cX7_isThing 13 = .ok (.goto 4, 3) := by decide +kernel
theorem dX7_isThing_16 : decode cX7_isThing 16 = .ok (.iconst 0, 1) := by decide +kernel
theorem dX7_isThing_17 : decode cX7_isThing 17 = .ok (.ireturn, 1) := by decide +kernel
theorem dX7_lengthOf_0 : decode cX7_lengthOf 0 = .ok (.iload_n 1, 1) := by decide +kernel
theorem dX7_lengthOf_1 : decode cX7_lengthOf 1 = .ok (.ifCond .le 20, 3) := by decide +kernel
theorem dX7_lengthOf_4 : decode cX7_lengthOf 4 = .ok (.iload_n 1, 1) := by decide +kernel
theorem dX7_lengthOf_5 : decode cX7_lengthOf 5 = .ok (.aload_n 0, 1) := by decide +kernel
theorem dX7_lengthOf_6 : decode cX7_lengthOf 6 = .ok (.getfield 25, 3) := by decide +kernel
theorem dX7_lengthOf_9 : decode cX7_lengthOf 9 = .ok (.if_icmp .ge 12, 3) := by decide +kernel
theorem dX7_lengthOf_12 : decode cX7_lengthOf 12 = .ok (.aload_n 0, 1) := by decide +kernel
theorem dX7_lengthOf_13 : decode cX7_lengthOf 13 = .ok (.getfield 18, 3) := by decide +kernel
theorem dX7_lengthOf_16 : decode cX7_lengthOf 16 = .ok (.iload_n 1, 1) := by decide +kernel
theorem dX7_lengthOf_17 : decode cX7_lengthOf 17 = .ok (.iaload, 1) := by decide +kernel
theorem dX7_lengthOf_18 : decode cX7_lengthOf 18 = .ok (.goto 4, 3) := by decide +kernel
theorem dX7_lengthOf_21 : decode cX7_lengthOf 21 = .ok (.iconst 0, 1) := by decide +kernel
theorem dX7_lengthOf_22 : decode cX7_lengthOf 22 = .ok (.ireturn, 1) := by decide +kernel
theorem dX7_hasCell_0 : decode cX7_hasCell 0 = .ok (.iload_n 1, 1) := by decide +kernel
theorem dX7_hasCell_1 : decode cX7_hasCell 1 = .ok (.ifCond .le 29, 3) := by decide +kernel
theorem dX7_hasCell_4 : decode cX7_hasCell 4 = .ok (.iload_n 1, 1) := by decide +kernel
theorem dX7_hasCell_5 : decode cX7_hasCell 5 = .ok (.aload_n 0, 1) := by decide +kernel
theorem dX7_hasCell_6 : decode cX7_hasCell 6 = .ok (.getfield 25, 3) := by decide +kernel
theorem dX7_hasCell_9 : decode cX7_hasCell 9 = .ok (.if_icmp .ge 21, 3) := by decide +kernel
theorem dX7_hasCell_12 : decode cX7_hasCell 12 = .ok (.iload_n 2, 1) := by decide +kernel
theorem dX7_hasCell_13 : decode cX7_hasCell 13 = .ok (.ifCond .lt 17, 3) := by decide +kernel
theorem dX7_hasCell_16 : decode cX7_hasCell 16 = .ok (.iload_n 2, 1) := by decide +kernel
theorem dX7_hasCell_17 : decode cX7_hasCell 17 = .ok (.aload_n 0, 1) := by decide +kernel
theorem dX7_hasCell_18 : decode cX7_hasCell 18 = .ok (.getfield 18, 3) := by decide +kernel
theorem dX7_hasCell_21 : decode cX7_hasCell 21 = .ok (.iload_n 1, 1) := by decide +kernel
theorem dX7_hasCell_22 : decode cX7_hasCell 22 = .ok (.iaload, 1) := by decide +kernel
theorem dX7_hasCell_23 : decode cX7_hasCell 23 = .ok (.if_icmp .ge 7, 3) := by decide +kernel
theorem dX7_hasCell_26 : decode cX7_hasCell 26 = .ok (.iconst 1, 1) := by decide +kernel
theorem dX7_hasCell_27 : decode cX7_hasCell 27 = .ok (.goto 4, 3) := by decide +kernel
theorem dX7_hasCell_30 : decode cX7_hasCell 30 = .ok (.iconst 0, 1) := by decide +kernel
theorem dX7_hasCell_31 : decode cX7_hasCell 31 = .ok (.ireturn, 1) := by decide +kernel
theorem dX7_hasCells_0 : decode cX7_hasCells 0 = .ok (.iload_n 2, 1) := by decide +kernel
theorem dX7_hasCells_1 : decode cX7_hasCells 1 = .ok (.ifCond .lt 22, 3) := by decide +kernel
theorem dX7_hasCells_4 : decode cX7_hasCells 4 = .ok (.iload_n 3, 1) := by decide +kernel
theorem dX7_hasCells_5 : decode cX7_hasCells 5 = .ok (.ifCond .lt 18, 3) := by decide +kernel
theorem dX7_hasCells_8 : decode cX7_hasCells 8 = .ok (.iload_n 2, 1) := by decide +kernel
theorem dX7_hasCells_9 : decode cX7_hasCells 9 = .ok (.aload_n 0, 1) := by decide +kernel
theorem dX7_hasCells_10 : decode cX7_hasCells 10 = .ok (.iload_n 1, 1) := by decide +kernel
theorem dX7_hasCells_11 : decode cX7_hasCells 11 = .ok (.invokevirtual 51, 3) := by decide +kernel
theorem dX7_hasCells_14 : decode cX7_hasCells 14 = .ok (.iload_n 3, 1) := by decide +kernel
theorem dX7_hasCells_15 : decode cX7_hasCells 15 = .ok (.isub, 1) := by decide +kernel
theorem dX7_hasCells_16 : decode cX7_hasCells 16 = .ok (.if_icmp .gt 7, 3) := by decide +kernel
theorem dX7_hasCells_19 : decode cX7_hasCells 19 = .ok (.iconst 1, 1) := by decide +kernel
theorem dX7_hasCells_20 : decode cX7_hasCells 20 = .ok (.goto 4, 3) := by decide +kernel
theorem dX7_hasCells_23 : decode cX7_hasCells 23 = .ok (.iconst 0, 1) := by decide +kernel
theorem dX7_hasCells_24 : decode cX7_hasCells 24 = .ok (.ireturn, 1) := by decide +kernel
theorem dX7_cellDatum_0 : decode cX7_cellDatum 0 = .ok (.iload_n 1, 1) := by decide +kernel
theorem dX7_cellDatum_1 : decode cX7_cellDatum 1 = .ok (.ifCond .le 25, 3) := by decide +kernel
theorem dX7_cellDatum_4 : decode cX7_cellDatum 4 = .ok (.iload_n 1, 1) := by decide +kernel
theorem dX7_cellDatum_5 : decode cX7_cellDatum 5 = .ok (.aload_n 0, 1) := by decide +kernel
theorem dX7_cellDatum_6 : decode cX7_cellDatum 6 = .ok (.getfield 25, 3) := by decide +kernel
theorem dX7_cellDatum_9 : decode cX7_cellDatum 9 = .ok (.if_icmp .ge 17, 3) := by decide +kernel
theorem dX7_cellDatum_12 : decode cX7_cellDatum 12 = .ok (.iload_n 2, 1) := by decide +kernel
theorem dX7_cellDatum_13 : decode cX7_cellDatum 13 = .ok (.ifCond .lt 13, 3) := by decide +kernel
theorem dX7_cellDatum_16 : decode cX7_cellDatum 16 = .ok (.iload_n 2, 1) := by decide +kernel
theorem dX7_cellDatum_17 : decode cX7_cellDatum 17 = .ok (.aload_n 0, 1) := by decide +kernel
theorem dX7_cellDatum_18 : decode cX7_cellDatum 18 = .ok (.getfield 18, 3) := by decide +kernel
theorem dX7_cellDatum_21 : decode cX7_cellDatum 21 = .ok (.iload_n 1, 1) := by decide +kernel
theorem dX7_cellDatum_22 : decode cX7_cellDatum 22 = .ok (.iaload, 1) := by decide +kernel
theorem dX7_cellDatum_23 : decode cX7_cellDatum 23 = .ok (.if_icmp .lt 5, 3) := by decide +kernel
theorem dX7_cellDatum_26 : decode cX7_cellDatum 26 = .ok (.lconst 0, 1) := by decide +kernel
theorem dX7_cellDatum_27 : decode cX7_cellDatum 27 = .ok (.lreturn, 1) := by decide +kernel
theorem dX7_cellDatum_28 : decode cX7_cellDatum 28 = .ok (.aload_n 0, 1) := by decide +kernel
theorem dX7_cellDatum_29 : decode cX7_cellDatum 29 = .ok (.getfield 21, 3) := by decide +kernel
theorem dX7_cellDatum_32 : decode cX7_cellDatum 32 = .ok (.aload_n 0, 1) := by decide +kernel
theorem dX7_cellDatum_33 : decode cX7_cellDatum 33 = .ok (.getfield 15, 3) := by decide +kernel
theorem dX7_cellDatum_36 : decode cX7_cellDatum 36 = .ok (.iload_n 1, 1) := by decide +kernel
theorem dX7_cellDatum_37 : decode cX7_cellDatum 37 = .ok (.iaload, 1) := by decide +kernel
theorem dX7_cellDatum_38 : decode cX7_cellDatum 38 = .ok (.iload_n 2, 1) := by decide +kernel
theorem dX7_cellDatum_39 : decode cX7_cellDatum 39 = .ok (.iadd, 1) := by decide +kernel
theorem dX7_cellDatum_40 : decode cX7_cellDatum 40 = .ok (.laload, 1) := by decide +kernel
theorem dX7_cellDatum_41 : decode cX7_cellDatum 41 = .ok (.lreturn, 1) := by decide +kernel
theorem dX7_cellClass_0 : decode cX7_cellClass 0 = .ok (.iload_n 1, 1) := by decide +kernel
theorem dX7_cellClass_1 : decode cX7_cellClass 1 = .ok (.ifCond .le 25, 3) := by decide +kernel
theorem dX7_cellClass_4 : decode cX7_cellClass 4 = .ok (.iload_n 1, 1) := by decide +kernel
theorem dX7_cellClass_5 : decode cX7_cellClass 5 = .ok (.aload_n 0, 1) := by decide +kernel
theorem dX7_cellClass_6 : decode cX7_cellClass 6 = .ok (.getfield 25, 3) := by decide +kernel
theorem dX7_cellClass_9 : decode cX7_cellClass 9 = .ok (.if_icmp .ge 17, 3) := by decide +kernel
theorem dX7_cellClass_12 : decode cX7_cellClass 12 = .ok (.iload_n 2, 1) := by decide +kernel
theorem dX7_cellClass_13 : decode cX7_cellClass 13 = .ok (.ifCond .lt 13, 3) := by decide +kernel
theorem dX7_cellClass_16 : decode cX7_cellClass 16 = .ok (.iload_n 2, 1) := by decide +kernel
theorem dX7_cellClass_17 : decode cX7_cellClass 17 = .ok (.aload_n 0, 1) := by decide +kernel
theorem dX7_cellClass_18 : decode cX7_cellClass 18 = .ok (.getfield 18, 3) := by decide +kernel
theorem dX7_cellClass_21 : decode cX7_cellClass 21 = .ok (.iload_n 1, 1) := by decide +kernel
theorem dX7_cellClass_22 : decode cX7_cellClass 22 = .ok (.iaload, 1) := by decide +kernel
theorem dX7_cellClass_23 : decode cX7_cellClass 23 = .ok (.if_icmp .lt 5, 3) := by decide +kernel
theorem dX7_cellClass_26 : decode cX7_cellClass 26 = .ok (.iconst (-1), 1) := by decide +kernel
theorem dX7_cellClass_27 : decode cX7_cellClass 27 = .ok (.ireturn, 1) := by decide +kernel
theorem dX7_cellClass_28 : decode cX7_cellClass 28 = .ok (.aload_n 0, 1) := by decide +kernel
theorem dX7_cellClass_29 : decode cX7_cellClass 29 = .ok (.getfield 11, 3) := by decide +kernel
theorem dX7_cellClass_32 : decode cX7_cellClass 32 = .ok (.iload_n 1, 1) := by decide +kernel
theorem dX7_cellClass_33 : decode cX7_cellClass 33 = .ok (.iaload, 1) := by decide +kernel
theorem dX7_cellClass_34 : decode cX7_cellClass 34 = .ok (.bipush 20, 2) := by decide +kernel
theorem dX7_cellClass_36 : decode cX7_cellClass 36 = .ok (.isub, 1) := by decide +kernel
theorem dX7_cellClass_37 : decode cX7_cellClass 37 = .ok (.istore_n 3, 1) := by decide +kernel
theorem dX7_cellClass_38 : decode cX7_cellClass 38 = .ok (.iload_n 3, 1) := by decide +kernel
theorem dX7_cellClass_39 : decode cX7_cellClass 39 = .ok (.bipush 8, 2) := by decide +kernel
theorem dX7_cellClass_41 : decode cX7_cellClass 41 = .ok (.if_icmp .ge 5, 3) := by decide +kernel
theorem dX7_cellClass_44 : decode cX7_cellClass 44 = .ok (.iload_n 3, 1) := by decide +kernel
theorem dX7_cellClass_45 : decode cX7_cellClass 45 = .ok (.ireturn, 1) := by decide +kernel
theorem dX7_cellClass_46 : decode cX7_cellClass 46 = .ok (.aload_n 0, 1) := by decide +kernel
theorem dX7_cellClass_47 : decode cX7_cellClass 47 = .ok (.getfield 21, 3) := by decide +kernel
theorem dX7_cellClass_50 : decode cX7_cellClass 50 = .ok (.aload_n 0, 1) := by decide +kernel
theorem dX7_cellClass_51 : decode cX7_cellClass 51 = .ok (.getfield 15, 3) := by decide +kernel
theorem dX7_cellClass_54 : decode cX7_cellClass 54 = .ok (.iload_n 1, 1) := by decide +kernel
theorem dX7_cellClass_55 : decode cX7_cellClass 55 = .ok (.iaload, 1) := by decide +kernel
theorem dX7_cellClass_56 : decode cX7_cellClass 56 = .ok (.iload_n 2, 1) := by decide +kernel
theorem dX7_cellClass_57 : decode cX7_cellClass 57 = .ok (.iadd, 1) := by decide +kernel
theorem dX7_cellClass_58 : decode cX7_cellClass 58 = .ok (.laload, 1) := by decide +kernel
theorem dX7_cellClass_59 : decode cX7_cellClass 59 = .ok (.l2i, 1) := by decide +kernel
theorem dX7_cellClass_60 : decode cX7_cellClass 60 = .ok (.istore 4, 2) := by decide +kernel
theorem dX7_cellClass_62 : decode cX7_cellClass 62 = .ok (.iload 4, 2) := by decide +kernel
theorem dX7_cellClass_64 : decode cX7_cellClass 64 = .ok (.ifCond .le 22, 3) := by decide +kernel
theorem dX7_cellClass_67 : decode cX7_cellClass 67 = .ok (.iload 4, 2) := by decide +kernel
theorem dX7_cellClass_69 : decode cX7_cellClass 69 = .ok (.aload_n 0, 1) := by decide +kernel
theorem dX7_cellClass_70 : decode cX7_cellClass 70 = .ok (.getfield 25, 3) := by decide +kernel
theorem dX7_cellClass_73 : decode cX7_cellClass 73 = .ok (.if_icmp .ge 13, 3) := by decide +kernel
theorem dX7_cellClass_76 : decode cX7_cellClass 76 = .ok (.aload_n 0, 1) := by decide +kernel
theorem dX7_cellClass_77 : decode cX7_cellClass 77 = .ok (.getfield 11, 3) := by decide +kernel
theorem dX7_cellClass_80 : decode cX7_cellClass 80 = .ok (.iload 4, 2) := by decide +kernel
theorem dX7_cellClass_82 : decode cX7_cellClass 82 = .ok (.iaload, 1) := by decide +kernel
theorem dX7_cellClass_83 : decode cX7_cellClass 83 = .ok (.goto 4, 3) := by decide +kernel
theorem dX7_cellClass_86 : decode cX7_cellClass 86 = .ok (.iconst (-1), 1) := by decide +kernel
theorem dX7_cellClass_87 : decode cX7_cellClass 87 = .ok (.ireturn, 1) := by decide +kernel
theorem dX7_read_0 : decode cX7_read 0 = .ok (.aload_n 3, 1) := by decide +kernel
theorem dX7_read_1 : decode cX7_read 1 = .ok (.aload_n 0, 1) := by decide +kernel
theorem dX7_read_2 : decode cX7_read 2 = .ok (.iload_n 1, 1) := by decide +kernel
theorem dX7_read_3 : decode cX7_read 3 = .ok (.iload_n 2, 1) := by decide +kernel
theorem dX7_read_4 : decode cX7_read 4 = .ok (.invokevirtual 57, 3) := by decide +kernel
theorem dX7_read_7 : decode cX7_read 7 = .ok (.aload_n 0, 1) := by decide +kernel
theorem dX7_read_8 : decode cX7_read 8 = .ok (.iload_n 1, 1) := by decide +kernel
theorem dX7_read_9 : decode cX7_read 9 = .ok (.iload_n 2, 1) := by decide +kernel
theorem dX7_read_10 : decode cX7_read 10 = .ok (.invokevirtual 60, 3) := by decide +kernel
theorem dX7_read_13 : decode cX7_read 13 = .ok (.invokevirtual 64, 3) := by decide +kernel
theorem dX7_read_16 : decode cX7_read 16 = .ok (.return_, 1) := by decide +kernel
theorem dX7_goInto_0 : decode cX7_goInto 0 = .ok (.aload_n 1, 1) := by decide +kernel
theorem dX7_goInto_1 : decode cX7_goInto 1 = .ok (.invokevirtual 70, 3) := by decide +kernel
theorem dX7_goInto_4 : decode cX7_goInto 4 = .ok (.istore_n 3, 1) := by decide +kernel
theorem dX7_goInto_5 : decode cX7_goInto 5 = .ok (.aload_n 0, 1) := by decide +kernel
theorem dX7_goInto_6 : decode cX7_goInto 6 = .ok (.iload_n 3, 1) := by decide +kernel
theorem dX7_goInto_7 : decode cX7_goInto 7 = .ok (.iload_n 2, 1) := by decide +kernel
theorem dX7_goInto_8 : decode cX7_goInto 8 = .ok (.invokevirtual 74, 3) := by decide +kernel
theorem dX7_goInto_11 : decode cX7_goInto 11 = .ok (.ifCond .ne 5, 3) := by decide +kernel
theorem dX7_goInto_14 : decode cX7_goInto 14 = .ok (.iconst 0, 1) := by decide +kernel
theorem dX7_goInto_15 : decode cX7_goInto 15 = .ok (.ireturn, 1) := by decide +kernel
theorem dX7_goInto_16 : decode cX7_goInto 16 = .ok (.aload_n 1, 1) := by decide +kernel
theorem dX7_goInto_17 : decode cX7_goInto 17 = .ok (.aload_n 0, 1) := by decide +kernel
theorem dX7_goInto_18 : decode cX7_goInto 18 = .ok (.iload_n 3, 1) := by decide +kernel
theorem dX7_goInto_19 : decode cX7_goInto 19 = .ok (.iload_n 2, 1) := by decide +kernel
theorem dX7_goInto_20 : decode cX7_goInto 20 = .ok (.invokevirtual 57, 3) := by decide +kernel
theorem dX7_goInto_23 : decode cX7_goInto 23 = .ok (.aload_n 0, 1) := by decide +kernel
theorem dX7_goInto_24 : decode cX7_goInto 24 = .ok (.iload_n 3, 1) := by decide +kernel
theorem dX7_goInto_25 : decode cX7_goInto 25 = .ok (.iload_n 2, 1) := by decide +kernel
theorem dX7_goInto_26 : decode cX7_goInto 26 = .ok (.invokevirtual 60, 3) := by decide +kernel
theorem dX7_goInto_29 : decode cX7_goInto 29 = .ok (.invokevirtual 64, 3) := by decide +kernel
theorem dX7_goInto_32 : decode cX7_goInto 32 = .ok (.iconst 1, 1) := by decide +kernel
theorem dX7_goInto_33 : decode cX7_goInto 33 = .ok (.ireturn, 1) := by decide +kernel
theorem dX7_write_0 : decode cX7_write 0 = .ok (.aload_n 0, 1) := by decide +kernel
theorem dX7_write_1 : decode cX7_write 1 = .ok (.iload_n 1, 1) := by decide +kernel
theorem dX7_write_2 : decode cX7_write 2 = .ok (.iload_n 2, 1) := by decide +kernel
theorem dX7_write_3 : decode cX7_write 3 = .ok (.invokevirtual 74, 3) := by decide +kernel
theorem dX7_write_6 : decode cX7_write 6 = .ok (.ifCond .eq 17, 3) := by decide +kernel
theorem dX7_write_9 : decode cX7_write 9 = .ok (.aload_n 0, 1) := by decide +kernel
theorem dX7_write_10 : decode cX7_write 10 = .ok (.getfield 21, 3) := by decide +kernel
theorem dX7_write_13 : decode cX7_write 13 = .ok (.aload_n 0, 1) := by decide +kernel
theorem dX7_write_14 : decode cX7_write 14 = .ok (.getfield 15, 3) := by decide +kernel
theorem dX7_write_17 : decode cX7_write 17 = .ok (.iload_n 1, 1) := by decide +kernel
theorem dX7_write_18 : decode cX7_write 18 = .ok (.iaload, 1) := by decide +kernel
theorem dX7_write_19 : decode cX7_write 19 = .ok (.iload_n 2, 1) := by decide +kernel
theorem dX7_write_20 : decode cX7_write 20 = .ok (.iadd, 1) := by decide +kernel
theorem dX7_write_21 : decode cX7_write 21 = .ok (.lload_n 3, 1) := by decide +kernel
theorem dX7_write_22 : decode cX7_write 22 = .ok (.lastore, 1) := by decide +kernel
theorem dX7_write_23 : decode cX7_write 23 = .ok (.return_, 1) := by decide +kernel
theorem dX7_swap_0 : decode cX7_swap 0 = .ok (.aload_n 0, 1) := by decide +kernel
theorem dX7_swap_1 : decode cX7_swap 1 = .ok (.iload_n 1, 1) := by decide +kernel
theorem dX7_swap_2 : decode cX7_swap 2 = .ok (.iload_n 2, 1) := by decide +kernel
theorem dX7_swap_3 : decode cX7_swap 3 = .ok (.invokevirtual 60, 3) := by decide +kernel
theorem dX7_swap_6 : decode cX7_swap 6 = .ok (.lstore 4, 2) := by decide +kernel
theorem dX7_swap_8 : decode cX7_swap 8 = .ok (.aload_n 0, 1) := by decide +kernel
theorem dX7_swap_9 : decode cX7_swap 9 = .ok (.iload_n 1, 1) := by decide +kernel
theorem dX7_swap_10 : decode cX7_swap 10 = .ok (.iload_n 2, 1) := by decide +kernel
theorem dX7_swap_11 : decode cX7_swap 11 = .ok (.aload_n 0, 1) := by decide +kernel
theorem dX7_swap_12 : decode cX7_swap 12 = .ok (.iload_n 1, 1) := by decide +kernel
theorem dX7_swap_13 : decode cX7_swap 13 = .ok (.iload_n 3, 1) := by decide +kernel
theorem dX7_swap_14 : decode cX7_swap 14 = .ok (.invokevirtual 60, 3) := by decide +kernel
theorem dX7_swap_17 : decode cX7_swap 17 = .ok (.invokevirtual 78, 3) := by decide +kernel
theorem dX7_swap_20 : decode cX7_swap 20 = .ok (.aload_n 0, 1) := by decide +kernel
theorem dX7_swap_21 : decode cX7_swap 21 = .ok (.iload_n 1, 1) := by decide +kernel
theorem dX7_swap_22 : decode cX7_swap 22 = .ok (.iload_n 3, 1) := by decide +kernel
theorem dX7_swap_23 : decode cX7_swap 23 = .ok (.lload 4, 2) := by decide +kernel
theorem dX7_swap_25 : decode cX7_swap 25 = .ok (.invokevirtual 78, 3) := by decide +kernel
theorem dX7_swap_28 : decode cX7_swap 28 = .ok (.return_, 1) := by decide +kernel
theorem dX7_makeClone_0 : decode cX7_makeClone 0 = .ok (.aload_n 0, 1) := by decide +kernel
theorem dX7_makeClone_1 : decode cX7_makeClone 1 = .ok (.iload_n 1, 1) := by decide +kernel
theorem dX7_makeClone_2 : decode cX7_makeClone 2 = .ok (.invokevirtual 37, 3) := by decide +kernel
theorem dX7_makeClone_5 : decode cX7_makeClone 5 = .ok (.ifCond .ne 5, 3) := by decide +kernel
theorem dX7_makeClone_8 : decode cX7_makeClone 8 = .ok (.iconst 0, 1) := by decide +kernel
theorem dX7_makeClone_9 : decode cX7_makeClone 9 = .ok (.ireturn, 1) := by decide +kernel
theorem dX7_makeClone_10 : decode cX7_makeClone 10 = .ok (.aload_n 0, 1) := by decide +kernel
theorem dX7_makeClone_11 : decode cX7_makeClone 11 = .ok (.aload_n 0, 1) := by decide +kernel
theorem dX7_makeClone_12 : decode cX7_makeClone 12 = .ok (.getfield 11, 3) := by decide +kernel
theorem dX7_makeClone_15 : decode cX7_makeClone 15 = .ok (.iload_n 1, 1) := by decide +kernel
theorem dX7_makeClone_16 : decode cX7_makeClone 16 = .ok (.iaload, 1) := by decide +kernel
theorem dX7_makeClone_17 : decode cX7_makeClone 17 = .ok (.aload_n 0, 1) := by decide +kernel
theorem dX7_makeClone_18 : decode cX7_makeClone 18 = .ok (.getfield 18, 3) := by decide +kernel
theorem dX7_makeClone_21 : decode cX7_makeClone 21 = .ok (.iload_n 1, 1) := by decide +kernel
theorem dX7_makeClone_22 : decode cX7_makeClone 22 = .ok (.iaload, 1) := by decide +kernel
theorem dX7_makeClone_23 : decode cX7_makeClone 23 = .ok (.invokevirtual 41, 3) := by decide +kernel
theorem dX7_makeClone_26 : decode cX7_makeClone 26 = .ok (.istore_n 2, 1) := by decide +kernel
theorem dX7_makeClone_27 : decode cX7_makeClone 27 = .ok (.iload_n 2, 1) := by decide +kernel
theorem dX7_makeClone_28 : decode cX7_makeClone 28 = .ok (.ifCond .eq 32, 3) := by decide +kernel
theorem dX7_makeClone_31 : decode cX7_makeClone 31 = .ok (.aload_n 0, 1) := by decide +kernel
theorem dX7_makeClone_32 : decode cX7_makeClone 32 = .ok (.getfield 21, 3) := by decide +kernel
theorem dX7_makeClone_35 : decode cX7_makeClone 35 = .ok (.aload_n 0, 1) := by decide +kernel
theorem dX7_makeClone_36 : decode cX7_makeClone 36 = .ok (.getfield 15, 3) := by decide +kernel
theorem dX7_makeClone_39 : decode cX7_makeClone 39 = .ok (.iload_n 1, 1) := by decide +kernel
theorem dX7_makeClone_40 : decode cX7_makeClone 40 = .ok (.iaload, 1) := by decide +kernel
theorem dX7_makeClone_41 : decode cX7_makeClone 41 = .ok (.aload_n 0, 1) := by decide +kernel
theorem dX7_makeClone_42 : decode cX7_makeClone 42 = .ok (.getfield 21, 3) := by decide +kernel
theorem dX7_makeClone_45 : decode cX7_makeClone 45 = .ok (.aload_n 0, 1) := by decide +kernel
theorem dX7_makeClone_46 : decode cX7_makeClone 46 = .ok (.getfield 15, 3) := by decide +kernel
theorem dX7_makeClone_49 : decode cX7_makeClone 49 = .ok (.iload_n 2, 1) := by decide +kernel
theorem dX7_makeClone_50 : decode cX7_makeClone 50 = .ok (.iaload, 1) := by decide +kernel
theorem dX7_makeClone_51 : decode cX7_makeClone 51 = .ok (.aload_n 0, 1) := by decide +kernel
theorem dX7_makeClone_52 : decode cX7_makeClone 52 = .ok (.getfield 18, 3) := by decide +kernel
theorem dX7_makeClone_55 : decode cX7_makeClone 55 = .ok (.iload_n 1, 1) := by decide +kernel
theorem dX7_makeClone_56 : decode cX7_makeClone 56 = .ok (.iaload, 1) := by decide +kernel
theorem dX7_makeClone_57 : decode cX7_makeClone 57 = .ok (.invokestatic 45, 3) := by decide +kernel
theorem dX7_makeClone_60 : decode cX7_makeClone 60 = .ok (.iload_n 2, 1) := by decide +kernel
theorem dX7_makeClone_61 : decode cX7_makeClone 61 = .ok (.ireturn, 1) := by decide +kernel
theorem dX7_copyCells_0 : decode cX7_copyCells 0 = .ok (.aload_n 0, 1) := by decide +kernel
theorem dX7_copyCells_1 : decode cX7_copyCells 1 = .ok (.iload_n 1, 1) := by decide +kernel
theorem dX7_copyCells_2 : decode cX7_copyCells 2 = .ok (.iload_n 2, 1) := by decide +kernel
theorem dX7_copyCells_3 : decode cX7_copyCells 3 = .ok (.iload 5, 2) := by decide +kernel
theorem dX7_copyCells_5 : decode cX7_copyCells 5 = .ok (.invokevirtual 82, 3) := by decide +kernel
theorem dX7_copyCells_8 : decode cX7_copyCells 8 = .ok (.ifCond .eq 31, 3) := by decide +kernel
theorem dX7_copyCells_11 : decode cX7_copyCells 11 = .ok (.aload_n 0, 1) := by decide +kernel
theorem dX7_copyCells_12 : decode cX7_copyCells 12 = .ok (.iload_n 3, 1) := by decide +kernel
theorem dX7_copyCells_13 : decode cX7_copyCells 13 = .ok (.iload 4, 2) := by decide +kernel
theorem dX7_copyCells_15 : decode cX7_copyCells 15 = .ok (.iload 5, 2) := by decide +kernel
theorem dX7_copyCells_17 : decode cX7_copyCells 17 = .ok (.invokevirtual 82, 3) := by decide +kernel
theorem dX7_copyCells_20 : decode cX7_copyCells 20 = .ok (.ifCond .eq 19, 3) := by decide +kernel
theorem dX7_copyCells_23 : decode cX7_copyCells 23 = .ok (.aload_n 0, 1) := by decide +kernel
theorem dX7_copyCells_24 : decode cX7_copyCells 24 = .ok (.iload_n 1, 1) := by decide +kernel
theorem dX7_copyCells_25 : decode cX7_copyCells 25 = .ok (.invokevirtual 37, 3) := by decide +kernel
theorem dX7_copyCells_28 : decode cX7_copyCells 28 = .ok (.ifCond .eq 11, 3) := by decide +kernel
theorem dX7_copyCells_31 : decode cX7_copyCells 31 = .ok (.aload_n 0, 1) := by decide +kernel
theorem dX7_copyCells_32 : decode cX7_copyCells 32 = .ok (.iload_n 3, 1) := by decide +kernel
theorem dX7_copyCells_33 : decode cX7_copyCells 33 = .ok (.invokevirtual 37, 3) := by decide +kernel
theorem dX7_copyCells_36 : decode cX7_copyCells 36 = .ok (.ifCond .ne 5, 3) := by decide +kernel
theorem dX7_copyCells_39 : decode cX7_copyCells 39 = .ok (.iconst 2, 1) := by decide +kernel
theorem dX7_copyCells_40 : decode cX7_copyCells 40 = .ok (.ireturn, 1) := by decide +kernel
theorem dX7_copyCells_41 : decode cX7_copyCells 41 = .ok (.iload_n 1, 1) := by decide +kernel
theorem dX7_copyCells_42 : decode cX7_copyCells 42 = .ok (.iload_n 3, 1) := by decide +kernel
theorem dX7_copyCells_43 : decode cX7_copyCells 43 = .ok (.if_icmp .eq 15, 3) := by decide +kernel
theorem dX7_copyCells_46 : decode cX7_copyCells 46 = .ok (.aload_n 0, 1) := by decide +kernel
theorem dX7_copyCells_47 : decode cX7_copyCells 47 = .ok (.getfield 11, 3) := by decide +kernel
theorem dX7_copyCells_50 : decode cX7_copyCells 50 = .ok (.iload_n 1, 1) := by decide +kernel
theorem dX7_copyCells_51 : decode cX7_copyCells 51 = .ok (.iaload, 1) := by decide +kernel
theorem dX7_copyCells_52 : decode cX7_copyCells 52 = .ok (.invokestatic 86, 3) := by decide +kernel
theorem dX7_copyCells_55 : decode cX7_copyCells 55 = .ok (.ifCond .eq 35, 3) := by decide +kernel
theorem dX7_copyCells_58 : decode cX7_copyCells 58 = .ok (.aload_n 0, 1) := by decide +kernel
theorem dX7_copyCells_59 : decode cX7_copyCells 59 = .ok (.getfield 21, 3) := by decide +kernel
theorem dX7_copyCells_62 : decode cX7_copyCells 62 = .ok (.aload_n 0, 1) := by decide +kernel
theorem dX7_copyCells_63 : decode cX7_copyCells 63 = .ok (.getfield 15, 3) := by decide +kernel
theorem dX7_copyCells_66 : decode cX7_copyCells 66 = .ok (.iload_n 1, 1) := by decide +kernel
theorem dX7_copyCells_67 : decode cX7_copyCells 67 = .ok (.iaload, 1) := by decide +kernel
theorem dX7_copyCells_68 : decode cX7_copyCells 68 = .ok (.iload_n 2, 1) := by decide +kernel
theorem dX7_copyCells_69 : decode cX7_copyCells 69 = .ok (.iadd, 1) := by decide +kernel
theorem dX7_copyCells_70 : decode cX7_copyCells 70 = .ok (.aload_n 0, 1) := by decide +kernel
theorem dX7_copyCells_71 : decode cX7_copyCells 71 = .ok (.getfield 21, 3) := by decide +kernel
theorem dX7_copyCells_74 : decode cX7_copyCells 74 = .ok (.aload_n 0, 1) := by decide +kernel
theorem dX7_copyCells_75 : decode cX7_copyCells 75 = .ok (.getfield 15, 3) := by decide +kernel
theorem dX7_copyCells_78 : decode cX7_copyCells 78 = .ok (.iload_n 3, 1) := by decide +kernel
theorem dX7_copyCells_79 : decode cX7_copyCells 79 = .ok (.iaload, 1) := by decide +kernel
theorem dX7_copyCells_80 : decode cX7_copyCells 80 = .ok (.iload 4, 2) := by decide +kernel
theorem dX7_copyCells_82 : decode cX7_copyCells 82 = .ok (.iadd, 1) := by decide +kernel
theorem dX7_copyCells_83 : decode cX7_copyCells 83 = .ok (.iload 5, 2) := by decide +kernel
theorem dX7_copyCells_85 : decode cX7_copyCells 85 = .ok (.invokestatic 45, 3) := by decide +kernel
theorem dX7_copyCells_88 : decode cX7_copyCells 88 = .ok (.iconst 0, 1) := by decide +kernel
theorem dX7_copyCells_89 : decode cX7_copyCells 89 = .ok (.ireturn, 1) := by decide +kernel
theorem dX7_copyCells_90 : decode cX7_copyCells 90 = .ok (.aload_n 0, 1) := by decide +kernel
theorem dX7_copyCells_91 : decode cX7_copyCells 91 = .ok (.getfield 11, 3) := by decide +kernel
theorem dX7_copyCells_94 : decode cX7_copyCells 94 = .ok (.iload_n 3, 1) := by decide +kernel
theorem dX7_copyCells_95 : decode cX7_copyCells 95 = .ok (.iaload, 1) := by decide +kernel
theorem dX7_copyCells_96 : decode cX7_copyCells 96 = .ok (.invokestatic 89, 3) := by decide +kernel
theorem dX7_copyCells_99 : decode cX7_copyCells 99 = .ok (.istore 6, 2) := by decide +kernel
theorem dX7_copyCells_101 : decode cX7_copyCells 101 = .ok (.iconst 0, 1) := by decide +kernel
theorem dX7_copyCells_102 : decode cX7_copyCells 102 = .ok (.istore 7, 2) := by decide +kernel
theorem dX7_copyCells_104 : decode cX7_copyCells 104 = .ok (.iload 7, 2) := by decide +kernel
theorem dX7_copyCells_106 : decode cX7_copyCells 106 = .ok (.iload 5, 2) := by decide +kernel
theorem dX7_copyCells_108 : decode cX7_copyCells 108 = .ok (.if_icmp .ge 47, 3) := by decide +kernel
theorem dX7_copyCells_111 : decode cX7_copyCells 111 = .ok (.iload 6, 2) := by decide +kernel
theorem dX7_copyCells_113 : decode cX7_copyCells 113 = .ok (.aload_n 0, 1) := by decide +kernel
theorem dX7_copyCells_114 : decode cX7_copyCells 114 = .ok (.iload_n 1, 1) := by decide +kernel
theorem dX7_copyCells_115 : decode cX7_copyCells 115 = .ok (.iload_n 2, 1) := by decide +kernel
theorem dX7_copyCells_116 : decode cX7_copyCells 116 = .ok (.iload 7, 2) := by decide +kernel
theorem dX7_copyCells_118 : decode cX7_copyCells 118 = .ok (.iadd, 1) := by decide +kernel
theorem dX7_copyCells_119 : decode cX7_copyCells 119 = .ok (.invokevirtual 57, 3) := by decide +kernel
theorem dX7_copyCells_122 : decode cX7_copyCells 122 = .ok (.invokestatic 92, 3) := by decide +kernel
theorem dX7_copyCells_125 : decode cX7_copyCells 125 = .ok (.ifCond .eq 5, 3) := by decide +kernel
theorem dX7_copyCells_128 : decode cX7_copyCells 128 = .ok (.iconst 4, 1) := by decide +kernel
theorem dX7_copyCells_129 : decode cX7_copyCells 129 = .ok (.ireturn, 1) := by decide +kernel
theorem dX7_copyCells_130 : decode cX7_copyCells 130 = .ok (.aload_n 0, 1) := by decide +kernel
theorem dX7_copyCells_131 : decode cX7_copyCells 131 = .ok (.iload_n 3, 1) := by decide +kernel
theorem dX7_copyCells_132 : decode cX7_copyCells 132 = .ok (.iload 4, 2) := by decide +kernel
theorem dX7_copyCells_134 : decode cX7_copyCells 134 = .ok (.iload 7, 2) := by decide +kernel
theorem dX7_copyCells_136 : decode cX7_copyCells 136 = .ok (.iadd, 1) := by decide +kernel
theorem dX7_copyCells_137 : decode cX7_copyCells 137 = .ok (.aload_n 0, 1) := by decide +kernel
theorem dX7_copyCells_138 : decode cX7_copyCells 138 = .ok (.iload_n 1, 1) := by decide +kernel
theorem dX7_copyCells_139 : decode cX7_copyCells 139 = .ok (.iload_n 2, 1) := by decide +kernel
theorem dX7_copyCells_140 : decode cX7_copyCells 140 = .ok (.iload 7, 2) := by decide +kernel
theorem dX7_copyCells_142 : decode cX7_copyCells 142 = .ok (.iadd, 1) := by decide +kernel
theorem dX7_copyCells_143 : decode cX7_copyCells 143 = .ok (.invokevirtual 60, 3) := by decide +kernel
theorem dX7_copyCells_146 : decode cX7_copyCells 146 = .ok (.invokevirtual 78, 3) := by decide +kernel
theorem dX7_copyCells_149 : decode cX7_copyCells 149 = .ok (.iinc 7 1, 3) := by decide +kernel
theorem dX7_copyCells_152 : decode cX7_copyCells 152 = .ok (.goto (-48), 3) := by decide +kernel
theorem dX7_copyCells_155 : decode cX7_copyCells 155 = .ok (.iconst 0, 1) := by decide +kernel
theorem dX7_copyCells_156 : decode cX7_copyCells 156 = .ok (.ireturn, 1) := by decide +kernel
theorem dX7_startLooking_0 : decode cX7_startLooking 0 = .ok (.aload_n 0, 1) := by decide +kernel
theorem dX7_startLooking_1 : decode cX7_startLooking 1 = .ok (.iconst 0, 1) := by decide +kernel
theorem dX7_startLooking_2 : decode cX7_startLooking 2 = .ok (.putfield 113, 3) := by decide +kernel
theorem dX7_startLooking_5 : decode cX7_startLooking 5 = .ok (.aload_n 0, 1) := by decide +kernel
theorem dX7_startLooking_6 : decode cX7_startLooking 6 = .ok (.iconst 0, 1) := by decide +kernel
theorem dX7_startLooking_7 : decode cX7_startLooking 7 = .ok (.putfield 116, 3) := by decide +kernel
theorem dX7_startLooking_10 : decode cX7_startLooking 10 = .ok (.return_, 1) := by decide +kernel
theorem dX7_mayLook_0 : decode cX7_mayLook 0 = .ok (.aload_n 0, 1) := by decide +kernel
theorem dX7_mayLook_1 : decode cX7_mayLook 1 = .ok (.getfield 113, 3) := by decide +kernel
theorem dX7_mayLook_4 : decode cX7_mayLook 4 = .ok (.sipush 20000, 3) := by decide +kernel
theorem dX7_mayLook_7 : decode cX7_mayLook 7 = .ok (.if_icmp .ne 10, 3) := by decide +kernel
theorem dX7_mayLook_10 : decode cX7_mayLook 10 = .ok (.aload_n 0, 1) := by decide +kernel
theorem dX7_mayLook_11 : decode cX7_mayLook 11 = .ok (.iconst 1, 1) := by decide +kernel
theorem dX7_mayLook_12 : decode cX7_mayLook 12 = .ok (.putfield 116, 3) := by decide +kernel
theorem dX7_mayLook_15 : decode cX7_mayLook 15 = .ok (.iconst 0, 1) := by decide +kernel
theorem dX7_mayLook_16 : decode cX7_mayLook 16 = .ok (.ireturn, 1) := by decide +kernel
theorem dX7_mayLook_17 : decode cX7_mayLook 17 = .ok (.aload_n 0, 1) := by decide +kernel
theorem dX7_mayLook_18 : decode cX7_mayLook 18 = .ok (.dup, 1) := by decide +kernel
theorem dX7_mayLook_19 : decode cX7_mayLook 19 = .ok (.getfield 113, 3) := by decide +kernel
theorem dX7_mayLook_22 : decode cX7_mayLook 22 = .ok (.iconst 1, 1) := by decide +kernel
theorem dX7_mayLook_23 : decode cX7_mayLook 23 = .ok (.iadd, 1) := by decide +kernel
theorem dX7_mayLook_24 : decode cX7_mayLook 24 = .ok (.putfield 113, 3) := by decide +kernel
theorem dX7_mayLook_27 : decode cX7_mayLook 27 = .ok (.iconst 1, 1) := by decide +kernel
theorem dX7_mayLook_28 : decode cX7_mayLook 28 = .ok (.ireturn, 1) := by decide +kernel
theorem dX7_hashDown_0 : decode cX7_hashDown 0 = .ok (.iload_n 1, 1) := by decide +kernel
theorem dX7_hashDown_1 : decode cX7_hashDown 1 = .ok (.iconst (-1), 1) := by decide +kernel
theorem dX7_hashDown_2 : decode cX7_hashDown 2 = .ok (.if_icmp .ne 5, 3) := by decide +kernel
theorem dX7_hashDown_5 : decode cX7_hashDown 5 = .ok (.iconst 0, 1) := by decide +kernel
theorem dX7_hashDown_6 : decode cX7_hashDown 6 = .ok (.ireturn, 1) := by decide +kernel
theorem dX7_hashDown_7 : decode cX7_hashDown 7 = .ok (.iload_n 1, 1) := by decide +kernel
theorem dX7_hashDown_8 : decode cX7_hashDown 8 = .ok (.invokestatic 120, 3) := by decide +kernel
theorem dX7_hashDown_11 : decode cX7_hashDown 11 = .ok (.ifCond .eq 11, 3) := by decide +kernel
theorem dX7_hashDown_14 : decode cX7_hashDown 14 = .ok (.lload_n 2, 1) := by decide +kernel
theorem dX7_hashDown_15 : decode cX7_hashDown 15 = .ok (.lload_n 2, 1) := by decide +kernel
theorem dX7_hashDown_16 : decode cX7_hashDown 16 = .ok (.bipush 32, 2) := by decide +kernel
theorem dX7_hashDown_18 : decode cX7_hashDown 18 = .ok (.lushr, 1) := by decide +kernel
theorem dX7_hashDown_19 : decode cX7_hashDown 19 = .ok (.lxor, 1) := by decide +kernel
theorem dX7_hashDown_20 : decode cX7_hashDown 20 = .ok (.l2i, 1) := by decide +kernel
theorem dX7_hashDown_21 : decode cX7_hashDown 21 = .ok (.ireturn, 1) := by decide +kernel
theorem dX7_hashDown_22 : decode cX7_hashDown 22 = .ok (.iload_n 1, 1) := by decide +kernel
theorem dX7_hashDown_23 : decode cX7_hashDown 23 = .ok (.bipush 20, 2) := by decide +kernel
theorem dX7_hashDown_25 : decode cX7_hashDown 25 = .ok (.if_icmp .lt 9, 3) := by decide +kernel
theorem dX7_hashDown_28 : decode cX7_hashDown 28 = .ok (.iload 4, 2) := by decide +kernel
theorem dX7_hashDown_30 : decode cX7_hashDown 30 = .ok (.iconst 3, 1) := by decide +kernel
theorem dX7_hashDown_31 : decode cX7_hashDown 31 = .ok (.if_icmp .le 5, 3) := by decide +kernel
theorem dX7_hashDown_34 : decode cX7_hashDown 34 = .ok (.iload_n 1, 1) := by decide +kernel
theorem dX7_hashDown_35 : decode cX7_hashDown 35 = .ok (.ireturn, 1) := by decide +kernel
theorem dX7_hashDown_36 : decode cX7_hashDown 36 = .ok (.lload_n 2, 1) := by decide +kernel
theorem dX7_hashDown_37 : decode cX7_hashDown 37 = .ok (.l2i, 1) := by decide +kernel
theorem dX7_hashDown_38 : decode cX7_hashDown 38 = .ok (.istore 5, 2) := by decide +kernel
theorem dX7_hashDown_40 : decode cX7_hashDown 40 = .ok (.aload_n 0, 1) := by decide +kernel
theorem dX7_hashDown_41 : decode cX7_hashDown 41 = .ok (.iload 5, 2) := by decide +kernel
theorem dX7_hashDown_43 : decode cX7_hashDown 43 = .ok (.invokevirtual 51, 3) := by decide +kernel
theorem dX7_hashDown_46 : decode cX7_hashDown 46 = .ok (.istore 6, 2) := by decide +kernel
theorem dX7_hashDown_48 : decode cX7_hashDown 48 = .ok (.iload_n 1, 1) := by decide +kernel
theorem dX7_hashDown_49 : decode cX7_hashDown 49 = .ok (.istore 7, 2) := by decide +kernel
theorem dX7_hashDown_51 : decode cX7_hashDown 51 = .ok (.iconst 0, 1) := by decide +kernel
theorem dX7_hashDown_52 : decode cX7_hashDown 52 = .ok (.istore 8, 2) := by decide +kernel
theorem dX7_hashDown_54 : decode cX7_hashDown 54 = .ok (.iload 8, 2) := by decide +kernel
theorem dX7_hashDown_56 : decode cX7_hashDown 56 = .ok (.iload 6, 2) := by decide +kernel
theorem dX7_hashDown_58 : decode cX7_hashDown 58 = .ok (.if_icmp .ge 48, 3) := by decide +kernel
theorem dX7_hashDown_61 : decode cX7_hashDown 61 = .ok (.aload_n 0, 1) := by decide +kernel
theorem dX7_hashDown_62 : decode cX7_hashDown 62 = .ok (.invokevirtual 123, 3) := by decide +kernel
theorem dX7_hashDown_65 : decode cX7_hashDown 65 = .ok (.ifCond .eq 41, 3) := by decide +kernel
theorem dX7_hashDown_68 : decode cX7_hashDown 68 = .ok (.bipush 31, 2) := by decide +kernel
theorem dX7_hashDown_70 : decode cX7_hashDown 70 = .ok (.iload 7, 2) := by decide +kernel
theorem dX7_hashDown_72 : decode cX7_hashDown 72 = .ok (.imul, 1) := by decide +kernel
theorem dX7_hashDown_73 : decode cX7_hashDown 73 = .ok (.aload_n 0, 1) := by decide +kernel
theorem dX7_hashDown_74 : decode cX7_hashDown 74 = .ok (.aload_n 0, 1) := by decide +kernel
theorem dX7_hashDown_75 : decode cX7_hashDown 75 = .ok (.iload 5, 2) := by decide +kernel
theorem dX7_hashDown_77 : decode cX7_hashDown 77 = .ok (.iload 8, 2) := by decide +kernel
theorem dX7_hashDown_79 : decode cX7_hashDown 79 = .ok (.invokevirtual 57, 3) := by decide +kernel
theorem dX7_hashDown_82 : decode cX7_hashDown 82 = .ok (.aload_n 0, 1) := by decide +kernel
theorem dX7_hashDown_83 : decode cX7_hashDown 83 = .ok (.iload 5, 2) := by decide +kernel
theorem dX7_hashDown_85 : decode cX7_hashDown 85 = .ok (.iload 8, 2) := by decide +kernel
theorem dX7_hashDown_87 : decode cX7_hashDown 87 = .ok (.invokevirtual 60, 3) := by decide +kernel
theorem dX7_hashDown_90 : decode cX7_hashDown 90 = .ok (.iload 4, 2) := by decide +kernel
theorem dX7_hashDown_92 : decode cX7_hashDown 92 = .ok (.iconst 1, 1) := by decide +kernel
theorem dX7_hashDown_93 : decode cX7_hashDown 93 = .ok (.iadd, 1) := by decide +kernel
theorem dX7_hashDown_94 : decode cX7_hashDown 94 = .ok (.invokevirtual 105, 3) := by decide +kernel
theorem dX7_hashDown_97 : decode cX7_hashDown 97 = .ok (.iadd, 1) := by decide +kernel
theorem dX7_hashDown_98 : decode cX7_hashDown 98 = .ok (.istore 7, 2) := by decide +kernel
theorem dX7_hashDown_100 : decode cX7_hashDown 100 = .ok (.iinc 8 1, 3) := by decide +kernel
theorem dX7_hashDown_103 : decode cX7_hashDown 103 = .ok (.goto (-49), 3) := by decide +kernel
theorem dX7_hashDown_106 : decode cX7_hashDown 106 = .ok (.iload 7, 2) := by decide +kernel
theorem dX7_hashDown_108 : decode cX7_hashDown 108 = .ok (.ireturn, 1) := by decide +kernel
theorem dX7_equalDown_0 : decode cX7_equalDown 0 = .ok (.iload_n 1, 1) := by decide +kernel
theorem dX7_equalDown_1 : decode cX7_equalDown 1 = .ok (.iload 4, 2) := by decide +kernel
theorem dX7_equalDown_3 : decode cX7_equalDown 3 = .ok (.if_icmp .eq 5, 3) := by decide +kernel
theorem dX7_equalDown_6 : decode cX7_equalDown 6 = .ok (.iconst 0, 1) := by decide +kernel
theorem dX7_equalDown_7 : decode cX7_equalDown 7 = .ok (.ireturn, 1) := by decide +kernel
theorem dX7_equalDown_8 : decode cX7_equalDown 8 = .ok (.iload_n 1, 1) := by decide +kernel
theorem dX7_equalDown_9 : decode cX7_equalDown 9 = .ok (.bipush 20, 2) := by decide +kernel
theorem dX7_equalDown_11 : decode cX7_equalDown 11 = .ok (.if_icmp .lt 9, 3) := by decide +kernel
theorem dX7_equalDown_14 : decode cX7_equalDown 14 = .ok (.iload 7, 2) := by decide +kernel
theorem dX7_equalDown_16 : decode cX7_equalDown 16 = .ok (.iconst 3, 1) := by decide +kernel
theorem dX7_equalDown_17 : decode cX7_equalDown 17 = .ok (.if_icmp .le 16, 3) := by decide +kernel
theorem dX7_equalDown_20 : decode cX7_equalDown 20 = .ok (.lload_n 2, 1) := by decide +kernel
theorem dX7_equalDown_21 : decode cX7_equalDown 21 = .ok (.lload 5, 2) := by decide +kernel
theorem dX7_equalDown_23 : decode cX7_equalDown 23 = .ok (.lcmp, 1) := by decide +kernel
theorem dX7_equalDown_24 : decode cX7_equalDown 24 = .ok (.ifCond .ne 7, 3) := by decide +kernel
theorem dX7_equalDown_27 : decode cX7_equalDown 27 = .ok (.iconst 1, 1) := by decide +kernel
theorem dX7_equalDown_28 : decode cX7_equalDown 28 = .ok (.goto 4, 3) := by decide +kernel
theorem dX7_equalDown_31 : decode cX7_equalDown 31 = .ok (.iconst 0, 1) := by decide +kernel
theorem dX7_equalDown_32 : decode cX7_equalDown 32 = .ok (.ireturn, 1) := by decide +kernel
theorem dX7_equalDown_33 : decode cX7_equalDown 33 = .ok (.lload_n 2, 1) := by decide +kernel
theorem dX7_equalDown_34 : decode cX7_equalDown 34 = .ok (.l2i, 1) := by decide +kernel
theorem dX7_equalDown_35 : decode cX7_equalDown 35 = .ok (.istore 8, 2) := by decide +kernel
theorem dX7_equalDown_37 : decode cX7_equalDown 37 = .ok (.lload 5, 2) := by decide +kernel
theorem dX7_equalDown_39 : decode cX7_equalDown 39 = .ok (.l2i, 1) := by decide +kernel
theorem dX7_equalDown_40 : decode cX7_equalDown 40 = .ok (.istore 9, 2) := by decide +kernel
theorem dX7_equalDown_42 : decode cX7_equalDown 42 = .ok (.aload_n 0, 1) := by decide +kernel
theorem dX7_equalDown_43 : decode cX7_equalDown 43 = .ok (.iload 8, 2) := by decide +kernel
theorem dX7_equalDown_45 : decode cX7_equalDown 45 = .ok (.invokevirtual 51, 3) := by decide +kernel
theorem dX7_equalDown_48 : decode cX7_equalDown 48 = .ok (.istore 10, 2) := by decide +kernel
theorem dX7_equalDown_50 : decode cX7_equalDown 50 = .ok (.iload 10, 2) := by decide +kernel
theorem dX7_equalDown_52 : decode cX7_equalDown 52 = .ok (.aload_n 0, 1) := by decide +kernel
theorem dX7_equalDown_53 : decode cX7_equalDown 53 = .ok (.iload 9, 2) := by decide +kernel
theorem dX7_equalDown_55 : decode cX7_equalDown 55 = .ok (.invokevirtual 51, 3) := by decide +kernel
theorem dX7_equalDown_58 : decode cX7_equalDown 58 = .ok (.if_icmp .eq 5, 3) := by decide +kernel
theorem dX7_equalDown_61 : decode cX7_equalDown 61 = .ok (.iconst 0, 1) := by decide +kernel
theorem dX7_equalDown_62 : decode cX7_equalDown 62 = .ok (.ireturn, 1) := by decide +kernel
theorem dX7_equalDown_63 : decode cX7_equalDown 63 = .ok (.iconst 0, 1) := by decide +kernel
theorem dX7_equalDown_64 : decode cX7_equalDown 64 = .ok (.istore 11, 2) := by decide +kernel
theorem dX7_equalDown_66 : decode cX7_equalDown 66 = .ok (.iload 11, 2) := by decide +kernel
theorem dX7_equalDown_68 : decode cX7_equalDown 68 = .ok (.iload 10, 2) := by decide +kernel
theorem dX7_equalDown_70 : decode cX7_equalDown 70 = .ok (.if_icmp .ge 61, 3) := by decide +kernel
theorem dX7_equalDown_73 : decode cX7_equalDown 73 = .ok (.aload_n 0, 1) := by decide +kernel
theorem dX7_equalDown_74 : decode cX7_equalDown 74 = .ok (.invokevirtual 123, 3) := by decide +kernel
theorem dX7_equalDown_77 : decode cX7_equalDown 77 = .ok (.ifCond .eq 46, 3) := by decide +kernel
theorem dX7_equalDown_80 : decode cX7_equalDown 80 = .ok (.aload_n 0, 1) := by decide +kernel
theorem dX7_equalDown_81 : decode cX7_equalDown 81 = .ok (.aload_n 0, 1) := by decide +kernel
theorem dX7_equalDown_82 : decode cX7_equalDown 82 = .ok (.iload 8, 2) := by decide +kernel
theorem dX7_equalDown_84 : decode cX7_equalDown 84 = .ok (.iload 11, 2) := by decide +kernel
theorem dX7_equalDown_86 : decode cX7_equalDown 86 = .ok (.invokevirtual 57, 3) := by decide +kernel
theorem dX7_equalDown_89 : decode cX7_equalDown 89 = .ok (.aload_n 0, 1) := by decide +kernel
theorem dX7_equalDown_90 : decode cX7_equalDown 90 = .ok (.iload 8, 2) := by decide +kernel
theorem dX7_equalDown_92 : decode cX7_equalDown 92 = .ok (.iload 11, 2) := by decide +kernel
theorem dX7_equalDown_94 : decode cX7_equalDown 94 = .ok (.invokevirtual 60, 3) := by decide +kernel
theorem dX7_equalDown_97 : decode cX7_equalDown 97 = .ok (.aload_n 0, 1) := by decide +kernel
theorem dX7_equalDown_98 : decode cX7_equalDown 98 = .ok (.iload 9, 2) := by decide +kernel
theorem dX7_equalDown_100 : decode cX7_equalDown 100 = .ok (.iload 11, 2) := by decide +kernel
theorem dX7_equalDown_102 : decode cX7_equalDown 102 = .ok (.invokevirtual 57, 3) := by decide +kernel
theorem dX7_equalDown_105 : decode cX7_equalDown 105 = .ok (.aload_n 0, 1) := by decide +kernel
theorem dX7_equalDown_106 : decode cX7_equalDown 106 = .ok (.iload 9, 2) := by decide +kernel
theorem dX7_equalDown_108 : decode cX7_equalDown 108 = .ok (.iload 11, 2) := by decide +kernel
theorem dX7_equalDown_110 : decode cX7_equalDown 110 = .ok (.invokevirtual 60, 3) := by decide +kernel
theorem dX7_equalDown_113 : decode cX7_equalDown 113 = .ok (.iload 7, 2) := by decide +kernel
theorem dX7_equalDown_115 : decode cX7_equalDown 115 = .ok (.iconst 1, 1) := by decide +kernel
theorem dX7_equalDown_116 : decode cX7_equalDown 116 = .ok (.iadd, 1) := by decide +kernel
theorem dX7_equalDown_117 : decode cX7_equalDown 117 = .ok (.invokevirtual 109, 3) := by decide +kernel
theorem dX7_equalDown_120 : decode cX7_equalDown 120 = .ok (.ifCond .ne 5, 3) := by decide +kernel
theorem dX7_equalDown_123 : decode cX7_equalDown 123 = .ok (.iconst 0, 1) := by decide +kernel
theorem dX7_equalDown_124 : decode cX7_equalDown 124 = .ok (.ireturn, 1) := by decide +kernel
theorem dX7_equalDown_125 : decode cX7_equalDown 125 = .ok (.iinc 11 1, 3) := by decide +kernel
theorem dX7_equalDown_128 : decode cX7_equalDown 128 = .ok (.goto (-62), 3) := by decide +kernel
theorem dX7_equalDown_131 : decode cX7_equalDown 131 = .ok (.iconst 1, 1) := by decide +kernel
theorem dX7_equalDown_132 : decode cX7_equalDown 132 = .ok (.ireturn, 1) := by decide +kernel
theorem dX7_hashOf_0 : decode cX7_hashOf 0 = .ok (.aload_n 0, 1) := by decide +kernel
theorem dX7_hashOf_1 : decode cX7_hashOf 1 = .ok (.invokevirtual 95, 3) := by decide +kernel
theorem dX7_hashOf_4 : decode cX7_hashOf 4 = .ok (.aload_n 0, 1) := by decide +kernel
theorem dX7_hashOf_5 : decode cX7_hashOf 5 = .ok (.aload_n 1, 1) := by decide +kernel
theorem dX7_hashOf_6 : decode cX7_hashOf 6 = .ok (.getfield 98, 3) := by decide +kernel
theorem dX7_hashOf_9 : decode cX7_hashOf 9 = .ok (.aload_n 1, 1) := by decide +kernel
theorem dX7_hashOf_10 : decode cX7_hashOf 10 = .ok (.getfield 101, 3) := by decide +kernel
theorem dX7_hashOf_13 : decode cX7_hashOf 13 = .ok (.iconst 0, 1) := by decide +kernel
theorem dX7_hashOf_14 : decode cX7_hashOf 14 = .ok (.invokevirtual 105, 3) := by decide +kernel
theorem dX7_hashOf_17 : decode cX7_hashOf 17 = .ok (.ireturn, 1) := by decide +kernel
theorem dX7_areEqual_0 : decode cX7_areEqual 0 = .ok (.aload_n 0, 1) := by decide +kernel
theorem dX7_areEqual_1 : decode cX7_areEqual 1 = .ok (.invokevirtual 95, 3) := by decide +kernel
theorem dX7_areEqual_4 : decode cX7_areEqual 4 = .ok (.aload_n 0, 1) := by decide +kernel
theorem dX7_areEqual_5 : decode cX7_areEqual 5 = .ok (.aload_n 1, 1) := by decide +kernel
theorem dX7_areEqual_6 : decode cX7_areEqual 6 = .ok (.getfield 98, 3) := by decide +kernel
theorem dX7_areEqual_9 : decode cX7_areEqual 9 = .ok (.aload_n 1, 1) := by decide +kernel
theorem dX7_areEqual_10 : decode cX7_areEqual 10 = .ok (.getfield 101, 3) := by decide +kernel
theorem dX7_areEqual_13 : decode cX7_areEqual 13 = .ok (.aload_n 2, 1) := by decide +kernel
theorem dX7_areEqual_14 : decode cX7_areEqual 14 = .ok (.getfield 98, 3) := by decide +kernel
theorem dX7_areEqual_17 : decode cX7_areEqual 17 = .ok (.aload_n 2, 1) := by decide +kernel
theorem dX7_areEqual_18 : decode cX7_areEqual 18 = .ok (.getfield 101, 3) := by decide +kernel
theorem dX7_areEqual_21 : decode cX7_areEqual 21 = .ok (.iconst 0, 1) := by decide +kernel
theorem dX7_areEqual_22 : decode cX7_areEqual 22 = .ok (.invokevirtual 109, 3) := by decide +kernel
theorem dX7_areEqual_25 : decode cX7_areEqual 25 = .ok (.ireturn, 1) := by decide +kernel

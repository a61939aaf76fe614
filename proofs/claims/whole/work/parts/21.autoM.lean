
theorem d_Mod_argumentAt_0 : decode b_Mod_argumentAt 0 = .ok (.iload_n 1, 1) := by decide +kernel
theorem d_Mod_argumentAt_1 : decode b_Mod_argumentAt 1 = .ok (.iload_n 2, 1) := by decide +kernel
theorem d_Mod_argumentAt_2 : decode b_Mod_argumentAt 2 = .ok (.iadd, 1) := by decide +kernel
theorem d_Mod_argumentAt_3 : decode b_Mod_argumentAt 3 = .ok (.iconst 1, 1) := by decide +kernel
theorem d_Mod_argumentAt_4 : decode b_Mod_argumentAt 4 = .ok (.isub, 1) := by decide +kernel
theorem d_Mod_argumentAt_5 : decode b_Mod_argumentAt 5 = .ok (.aload_n 0, 1) := by decide +kernel
theorem d_Mod_argumentAt_6 : decode b_Mod_argumentAt 6 = .ok (.getfield 437, 3) := by decide +kernel
theorem d_Mod_argumentAt_9 : decode b_Mod_argumentAt 9 = .ok (.if_icmp .ge 16, 3) := by decide +kernel
theorem d_Mod_argumentAt_12 : decode b_Mod_argumentAt 12 = .ok (.aload_n 0, 1) := by decide +kernel
theorem d_Mod_argumentAt_13 : decode b_Mod_argumentAt 13 = .ok (.getfield 75, 3) := by decide +kernel
theorem d_Mod_argumentAt_16 : decode b_Mod_argumentAt 16 = .ok (.iload_n 1, 1) := by decide +kernel
theorem d_Mod_argumentAt_17 : decode b_Mod_argumentAt 17 = .ok (.iload_n 2, 1) := by decide +kernel
theorem d_Mod_argumentAt_18 : decode b_Mod_argumentAt 18 = .ok (.iadd, 1) := by decide +kernel
theorem d_Mod_argumentAt_19 : decode b_Mod_argumentAt 19 = .ok (.iconst 1, 1) := by decide +kernel
theorem d_Mod_argumentAt_20 : decode b_Mod_argumentAt 20 = .ok (.isub, 1) := by decide +kernel
theorem d_Mod_argumentAt_21 : decode b_Mod_argumentAt 21 = .ok (.iaload, 1) := by decide +kernel
theorem d_Mod_argumentAt_22 : decode b_Mod_argumentAt 22 = .ok (.goto 12, 3) := by decide +kernel
theorem d_Mod_argumentAt_25 : decode b_Mod_argumentAt 25 = .ok (.aload_n 0, 1) := by decide +kernel
theorem d_Mod_argumentAt_26 : decode b_Mod_argumentAt 26 = .ok (.getfield 75, 3) := by decide +kernel
theorem d_Mod_argumentAt_29 : decode b_Mod_argumentAt 29 = .ok (.aload_n 0, 1) := by decide +kernel
theorem d_Mod_argumentAt_30 : decode b_Mod_argumentAt 30 = .ok (.getfield 437, 3) := by decide +kernel
theorem d_Mod_argumentAt_33 : decode b_Mod_argumentAt 33 = .ok (.iaload, 1) := by decide +kernel
theorem d_Mod_argumentAt_34 : decode b_Mod_argumentAt 34 = .ok (.ireturn, 1) := by decide +kernel
theorem d_Mod_argumentSize_0 : decode b_Mod_argumentSize 0 = .ok (.iload_n 1, 1) := by decide +kernel
theorem d_Mod_argumentSize_1 : decode b_Mod_argumentSize 1 = .ok (.iload_n 2, 1) := by decide +kernel
theorem d_Mod_argumentSize_2 : decode b_Mod_argumentSize 2 = .ok (.iadd, 1) := by decide +kernel
theorem d_Mod_argumentSize_3 : decode b_Mod_argumentSize 3 = .ok (.iconst 1, 1) := by decide +kernel
theorem d_Mod_argumentSize_4 : decode b_Mod_argumentSize 4 = .ok (.isub, 1) := by decide +kernel
theorem d_Mod_argumentSize_5 : decode b_Mod_argumentSize 5 = .ok (.aload_n 0, 1) := by decide +kernel
theorem d_Mod_argumentSize_6 : decode b_Mod_argumentSize 6 = .ok (.getfield 437, 3) := by decide +kernel
theorem d_Mod_argumentSize_9 : decode b_Mod_argumentSize 9 = .ok (.if_icmp .ge 25, 3) := by decide +kernel
theorem d_Mod_argumentSize_12 : decode b_Mod_argumentSize 12 = .ok (.aload_n 0, 1) := by decide +kernel
theorem d_Mod_argumentSize_13 : decode b_Mod_argumentSize 13 = .ok (.getfield 75, 3) := by decide +kernel
theorem d_Mod_argumentSize_16 : decode b_Mod_argumentSize 16 = .ok (.iload_n 1, 1) := by decide +kernel
theorem d_Mod_argumentSize_17 : decode b_Mod_argumentSize 17 = .ok (.iload_n 2, 1) := by decide +kernel
theorem d_Mod_argumentSize_18 : decode b_Mod_argumentSize 18 = .ok (.iadd, 1) := by decide +kernel
theorem d_Mod_argumentSize_19 : decode b_Mod_argumentSize 19 = .ok (.iaload, 1) := by decide +kernel
theorem d_Mod_argumentSize_20 : decode b_Mod_argumentSize 20 = .ok (.aload_n 0, 1) := by decide +kernel
theorem d_Mod_argumentSize_21 : decode b_Mod_argumentSize 21 = .ok (.getfield 75, 3) := by decide +kernel
theorem d_Mod_argumentSize_24 : decode b_Mod_argumentSize 24 = .ok (.iload_n 1, 1) := by decide +kernel
theorem d_Mod_argumentSize_25 : decode b_Mod_argumentSize 25 = .ok (.iload_n 2, 1) := by decide +kernel
theorem d_Mod_argumentSize_26 : decode b_Mod_argumentSize 26 = .ok (.iadd, 1) := by decide +kernel
theorem d_Mod_argumentSize_27 : decode b_Mod_argumentSize 27 = .ok (.iconst 1, 1) := by decide +kernel
theorem d_Mod_argumentSize_28 : decode b_Mod_argumentSize 28 = .ok (.isub, 1) := by decide +kernel
theorem d_Mod_argumentSize_29 : decode b_Mod_argumentSize 29 = .ok (.iaload, 1) := by decide +kernel
theorem d_Mod_argumentSize_30 : decode b_Mod_argumentSize 30 = .ok (.isub, 1) := by decide +kernel
theorem d_Mod_argumentSize_31 : decode b_Mod_argumentSize 31 = .ok (.goto 4, 3) := by decide +kernel
theorem d_Mod_argumentSize_34 : decode b_Mod_argumentSize 34 = .ok (.iconst 0, 1) := by decide +kernel
theorem d_Mod_argumentSize_35 : decode b_Mod_argumentSize 35 = .ok (.ireturn, 1) := by decide +kernel
theorem d_Mod_beginArgument_0 : decode b_Mod_beginArgument 0 = .ok (.aload_n 0, 1) := by decide +kernel
theorem d_Mod_beginArgument_1 : decode b_Mod_beginArgument 1 = .ok (.getfield 262, 3) := by decide +kernel
theorem d_Mod_beginArgument_4 : decode b_Mod_beginArgument 4 = .ok (.ifCond .ne 19, 3) := by decide +kernel
theorem d_Mod_beginArgument_7 : decode b_Mod_beginArgument 7 = .ok (.aload_n 0, 1) := by decide +kernel
theorem d_Mod_beginArgument_8 : decode b_Mod_beginArgument 8 = .ok (.getfield 437, 3) := by decide +kernel
theorem d_Mod_beginArgument_11 : decode b_Mod_beginArgument 11 = .ok (.sipush 8192, 3) := by decide +kernel
theorem d_Mod_beginArgument_14 : decode b_Mod_beginArgument 14 = .ok (.if_icmp .ne 9, 3) := by decide +kernel
theorem d_Mod_beginArgument_17 : decode b_Mod_beginArgument 17 = .ok (.aload_n 0, 1) := by decide +kernel
theorem d_Mod_beginArgument_18 : decode b_Mod_beginArgument 18 = .ok (.bipush 40, 2) := by decide +kernel
theorem d_Mod_beginArgument_20 : decode b_Mod_beginArgument 20 = .ok (.invokevirtual 277, 3) := by decide +kernel
theorem d_Mod_beginArgument_23 : decode b_Mod_beginArgument 23 = .ok (.aload_n 0, 1) := by decide +kernel
theorem d_Mod_beginArgument_24 : decode b_Mod_beginArgument 24 = .ok (.getfield 262, 3) := by decide +kernel
theorem d_Mod_beginArgument_27 : decode b_Mod_beginArgument 27 = .ok (.ifCond .ne 26, 3) := by decide +kernel
theorem d_Mod_beginArgument_30 : decode b_Mod_beginArgument 30 = .ok (.aload_n 0, 1) := by decide +kernel
theorem d_Mod_beginArgument_31 : decode b_Mod_beginArgument 31 = .ok (.getfield 75, 3) := by decide +kernel
theorem d_Mod_beginArgument_34 : decode b_Mod_beginArgument 34 = .ok (.aload_n 0, 1) := by decide +kernel
theorem d_Mod_beginArgument_35 : decode b_Mod_beginArgument 35 = .ok (.getfield 437, 3) := by decide +kernel
theorem d_Mod_beginArgument_38 : decode b_Mod_beginArgument 38 = .ok (.aload_n 0, 1) := by decide +kernel
theorem d_Mod_beginArgument_39 : decode b_Mod_beginArgument 39 = .ok (.getfield 420, 3) := by decide +kernel
theorem d_Mod_beginArgument_42 : decode b_Mod_beginArgument 42 = .ok (.iastore, 1) := by decide +kernel
theorem d_Mod_beginArgument_43 : decode b_Mod_beginArgument 43 = .ok (.aload_n 0, 1) := by decide +kernel
theorem d_Mod_beginArgument_44 : decode b_Mod_beginArgument 44 = .ok (.dup, 1) := by decide +kernel
theorem d_Mod_beginArgument_45 : decode b_Mod_beginArgument 45 = .ok (.getfield 437, 3) := by decide +kernel
theorem d_Mod_beginArgument_48 : decode b_Mod_beginArgument 48 = .ok (.iconst 1, 1) := by decide +kernel
theorem d_Mod_beginArgument_49 : decode b_Mod_beginArgument 49 = .ok (.iadd, 1) := by decide +kernel
theorem d_Mod_beginArgument_50 : decode b_Mod_beginArgument 50 = .ok (.putfield 437, 3) := by decide +kernel
theorem d_Mod_beginArgument_53 : decode b_Mod_beginArgument 53 = .ok (.return_, 1) := by decide +kernel
theorem d_Mod_beginIf_0 : decode b_Mod_beginIf 0 = .ok (.aload_n 0, 1) := by decide +kernel
theorem d_Mod_beginIf_1 : decode b_Mod_beginIf 1 = .ok (.getfield 786, 3) := by decide +kernel
theorem d_Mod_beginIf_4 : decode b_Mod_beginIf 4 = .ok (.bipush 100, 2) := by decide +kernel
theorem d_Mod_beginIf_6 : decode b_Mod_beginIf 6 = .ok (.if_icmp .ne 11, 3) := by decide +kernel
theorem d_Mod_beginIf_9 : decode b_Mod_beginIf 9 = .ok (.aload_n 0, 1) := by decide +kernel
theorem d_Mod_beginIf_10 : decode b_Mod_beginIf 10 = .ok (.bipush 21, 2) := by decide +kernel
theorem d_Mod_beginIf_12 : decode b_Mod_beginIf 12 = .ok (.iload_n 3, 1) := by decide +kernel
theorem d_Mod_beginIf_13 : decode b_Mod_beginIf 13 = .ok (.invokevirtual 628, 3) := by decide +kernel
theorem d_Mod_beginIf_16 : decode b_Mod_beginIf 16 = .ok (.return_, 1) := by decide +kernel
theorem d_Mod_beginIf_17 : decode b_Mod_beginIf 17 = .ok (.aload_n 0, 1) := by decide +kernel
theorem d_Mod_beginIf_18 : decode b_Mod_beginIf 18 = .ok (.getfield 200, 3) := by decide +kernel
theorem d_Mod_beginIf_21 : decode b_Mod_beginIf 21 = .ok (.aload_n 0, 1) := by decide +kernel
theorem d_Mod_beginIf_22 : decode b_Mod_beginIf 22 = .ok (.getfield 786, 3) := by decide +kernel
theorem d_Mod_beginIf_25 : decode b_Mod_beginIf 25 = .ok (.iload_n 3, 1) := by decide +kernel
theorem d_Mod_beginIf_26 : decode b_Mod_beginIf 26 = .ok (.iastore, 1) := by decide +kernel
theorem d_Mod_beginIf_27 : decode b_Mod_beginIf 27 = .ok (.aload_n 0, 1) := by decide +kernel
theorem d_Mod_beginIf_28 : decode b_Mod_beginIf 28 = .ok (.getfield 203, 3) := by decide +kernel
theorem d_Mod_beginIf_31 : decode b_Mod_beginIf 31 = .ok (.aload_n 0, 1) := by decide +kernel
theorem d_Mod_beginIf_32 : decode b_Mod_beginIf 32 = .ok (.getfield 786, 3) := by decide +kernel
theorem d_Mod_beginIf_35 : decode b_Mod_beginIf 35 = .ok (.iload_n 1, 1) := by decide +kernel
theorem d_Mod_beginIf_36 : decode b_Mod_beginIf 36 = .ok (.bastore, 1) := by decide +kernel
theorem d_Mod_beginIf_37 : decode b_Mod_beginIf 37 = .ok (.aload_n 0, 1) := by decide +kernel
theorem d_Mod_beginIf_38 : decode b_Mod_beginIf 38 = .ok (.getfield 209, 3) := by decide +kernel
theorem d_Mod_beginIf_41 : decode b_Mod_beginIf 41 = .ok (.aload_n 0, 1) := by decide +kernel
theorem d_Mod_beginIf_42 : decode b_Mod_beginIf 42 = .ok (.getfield 786, 3) := by decide +kernel
theorem d_Mod_beginIf_45 : decode b_Mod_beginIf 45 = .ok (.iload_n 2, 1) := by decide +kernel
theorem d_Mod_beginIf_46 : decode b_Mod_beginIf 46 = .ok (.bastore, 1) := by decide +kernel
theorem d_Mod_beginIf_47 : decode b_Mod_beginIf 47 = .ok (.aload_n 0, 1) := by decide +kernel
theorem d_Mod_beginIf_48 : decode b_Mod_beginIf 48 = .ok (.getfield 206, 3) := by decide +kernel
theorem d_Mod_beginIf_51 : decode b_Mod_beginIf 51 = .ok (.aload_n 0, 1) := by decide +kernel
theorem d_Mod_beginIf_52 : decode b_Mod_beginIf 52 = .ok (.getfield 786, 3) := by decide +kernel
theorem d_Mod_beginIf_55 : decode b_Mod_beginIf 55 = .ok (.iload_n 2, 1) := by decide +kernel
theorem d_Mod_beginIf_56 : decode b_Mod_beginIf 56 = .ok (.bastore, 1) := by decide +kernel
theorem d_Mod_beginIf_57 : decode b_Mod_beginIf 57 = .ok (.aload_n 0, 1) := by decide +kernel
theorem d_Mod_beginIf_58 : decode b_Mod_beginIf 58 = .ok (.getfield 212, 3) := by decide +kernel
theorem d_Mod_beginIf_61 : decode b_Mod_beginIf 61 = .ok (.aload_n 0, 1) := by decide +kernel
theorem d_Mod_beginIf_62 : decode b_Mod_beginIf 62 = .ok (.getfield 786, 3) := by decide +kernel
theorem d_Mod_beginIf_65 : decode b_Mod_beginIf 65 = .ok (.iconst 0, 1) := by decide +kernel
theorem d_Mod_beginIf_66 : decode b_Mod_beginIf 66 = .ok (.bastore, 1) := by decide +kernel
theorem d_Mod_beginIf_67 : decode b_Mod_beginIf 67 = .ok (.aload_n 0, 1) := by decide +kernel
theorem d_Mod_beginIf_68 : decode b_Mod_beginIf 68 = .ok (.dup, 1) := by decide +kernel
theorem d_Mod_beginIf_69 : decode b_Mod_beginIf 69 = .ok (.getfield 786, 3) := by decide +kernel
theorem d_Mod_beginIf_72 : decode b_Mod_beginIf 72 = .ok (.iconst 1, 1) := by decide +kernel
theorem d_Mod_beginIf_73 : decode b_Mod_beginIf 73 = .ok (.iadd, 1) := by decide +kernel
theorem d_Mod_beginIf_74 : decode b_Mod_beginIf 74 = .ok (.putfield 786, 3) := by decide +kernel
theorem d_Mod_beginIf_77 : decode b_Mod_beginIf 77 = .ok (.return_, 1) := by decide +kernel
theorem d_Mod_bodyCell_0 : decode b_Mod_bodyCell 0 = .ok (.aload_n 0, 1) := by decide +kernel
theorem d_Mod_bodyCell_1 : decode b_Mod_bodyCell 1 = .ok (.aload_n 0, 1) := by decide +kernel
theorem d_Mod_bodyCell_2 : decode b_Mod_bodyCell 2 = .ok (.getfield 142, 3) := by decide +kernel
theorem d_Mod_bodyCell_5 : decode b_Mod_bodyCell 5 = .ok (.iload_n 1, 1) := by decide +kernel
theorem d_Mod_bodyCell_6 : decode b_Mod_bodyCell 6 = .ok (.iaload, 1) := by decide +kernel
theorem d_Mod_bodyCell_7 : decode b_Mod_bodyCell 7 = .ok (.aload_n 0, 1) := by decide +kernel
theorem d_Mod_bodyCell_8 : decode b_Mod_bodyCell 8 = .ok (.getfield 145, 3) := by decide +kernel
theorem d_Mod_bodyCell_11 : decode b_Mod_bodyCell 11 = .ok (.iload_n 1, 1) := by decide +kernel
theorem d_Mod_bodyCell_12 : decode b_Mod_bodyCell 12 = .ok (.iaload, 1) := by decide +kernel
theorem d_Mod_bodyCell_13 : decode b_Mod_bodyCell 13 = .ok (.iload_n 2, 1) := by decide +kernel
theorem d_Mod_bodyCell_14 : decode b_Mod_bodyCell 14 = .ok (.aload_n 0, 1) := by decide +kernel
theorem d_Mod_bodyCell_15 : decode b_Mod_bodyCell 15 = .ok (.getfield 148, 3) := by decide +kernel
theorem d_Mod_bodyCell_18 : decode b_Mod_bodyCell 18 = .ok (.iload_n 1, 1) := by decide +kernel
theorem d_Mod_bodyCell_19 : decode b_Mod_bodyCell 19 = .ok (.baload, 1) := by decide +kernel
theorem d_Mod_bodyCell_20 : decode b_Mod_bodyCell 20 = .ok (.iconst 0, 1) := by decide +kernel
theorem d_Mod_bodyCell_21 : decode b_Mod_bodyCell 21 = .ok (.invokevirtual 581, 3) := by decide +kernel
theorem d_Mod_bodyCell_24 : decode b_Mod_bodyCell 24 = .ok (.ireturn, 1) := by decide +kernel
theorem d_Mod_byteAt_0 : decode b_Mod_byteAt 0 = .ok (.iload_n 1, 1) := by decide +kernel
theorem d_Mod_byteAt_1 : decode b_Mod_byteAt 1 = .ok (.iload_n 2, 1) := by decide +kernel
theorem d_Mod_byteAt_2 : decode b_Mod_byteAt 2 = .ok (.if_icmp .ge 13, 3) := by decide +kernel
theorem d_Mod_byteAt_5 : decode b_Mod_byteAt 5 = .ok (.aload_n 0, 1) := by decide +kernel
theorem d_Mod_byteAt_6 : decode b_Mod_byteAt 6 = .ok (.iload_n 1, 1) := by decide +kernel
theorem d_Mod_byteAt_7 : decode b_Mod_byteAt 7 = .ok (.baload, 1) := by decide +kernel
theorem d_Mod_byteAt_8 : decode b_Mod_byteAt 8 = .ok (.sipush 255, 3) := by decide +kernel
theorem d_Mod_byteAt_11 : decode b_Mod_byteAt 11 = .ok (.iand, 1) := by decide +kernel
theorem d_Mod_byteAt_12 : decode b_Mod_byteAt 12 = .ok (.goto 4, 3) := by decide +kernel
theorem d_Mod_byteAt_15 : decode b_Mod_byteAt 15 = .ok (.iconst (-1), 1) := by decide +kernel
theorem d_Mod_byteAt_16 : decode b_Mod_byteAt 16 = .ok (.ireturn, 1) := by decide +kernel
theorem d_Mod_byteOf_0 : decode b_Mod_byteOf 0 = .ok (.aload_n 0, 1) := by decide +kernel
theorem d_Mod_byteOf_1 : decode b_Mod_byteOf 1 = .ok (.getfield 85, 3) := by decide +kernel
theorem d_Mod_byteOf_4 : decode b_Mod_byteOf 4 = .ok (.aload_n 0, 1) := by decide +kernel
theorem d_Mod_byteOf_5 : decode b_Mod_byteOf 5 = .ok (.getfield 99, 3) := by decide +kernel
theorem d_Mod_byteOf_8 : decode b_Mod_byteOf 8 = .ok (.iload_n 1, 1) := by decide +kernel
theorem d_Mod_byteOf_9 : decode b_Mod_byteOf 9 = .ok (.iaload, 1) := by decide +kernel
theorem d_Mod_byteOf_10 : decode b_Mod_byteOf 10 = .ok (.iload_n 2, 1) := by decide +kernel
theorem d_Mod_byteOf_11 : decode b_Mod_byteOf 11 = .ok (.iadd, 1) := by decide +kernel
theorem d_Mod_byteOf_12 : decode b_Mod_byteOf 12 = .ok (.baload, 1) := by decide +kernel
theorem d_Mod_byteOf_13 : decode b_Mod_byteOf 13 = .ok (.sipush 255, 3) := by decide +kernel
theorem d_Mod_byteOf_16 : decode b_Mod_byteOf 16 = .ok (.iand, 1) := by decide +kernel
theorem d_Mod_byteOf_17 : decode b_Mod_byteOf 17 = .ok (.ireturn, 1) := by decide +kernel
theorem d_Mod_cell_0 : decode b_Mod_cell 0 = .ok (.aload_n 0, 1) := by decide +kernel
theorem d_Mod_cell_1 : decode b_Mod_cell 1 = .ok (.getfield 578, 3) := by decide +kernel
theorem d_Mod_cell_4 : decode b_Mod_cell 4 = .ok (.istore 6, 2) := by decide +kernel
theorem d_Mod_cell_6 : decode b_Mod_cell 6 = .ok (.aload_n 0, 1) := by decide +kernel
theorem d_Mod_cell_7 : decode b_Mod_cell 7 = .ok (.dup, 1) := by decide +kernel
theorem d_Mod_cell_8 : decode b_Mod_cell 8 = .ok (.getfield 578, 3) := by decide +kernel
theorem d_Mod_cell_11 : decode b_Mod_cell 11 = .ok (.iconst 1, 1) := by decide +kernel
theorem d_Mod_cell_12 : decode b_Mod_cell 12 = .ok (.iadd, 1) := by decide +kernel
theorem d_Mod_cell_13 : decode b_Mod_cell 13 = .ok (.putfield 578, 3) := by decide +kernel
theorem d_Mod_cell_16 : decode b_Mod_cell 16 = .ok (.aload_n 0, 1) := by decide +kernel
theorem d_Mod_cell_17 : decode b_Mod_cell 17 = .ok (.getfield 99, 3) := by decide +kernel
theorem d_Mod_cell_20 : decode b_Mod_cell 20 = .ok (.iload 6, 2) := by decide +kernel
theorem d_Mod_cell_22 : decode b_Mod_cell 22 = .ok (.iload_n 1, 1) := by decide +kernel
theorem d_Mod_cell_23 : decode b_Mod_cell 23 = .ok (.iastore, 1) := by decide +kernel
theorem d_Mod_cell_24 : decode b_Mod_cell 24 = .ok (.aload_n 0, 1) := by decide +kernel
theorem d_Mod_cell_25 : decode b_Mod_cell 25 = .ok (.getfield 102, 3) := by decide +kernel
theorem d_Mod_cell_28 : decode b_Mod_cell 28 = .ok (.iload 6, 2) := by decide +kernel
theorem d_Mod_cell_30 : decode b_Mod_cell 30 = .ok (.iload_n 2, 1) := by decide +kernel
theorem d_Mod_cell_31 : decode b_Mod_cell 31 = .ok (.iastore, 1) := by decide +kernel
theorem d_Mod_cell_32 : decode b_Mod_cell 32 = .ok (.aload_n 0, 1) := by decide +kernel
theorem d_Mod_cell_33 : decode b_Mod_cell 33 = .ok (.getfield 105, 3) := by decide +kernel
theorem d_Mod_cell_36 : decode b_Mod_cell 36 = .ok (.iload 6, 2) := by decide +kernel
theorem d_Mod_cell_38 : decode b_Mod_cell 38 = .ok (.iload_n 3, 1) := by decide +kernel
theorem d_Mod_cell_39 : decode b_Mod_cell 39 = .ok (.iastore, 1) := by decide +kernel
theorem d_Mod_cell_40 : decode b_Mod_cell 40 = .ok (.aload_n 0, 1) := by decide +kernel
theorem d_Mod_cell_41 : decode b_Mod_cell 41 = .ok (.getfield 108, 3) := by decide +kernel
theorem d_Mod_cell_44 : decode b_Mod_cell 44 = .ok (.iload 6, 2) := by decide +kernel
theorem d_Mod_cell_46 : decode b_Mod_cell 46 = .ok (.iconst 0, 1) := by decide +kernel
theorem d_Mod_cell_47 : decode b_Mod_cell 47 = .ok (.iastore, 1) := by decide +kernel
theorem d_Mod_cell_48 : decode b_Mod_cell 48 = .ok (.aload_n 0, 1) := by decide +kernel
theorem d_Mod_cell_49 : decode b_Mod_cell 49 = .ok (.getfield 111, 3) := by decide +kernel
theorem d_Mod_cell_52 : decode b_Mod_cell 52 = .ok (.iload 6, 2) := by decide +kernel
theorem d_Mod_cell_54 : decode b_Mod_cell 54 = .ok (.iconst (-1), 1) := by decide +kernel
theorem d_Mod_cell_55 : decode b_Mod_cell 55 = .ok (.iastore, 1) := by decide +kernel
theorem d_Mod_cell_56 : decode b_Mod_cell 56 = .ok (.aload_n 0, 1) := by decide +kernel
theorem d_Mod_cell_57 : decode b_Mod_cell 57 = .ok (.getfield 114, 3) := by decide +kernel
theorem d_Mod_cell_60 : decode b_Mod_cell 60 = .ok (.iload 6, 2) := by decide +kernel
theorem d_Mod_cell_62 : decode b_Mod_cell 62 = .ok (.iload 4, 2) := by decide +kernel
theorem d_Mod_cell_64 : decode b_Mod_cell 64 = .ok (.bastore, 1) := by decide +kernel
theorem d_Mod_cell_65 : decode b_Mod_cell 65 = .ok (.aload_n 0, 1) := by decide +kernel
theorem d_Mod_cell_66 : decode b_Mod_cell 66 = .ok (.getfield 118, 3) := by decide +kernel
theorem d_Mod_cell_69 : decode b_Mod_cell 69 = .ok (.iload 6, 2) := by decide +kernel
theorem d_Mod_cell_71 : decode b_Mod_cell 71 = .ok (.iload 5, 2) := by decide +kernel
theorem d_Mod_cell_73 : decode b_Mod_cell 73 = .ok (.bastore, 1) := by decide +kernel
theorem d_Mod_cell_74 : decode b_Mod_cell 74 = .ok (.iload 6, 2) := by decide +kernel
theorem d_Mod_cell_76 : decode b_Mod_cell 76 = .ok (.ireturn, 1) := by decide +kernel
theorem d_Mod_copy_0 : decode b_Mod_copy 0 = .ok (.aload_n 0, 1) := by decide +kernel
theorem d_Mod_copy_1 : decode b_Mod_copy 1 = .ok (.aload_n 0, 1) := by decide +kernel
theorem d_Mod_copy_2 : decode b_Mod_copy 2 = .ok (.getfield 99, 3) := by decide +kernel
theorem d_Mod_copy_5 : decode b_Mod_copy 5 = .ok (.iload_n 1, 1) := by decide +kernel
theorem d_Mod_copy_6 : decode b_Mod_copy 6 = .ok (.iaload, 1) := by decide +kernel
theorem d_Mod_copy_7 : decode b_Mod_copy 7 = .ok (.aload_n 0, 1) := by decide +kernel
theorem d_Mod_copy_8 : decode b_Mod_copy 8 = .ok (.getfield 102, 3) := by decide +kernel
theorem d_Mod_copy_11 : decode b_Mod_copy 11 = .ok (.iload_n 1, 1) := by decide +kernel
theorem d_Mod_copy_12 : decode b_Mod_copy 12 = .ok (.iaload, 1) := by decide +kernel
theorem d_Mod_copy_13 : decode b_Mod_copy 13 = .ok (.aload_n 0, 1) := by decide +kernel
theorem d_Mod_copy_14 : decode b_Mod_copy 14 = .ok (.getfield 105, 3) := by decide +kernel
theorem d_Mod_copy_17 : decode b_Mod_copy 17 = .ok (.iload_n 1, 1) := by decide +kernel
theorem d_Mod_copy_18 : decode b_Mod_copy 18 = .ok (.iaload, 1) := by decide +kernel
theorem d_Mod_copy_19 : decode b_Mod_copy 19 = .ok (.aload_n 0, 1) := by decide +kernel
theorem d_Mod_copy_20 : decode b_Mod_copy 20 = .ok (.getfield 114, 3) := by decide +kernel
theorem d_Mod_copy_23 : decode b_Mod_copy 23 = .ok (.iload_n 1, 1) := by decide +kernel
theorem d_Mod_copy_24 : decode b_Mod_copy 24 = .ok (.baload, 1) := by decide +kernel
theorem d_Mod_copy_25 : decode b_Mod_copy 25 = .ok (.aload_n 0, 1) := by decide +kernel
theorem d_Mod_copy_26 : decode b_Mod_copy 26 = .ok (.getfield 118, 3) := by decide +kernel
theorem d_Mod_copy_29 : decode b_Mod_copy 29 = .ok (.iload_n 1, 1) := by decide +kernel
theorem d_Mod_copy_30 : decode b_Mod_copy 30 = .ok (.baload, 1) := by decide +kernel
theorem d_Mod_copy_31 : decode b_Mod_copy 31 = .ok (.invokevirtual 581, 3) := by decide +kernel
theorem d_Mod_copy_34 : decode b_Mod_copy 34 = .ok (.istore_n 2, 1) := by decide +kernel
theorem d_Mod_copy_35 : decode b_Mod_copy 35 = .ok (.aload_n 0, 1) := by decide +kernel
theorem d_Mod_copy_36 : decode b_Mod_copy 36 = .ok (.getfield 108, 3) := by decide +kernel
theorem d_Mod_copy_39 : decode b_Mod_copy 39 = .ok (.iload_n 2, 1) := by decide +kernel
theorem d_Mod_copy_40 : decode b_Mod_copy 40 = .ok (.aload_n 0, 1) := by decide +kernel
theorem d_Mod_copy_41 : decode b_Mod_copy 41 = .ok (.getfield 108, 3) := by decide +kernel
theorem d_Mod_copy_44 : decode b_Mod_copy 44 = .ok (.iload_n 1, 1) := by decide +kernel
theorem d_Mod_copy_45 : decode b_Mod_copy 45 = .ok (.iaload, 1) := by decide +kernel
theorem d_Mod_copy_46 : decode b_Mod_copy 46 = .ok (.iastore, 1) := by decide +kernel
theorem d_Mod_copy_47 : decode b_Mod_copy 47 = .ok (.iload_n 2, 1) := by decide +kernel
theorem d_Mod_copy_48 : decode b_Mod_copy 48 = .ok (.ireturn, 1) := by decide +kernel
theorem d_Mod_countsNow_0 : decode b_Mod_countsNow 0 = .ok (.aload_n 0, 1) := by decide +kernel
theorem d_Mod_countsNow_1 : decode b_Mod_countsNow 1 = .ok (.getfield 786, 3) := by decide +kernel
theorem d_Mod_countsNow_4 : decode b_Mod_countsNow 4 = .ok (.ifCond .eq 31, 3) := by decide +kernel
theorem d_Mod_countsNow_7 : decode b_Mod_countsNow 7 = .ok (.aload_n 0, 1) := by decide +kernel
theorem d_Mod_countsNow_8 : decode b_Mod_countsNow 8 = .ok (.getfield 203, 3) := by decide +kernel
theorem d_Mod_countsNow_11 : decode b_Mod_countsNow 11 = .ok (.aload_n 0, 1) := by decide +kernel
theorem d_Mod_countsNow_12 : decode b_Mod_countsNow 12 = .ok (.getfield 786, 3) := by decide +kernel
theorem d_Mod_countsNow_15 : decode b_Mod_countsNow 15 = .ok (.iconst 1, 1) := by decide +kernel
theorem d_Mod_countsNow_16 : decode b_Mod_countsNow 16 = .ok (.isub, 1) := by decide +kernel
theorem d_Mod_countsNow_17 : decode b_Mod_countsNow 17 = .ok (.baload, 1) := by decide +kernel
theorem d_Mod_countsNow_18 : decode b_Mod_countsNow 18 = .ok (.ifCond .eq 21, 3) := by decide +kernel
theorem d_Mod_countsNow_21 : decode b_Mod_countsNow 21 = .ok (.aload_n 0, 1) := by decide +kernel
theorem d_Mod_countsNow_22 : decode b_Mod_countsNow 22 = .ok (.getfield 209, 3) := by decide +kernel
theorem d_Mod_countsNow_25 : decode b_Mod_countsNow 25 = .ok (.aload_n 0, 1) := by decide +kernel
theorem d_Mod_countsNow_26 : decode b_Mod_countsNow 26 = .ok (.getfield 786, 3) := by decide +kernel
theorem d_Mod_countsNow_29 : decode b_Mod_countsNow 29 = .ok (.iconst 1, 1) := by decide +kernel
theorem d_Mod_countsNow_30 : decode b_Mod_countsNow 30 = .ok (.isub, 1) := by decide +kernel
theorem d_Mod_countsNow_31 : decode b_Mod_countsNow 31 = .ok (.baload, 1) := by decide +kernel
theorem d_Mod_countsNow_32 : decode b_Mod_countsNow 32 = .ok (.ifCond .eq 7, 3) := by decide +kernel
theorem d_Mod_countsNow_35 : decode b_Mod_countsNow 35 = .ok (.iconst 1, 1) := by decide +kernel
theorem d_Mod_countsNow_36 : decode b_Mod_countsNow 36 = .ok (.goto 4, 3) := by decide +kernel
theorem d_Mod_countsNow_39 : decode b_Mod_countsNow 39 = .ok (.iconst 0, 1) := by decide +kernel
theorem d_Mod_countsNow_40 : decode b_Mod_countsNow 40 = .ok (.ireturn, 1) := by decide +kernel
theorem d_Mod_digitOf_0 : decode b_Mod_digitOf 0 = .ok (.iload_n 0, 1) := by decide +kernel
theorem d_Mod_digitOf_1 : decode b_Mod_digitOf 1 = .ok (.invokestatic 330, 3) := by decide +kernel
theorem d_Mod_digitOf_4 : decode b_Mod_digitOf 4 = .ok (.ifCond .eq 10, 3) := by decide +kernel
theorem d_Mod_digitOf_7 : decode b_Mod_digitOf 7 = .ok (.iload_n 0, 1) := by decide +kernel
theorem d_Mod_digitOf_8 : decode b_Mod_digitOf 8 = .ok (.bipush 48, 2) := by decide +kernel
theorem d_Mod_digitOf_10 : decode b_Mod_digitOf 10 = .ok (.isub, 1) := by decide +kernel
theorem d_Mod_digitOf_11 : decode b_Mod_digitOf 11 = .ok (.goto 43, 3) := by decide +kernel
theorem d_Mod_digitOf_14 : decode b_Mod_digitOf 14 = .ok (.iload_n 0, 1) := by decide +kernel
theorem d_Mod_digitOf_15 : decode b_Mod_digitOf 15 = .ok (.bipush 97, 2) := by decide +kernel
theorem d_Mod_digitOf_17 : decode b_Mod_digitOf 17 = .ok (.if_icmp .lt 16, 3) := by decide +kernel
theorem d_Mod_digitOf_20 : decode b_Mod_digitOf 20 = .ok (.iload_n 0, 1) := by decide +kernel
theorem d_Mod_digitOf_21 : decode b_Mod_digitOf 21 = .ok (.bipush 102, 2) := by decide +kernel
theorem d_Mod_digitOf_23 : decode b_Mod_digitOf 23 = .ok (.if_icmp .gt 10, 3) := by decide +kernel
theorem d_Mod_digitOf_26 : decode b_Mod_digitOf 26 = .ok (.iload_n 0, 1) := by decide +kernel
theorem d_Mod_digitOf_27 : decode b_Mod_digitOf 27 = .ok (.bipush 87, 2) := by decide +kernel
theorem d_Mod_digitOf_29 : decode b_Mod_digitOf 29 = .ok (.isub, 1) := by decide +kernel
theorem d_Mod_digitOf_30 : decode b_Mod_digitOf 30 = .ok (.goto 24, 3) := by decide +kernel
theorem d_Mod_digitOf_33 : decode b_Mod_digitOf 33 = .ok (.iload_n 0, 1) := by decide +kernel
theorem d_Mod_digitOf_34 : decode b_Mod_digitOf 34 = .ok (.bipush 65, 2) := by decide +kernel
theorem d_Mod_digitOf_36 : decode b_Mod_digitOf 36 = .ok (.if_icmp .lt 16, 3) := by decide +kernel
theorem d_Mod_digitOf_39 : decode b_Mod_digitOf 39 = .ok (.iload_n 0, 1) := by decide +kernel
theorem d_Mod_digitOf_40 : decode b_Mod_digitOf 40 = .ok (.bipush 70, 2) := by decide +kernel
theorem d_Mod_digitOf_42 : decode b_Mod_digitOf 42 = .ok (.if_icmp .gt 10, 3) := by decide +kernel
theorem d_Mod_digitOf_45 : decode b_Mod_digitOf 45 = .ok (.iload_n 0, 1) := by decide +kernel
theorem d_Mod_digitOf_46 : decode b_Mod_digitOf 46 = .ok (.bipush 55, 2) := by decide +kernel
theorem d_Mod_digitOf_48 : decode b_Mod_digitOf 48 = .ok (.isub, 1) := by decide +kernel
theorem d_Mod_digitOf_49 : decode b_Mod_digitOf 49 = .ok (.goto 5, 3) := by decide +kernel
theorem d_Mod_digitOf_52 : decode b_Mod_digitOf 52 = .ok (.bipush 99, 2) := by decide +kernel
theorem d_Mod_digitOf_54 : decode b_Mod_digitOf 54 = .ok (.ireturn, 1) := by decide +kernel
theorem d_Mod_divertByte_0 : decode b_Mod_divertByte 0 = .ok (.iload_n 1, 1) := by decide +kernel
theorem d_Mod_divertByte_1 : decode b_Mod_divertByte 1 = .ok (.ifCond .ge 4, 3) := by decide +kernel
theorem d_Mod_divertByte_4 : decode b_Mod_divertByte 4 = .ok (.return_, 1) := by decide +kernel
theorem d_Mod_divertByte_5 : decode b_Mod_divertByte 5 = .ok (.aload_n 0, 1) := by decide +kernel
theorem d_Mod_divertByte_6 : decode b_Mod_divertByte 6 = .ok (.getfield 410, 3) := by decide +kernel
theorem d_Mod_divertByte_9 : decode b_Mod_divertByte 9 = .ok (.ldc 20, 2) := by decide +kernel
theorem d_Mod_divertByte_11 : decode b_Mod_divertByte 11 = .ok (.if_icmp .ne 10, 3) := by decide +kernel
theorem d_Mod_divertByte_14 : decode b_Mod_divertByte 14 = .ok (.aload_n 0, 1) := by decide +kernel
theorem d_Mod_divertByte_15 : decode b_Mod_divertByte 15 = .ok (.bipush 40, 2) := by decide +kernel
theorem d_Mod_divertByte_17 : decode b_Mod_divertByte 17 = .ok (.invokevirtual 277, 3) := by decide +kernel
theorem d_Mod_divertByte_20 : decode b_Mod_divertByte 20 = .ok (.return_, 1) := by decide +kernel
theorem d_Mod_divertByte_21 : decode b_Mod_divertByte 21 = .ok (.aload_n 0, 1) := by decide +kernel
theorem d_Mod_divertByte_22 : decode b_Mod_divertByte 22 = .ok (.getfield 66, 3) := by decide +kernel
theorem d_Mod_divertByte_25 : decode b_Mod_divertByte 25 = .ok (.ldc 20, 2) := by decide +kernel
theorem d_Mod_divertByte_27 : decode b_Mod_divertByte 27 = .ok (.iload_n 1, 1) := by decide +kernel
theorem d_Mod_divertByte_28 : decode b_Mod_divertByte 28 = .ok (.imul, 1) := by decide +kernel
theorem d_Mod_divertByte_29 : decode b_Mod_divertByte 29 = .ok (.aload_n 0, 1) := by decide +kernel
theorem d_Mod_divertByte_30 : decode b_Mod_divertByte 30 = .ok (.getfield 69, 3) := by decide +kernel
theorem d_Mod_divertByte_33 : decode b_Mod_divertByte 33 = .ok (.iload_n 1, 1) := by decide +kernel
theorem d_Mod_divertByte_34 : decode b_Mod_divertByte 34 = .ok (.iaload, 1) := by decide +kernel
theorem d_Mod_divertByte_35 : decode b_Mod_divertByte 35 = .ok (.iadd, 1) := by decide +kernel
theorem d_Mod_divertByte_36 : decode b_Mod_divertByte 36 = .ok (.iload_n 2, 1) := by decide +kernel
theorem d_Mod_divertByte_37 : decode b_Mod_divertByte 37 = .ok (.i2b, 1) := by decide +kernel
theorem d_Mod_divertByte_38 : decode b_Mod_divertByte 38 = .ok (.bastore, 1) := by decide +kernel
theorem d_Mod_divertByte_39 : decode b_Mod_divertByte 39 = .ok (.aload_n 0, 1) := by decide +kernel
theorem d_Mod_divertByte_40 : decode b_Mod_divertByte 40 = .ok (.getfield 69, 3) := by decide +kernel
theorem d_Mod_divertByte_43 : decode b_Mod_divertByte 43 = .ok (.iload_n 1, 1) := by decide +kernel
theorem d_Mod_divertByte_44 : decode b_Mod_divertByte 44 = .ok (.dup2, 1) := by decide +kernel
theorem d_Mod_divertByte_45 : decode b_Mod_divertByte 45 = .ok (.iaload, 1) := by decide +kernel
theorem d_Mod_divertByte_46 : decode b_Mod_divertByte 46 = .ok (.iconst 1, 1) := by decide +kernel
theorem d_Mod_divertByte_47 : decode b_Mod_divertByte 47 = .ok (.iadd, 1) := by decide +kernel
theorem d_Mod_divertByte_48 : decode b_Mod_divertByte 48 = .ok (.iastore, 1) := by decide +kernel
theorem d_Mod_divertByte_49 : decode b_Mod_divertByte 49 = .ok (.aload_n 0, 1) := by decide +kernel
theorem d_Mod_divertByte_50 : decode b_Mod_divertByte 50 = .ok (.dup, 1) := by decide +kernel
theorem d_Mod_divertByte_51 : decode b_Mod_divertByte 51 = .ok (.getfield 410, 3) := by decide +kernel
theorem d_Mod_divertByte_54 : decode b_Mod_divertByte 54 = .ok (.iconst 1, 1) := by decide +kernel
theorem d_Mod_divertByte_55 : decode b_Mod_divertByte 55 = .ok (.iadd, 1) := by decide +kernel
theorem d_Mod_divertByte_56 : decode b_Mod_divertByte 56 = .ok (.putfield 410, 3) := by decide +kernel
theorem d_Mod_divertByte_59 : decode b_Mod_divertByte 59 = .ok (.return_, 1) := by decide +kernel
theorem d_Mod_enterFile_0 : decode b_Mod_enterFile 0 = .ok (.aload_n 0, 1) := by decide +kernel
theorem d_Mod_enterFile_1 : decode b_Mod_enterFile 1 = .ok (.getfield 164, 3) := by decide +kernel
theorem d_Mod_enterFile_4 : decode b_Mod_enterFile 4 = .ok (.aload_n 0, 1) := by decide +kernel
theorem d_Mod_enterFile_5 : decode b_Mod_enterFile 5 = .ok (.getfield 631, 3) := by decide +kernel
theorem d_Mod_enterFile_8 : decode b_Mod_enterFile 8 = .ok (.iload_n 1, 1) := by decide +kernel
theorem d_Mod_enterFile_9 : decode b_Mod_enterFile 9 = .ok (.iastore, 1) := by decide +kernel
theorem d_Mod_enterFile_10 : decode b_Mod_enterFile 10 = .ok (.aload_n 0, 1) := by decide +kernel
theorem d_Mod_enterFile_11 : decode b_Mod_enterFile 11 = .ok (.getfield 197, 3) := by decide +kernel
theorem d_Mod_enterFile_14 : decode b_Mod_enterFile 14 = .ok (.aload_n 0, 1) := by decide +kernel
theorem d_Mod_enterFile_15 : decode b_Mod_enterFile 15 = .ok (.getfield 631, 3) := by decide +kernel
theorem d_Mod_enterFile_18 : decode b_Mod_enterFile 18 = .ok (.aload_n 0, 1) := by decide +kernel
theorem d_Mod_enterFile_19 : decode b_Mod_enterFile 19 = .ok (.getfield 92, 3) := by decide +kernel
theorem d_Mod_enterFile_22 : decode b_Mod_enterFile 22 = .ok (.iload_n 1, 1) := by decide +kernel
theorem d_Mod_enterFile_23 : decode b_Mod_enterFile 23 = .ok (.iaload, 1) := by decide +kernel
theorem d_Mod_enterFile_24 : decode b_Mod_enterFile 24 = .ok (.iastore, 1) := by decide +kernel
theorem d_Mod_enterFile_25 : decode b_Mod_enterFile 25 = .ok (.aload_n 0, 1) := by decide +kernel
theorem d_Mod_enterFile_26 : decode b_Mod_enterFile 26 = .ok (.getfield 167, 3) := by decide +kernel
theorem d_Mod_enterFile_29 : decode b_Mod_enterFile 29 = .ok (.aload_n 0, 1) := by decide +kernel
theorem d_Mod_enterFile_30 : decode b_Mod_enterFile 30 = .ok (.getfield 631, 3) := by decide +kernel
theorem d_Mod_enterFile_33 : decode b_Mod_enterFile 33 = .ok (.iconst 0, 1) := by decide +kernel
theorem d_Mod_enterFile_34 : decode b_Mod_enterFile 34 = .ok (.iastore, 1) := by decide +kernel
theorem d_Mod_enterFile_35 : decode b_Mod_enterFile 35 = .ok (.aload_n 0, 1) := by decide +kernel
theorem d_Mod_enterFile_36 : decode b_Mod_enterFile 36 = .ok (.getfield 170, 3) := by decide +kernel
theorem d_Mod_enterFile_39 : decode b_Mod_enterFile 39 = .ok (.aload_n 0, 1) := by decide +kernel
theorem d_Mod_enterFile_40 : decode b_Mod_enterFile 40 = .ok (.getfield 631, 3) := by decide +kernel
theorem d_Mod_enterFile_43 : decode b_Mod_enterFile 43 = .ok (.iconst (-1), 1) := by decide +kernel
theorem d_Mod_enterFile_44 : decode b_Mod_enterFile 44 = .ok (.iload_n 1, 1) := by decide +kernel
theorem d_Mod_enterFile_45 : decode b_Mod_enterFile 45 = .ok (.isub, 1) := by decide +kernel
theorem d_Mod_enterFile_46 : decode b_Mod_enterFile 46 = .ok (.iastore, 1) := by decide +kernel
theorem d_Mod_enterFile_47 : decode b_Mod_enterFile 47 = .ok (.aload_n 0, 1) := by decide +kernel
theorem d_Mod_enterFile_48 : decode b_Mod_enterFile 48 = .ok (.getfield 173, 3) := by decide +kernel
theorem d_Mod_enterFile_51 : decode b_Mod_enterFile 51 = .ok (.aload_n 0, 1) := by decide +kernel
theorem d_Mod_enterFile_52 : decode b_Mod_enterFile 52 = .ok (.getfield 631, 3) := by decide +kernel
theorem d_Mod_enterFile_55 : decode b_Mod_enterFile 55 = .ok (.aload_n 0, 1) := by decide +kernel
theorem d_Mod_enterFile_56 : decode b_Mod_enterFile 56 = .ok (.getfield 16, 3) := by decide +kernel
theorem d_Mod_enterFile_59 : decode b_Mod_enterFile 59 = .ok (.iload_n 1, 1) := by decide +kernel
theorem d_Mod_enterFile_60 : decode b_Mod_enterFile 60 = .ok (.iaload, 1) := by decide +kernel
theorem d_Mod_enterFile_61 : decode b_Mod_enterFile 61 = .ok (.iastore, 1) := by decide +kernel
theorem d_Mod_enterFile_62 : decode b_Mod_enterFile 62 = .ok (.return_, 1) := by decide +kernel
theorem d_Mod_fail_0 : decode b_Mod_fail 0 = .ok (.aload_n 0, 1) := by decide +kernel
theorem d_Mod_fail_1 : decode b_Mod_fail 1 = .ok (.getfield 262, 3) := by decide +kernel
theorem d_Mod_fail_4 : decode b_Mod_fail 4 = .ok (.ifCond .ne 18, 3) := by decide +kernel
theorem d_Mod_fail_7 : decode b_Mod_fail 7 = .ok (.aload_n 0, 1) := by decide +kernel
theorem d_Mod_fail_8 : decode b_Mod_fail 8 = .ok (.iload_n 1, 1) := by decide +kernel
theorem d_Mod_fail_9 : decode b_Mod_fail 9 = .ok (.putfield 262, 3) := by decide +kernel
theorem d_Mod_fail_12 : decode b_Mod_fail 12 = .ok (.aload_n 0, 1) := by decide +kernel
theorem d_Mod_fail_13 : decode b_Mod_fail 13 = .ok (.iload_n 2, 1) := by decide +kernel
theorem d_Mod_fail_14 : decode b_Mod_fail 14 = .ok (.putfield 265, 3) := by decide +kernel
theorem d_Mod_fail_17 : decode b_Mod_fail 17 = .ok (.aload_n 0, 1) := by decide +kernel
theorem d_Mod_fail_18 : decode b_Mod_fail 18 = .ok (.iload_n 3, 1) := by decide +kernel
theorem d_Mod_fail_19 : decode b_Mod_fail 19 = .ok (.putfield 268, 3) := by decide +kernel
theorem d_Mod_fail_22 : decode b_Mod_fail 22 = .ok (.return_, 1) := by decide +kernel
theorem d_Mod_fail1_0 : decode b_Mod_fail1 0 = .ok (.aload_n 0, 1) := by decide +kernel
theorem d_Mod_fail1_1 : decode b_Mod_fail1 1 = .ok (.iload_n 1, 1) := by decide +kernel
theorem d_Mod_fail1_2 : decode b_Mod_fail1 2 = .ok (.aload_n 0, 1) := by decide +kernel
theorem d_Mod_fail1_3 : decode b_Mod_fail1 3 = .ok (.getfield 289, 3) := by decide +kernel
theorem d_Mod_fail1_6 : decode b_Mod_fail1 6 = .ok (.aload_n 0, 1) := by decide +kernel
theorem d_Mod_fail1_7 : decode b_Mod_fail1 7 = .ok (.getfield 286, 3) := by decide +kernel
theorem d_Mod_fail1_10 : decode b_Mod_fail1 10 = .ok (.invokevirtual 292, 3) := by decide +kernel
theorem d_Mod_fail1_13 : decode b_Mod_fail1 13 = .ok (.return_, 1) := by decide +kernel
theorem d_Mod_fail2_0 : decode b_Mod_fail2 0 = .ok (.aload_n 0, 1) := by decide +kernel
theorem d_Mod_fail2_1 : decode b_Mod_fail2 1 = .ok (.iload_n 1, 1) := by decide +kernel
theorem d_Mod_fail2_2 : decode b_Mod_fail2 2 = .ok (.aload_n 0, 1) := by decide +kernel
theorem d_Mod_fail2_3 : decode b_Mod_fail2 3 = .ok (.getfield 164, 3) := by decide +kernel
theorem d_Mod_fail2_6 : decode b_Mod_fail2 6 = .ok (.aload_n 0, 1) := by decide +kernel
theorem d_Mod_fail2_7 : decode b_Mod_fail2 7 = .ok (.getfield 631, 3) := by decide +kernel
theorem d_Mod_fail2_10 : decode b_Mod_fail2 10 = .ok (.iaload, 1) := by decide +kernel
theorem d_Mod_fail2_11 : decode b_Mod_fail2 11 = .ok (.iload_n 2, 1) := by decide +kernel
theorem d_Mod_fail2_12 : decode b_Mod_fail2 12 = .ok (.invokevirtual 292, 3) := by decide +kernel
theorem d_Mod_fail2_15 : decode b_Mod_fail2 15 = .ok (.return_, 1) := by decide +kernel
theorem d_Mod_fault_0 : decode b_Mod_fault 0 = .ok (.aload_n 0, 1) := by decide +kernel
theorem d_Mod_fault_1 : decode b_Mod_fault 1 = .ok (.iload_n 1, 1) := by decide +kernel
theorem d_Mod_fault_2 : decode b_Mod_fault 2 = .ok (.aload_n 0, 1) := by decide +kernel
theorem d_Mod_fault_3 : decode b_Mod_fault 3 = .ok (.getfield 805, 3) := by decide +kernel
theorem d_Mod_fault_6 : decode b_Mod_fault 6 = .ok (.invokevirtual 628, 3) := by decide +kernel
theorem d_Mod_fault_9 : decode b_Mod_fault 9 = .ok (.return_, 1) := by decide +kernel
theorem d_Mod_give_0 : decode b_Mod_give 0 = .ok (.aload_n 0, 1) := by decide +kernel
theorem d_Mod_give_1 : decode b_Mod_give 1 = .ok (.getfield 333, 3) := by decide +kernel
theorem d_Mod_give_4 : decode b_Mod_give 4 = .ok (.aload_n 0, 1) := by decide +kernel
theorem d_Mod_give_5 : decode b_Mod_give 5 = .ok (.invokevirtual 336, 3) := by decide +kernel
theorem d_Mod_give_8 : decode b_Mod_give 8 = .ok (.iadd, 1) := by decide +kernel
theorem d_Mod_give_9 : decode b_Mod_give 9 = .ok (.ldc 20, 2) := by decide +kernel
theorem d_Mod_give_11 : decode b_Mod_give 11 = .ok (.if_icmp .lt 9, 3) := by decide +kernel
theorem d_Mod_give_14 : decode b_Mod_give 14 = .ok (.aload_n 0, 1) := by decide +kernel
theorem d_Mod_give_15 : decode b_Mod_give 15 = .ok (.bipush 40, 2) := by decide +kernel
theorem d_Mod_give_17 : decode b_Mod_give 17 = .ok (.invokevirtual 277, 3) := by decide +kernel
theorem d_Mod_give_20 : decode b_Mod_give 20 = .ok (.aload_n 0, 1) := by decide +kernel
theorem d_Mod_give_21 : decode b_Mod_give 21 = .ok (.getfield 262, 3) := by decide +kernel
theorem d_Mod_give_24 : decode b_Mod_give 24 = .ok (.ifCond .ne 24, 3) := by decide +kernel
theorem d_Mod_give_27 : decode b_Mod_give 27 = .ok (.aload_n 0, 1) := by decide +kernel
theorem d_Mod_give_28 : decode b_Mod_give 28 = .ok (.getfield 47, 3) := by decide +kernel
theorem d_Mod_give_31 : decode b_Mod_give 31 = .ok (.aload_n 0, 1) := by decide +kernel
theorem d_Mod_give_32 : decode b_Mod_give 32 = .ok (.getfield 333, 3) := by decide +kernel
theorem d_Mod_give_35 : decode b_Mod_give 35 = .ok (.iload_n 1, 1) := by decide +kernel
theorem d_Mod_give_36 : decode b_Mod_give 36 = .ok (.i2b, 1) := by decide +kernel
theorem d_Mod_give_37 : decode b_Mod_give 37 = .ok (.bastore, 1) := by decide +kernel
theorem d_Mod_give_38 : decode b_Mod_give 38 = .ok (.aload_n 0, 1) := by decide +kernel
theorem d_Mod_give_39 : decode b_Mod_give 39 = .ok (.dup, 1) := by decide +kernel
theorem d_Mod_give_40 : decode b_Mod_give 40 = .ok (.getfield 333, 3) := by decide +kernel
theorem d_Mod_give_43 : decode b_Mod_give 43 = .ok (.iconst 1, 1) := by decide +kernel
theorem d_Mod_give_44 : decode b_Mod_give 44 = .ok (.iadd, 1) := by decide +kernel
theorem d_Mod_give_45 : decode b_Mod_give 45 = .ok (.putfield 333, 3) := by decide +kernel
theorem d_Mod_give_48 : decode b_Mod_give 48 = .ok (.return_, 1) := by decide +kernel
theorem d_Mod_goOn_0 : decode b_Mod_goOn 0 = .ok (.aload_n 0, 1) := by decide +kernel
theorem d_Mod_goOn_1 : decode b_Mod_goOn 1 = .ok (.aload_n 0, 1) := by decide +kernel
theorem d_Mod_goOn_2 : decode b_Mod_goOn 2 = .ok (.getfield 945, 3) := by decide +kernel
theorem d_Mod_goOn_5 : decode b_Mod_goOn 5 = .ok (.ifCond .lt 15, 3) := by decide +kernel
theorem d_Mod_goOn_8 : decode b_Mod_goOn 8 = .ok (.aload_n 0, 1) := by decide +kernel
theorem d_Mod_goOn_9 : decode b_Mod_goOn 9 = .ok (.getfield 111, 3) := by decide +kernel
theorem d_Mod_goOn_12 : decode b_Mod_goOn 12 = .ok (.aload_n 0, 1) := by decide +kernel
theorem d_Mod_goOn_13 : decode b_Mod_goOn 13 = .ok (.getfield 945, 3) := by decide +kernel
theorem d_Mod_goOn_16 : decode b_Mod_goOn 16 = .ok (.iaload, 1) := by decide +kernel
theorem d_Mod_goOn_17 : decode b_Mod_goOn 17 = .ok (.goto 4, 3) := by decide +kernel
theorem d_Mod_goOn_20 : decode b_Mod_goOn 20 = .ok (.iconst (-1), 1) := by decide +kernel
theorem d_Mod_goOn_21 : decode b_Mod_goOn 21 = .ok (.putfield 945, 3) := by decide +kernel
theorem d_Mod_goOn_24 : decode b_Mod_goOn 24 = .ok (.return_, 1) := by decide +kernel
theorem d_Mod_hides_0 : decode b_Mod_hides 0 = .ok (.aload_n 0, 1) := by decide +kernel
theorem d_Mod_hides_1 : decode b_Mod_hides 1 = .ok (.getfield 157, 3) := by decide +kernel
theorem d_Mod_hides_4 : decode b_Mod_hides 4 = .ok (.bipush 7, 2) := by decide +kernel
theorem d_Mod_hides_6 : decode b_Mod_hides 6 = .ok (.iload_n 1, 1) := by decide +kernel
theorem d_Mod_hides_7 : decode b_Mod_hides 7 = .ok (.imul, 1) := by decide +kernel
theorem d_Mod_hides_8 : decode b_Mod_hides 8 = .ok (.iload_n 2, 1) := by decide +kernel
theorem d_Mod_hides_9 : decode b_Mod_hides 9 = .ok (.bipush 64, 2) := by decide +kernel
theorem d_Mod_hides_11 : decode b_Mod_hides 11 = .ok (.idiv, 1) := by decide +kernel
theorem d_Mod_hides_12 : decode b_Mod_hides 12 = .ok (.iadd, 1) := by decide +kernel
theorem d_Mod_hides_13 : decode b_Mod_hides 13 = .ok (.laload, 1) := by decide +kernel
theorem d_Mod_hides_14 : decode b_Mod_hides 14 = .ok (.iload_n 2, 1) := by decide +kernel
theorem d_Mod_hides_15 : decode b_Mod_hides 15 = .ok (.bipush 64, 2) := by decide +kernel
theorem d_Mod_hides_17 : decode b_Mod_hides 17 = .ok (.irem, 1) := by decide +kernel
theorem d_Mod_hides_18 : decode b_Mod_hides 18 = .ok (.lshr, 1) := by decide +kernel
theorem d_Mod_hides_19 : decode b_Mod_hides 19 = .ok (.lconst 1, 1) := by decide +kernel
theorem d_Mod_hides_20 : decode b_Mod_hides 20 = .ok (.land, 1) := by decide +kernel
theorem d_Mod_hides_21 : decode b_Mod_hides 21 = .ok (.lconst 1, 1) := by decide +kernel
theorem d_Mod_hides_22 : decode b_Mod_hides 22 = .ok (.lcmp, 1) := by decide +kernel
theorem d_Mod_hides_23 : decode b_Mod_hides 23 = .ok (.ifCond .ne 7, 3) := by decide +kernel
theorem d_Mod_hides_26 : decode b_Mod_hides 26 = .ok (.iconst 1, 1) := by decide +kernel
theorem d_Mod_hides_27 : decode b_Mod_hides 27 = .ok (.goto 4, 3) := by decide +kernel
theorem d_Mod_hides_30 : decode b_Mod_hides 30 = .ok (.iconst 0, 1) := by decide +kernel
theorem d_Mod_hides_31 : decode b_Mod_hides 31 = .ok (.ireturn, 1) := by decide +kernel
theorem d_Mod_inputLeft_0 : decode b_Mod_inputLeft 0 = .ok (.ldc 20, 2) := by decide +kernel
theorem d_Mod_inputLeft_2 : decode b_Mod_inputLeft 2 = .ok (.aload_n 0, 1) := by decide +kernel
theorem d_Mod_inputLeft_3 : decode b_Mod_inputLeft 3 = .ok (.getfield 271, 3) := by decide +kernel
theorem d_Mod_inputLeft_6 : decode b_Mod_inputLeft 6 = .ok (.isub, 1) := by decide +kernel
theorem d_Mod_inputLeft_7 : decode b_Mod_inputLeft 7 = .ok (.ireturn, 1) := by decide +kernel
theorem d_Mod_isBlank_0 : decode b_Mod_isBlank 0 = .ok (.iload_n 0, 1) := by decide +kernel
theorem d_Mod_isBlank_1 : decode b_Mod_isBlank 1 = .ok (.bipush 32, 2) := by decide +kernel
theorem d_Mod_isBlank_3 : decode b_Mod_isBlank 3 = .ok (.if_icmp .eq 27, 3) := by decide +kernel
theorem d_Mod_isBlank_6 : decode b_Mod_isBlank 6 = .ok (.iload_n 0, 1) := by decide +kernel
theorem d_Mod_isBlank_7 : decode b_Mod_isBlank 7 = .ok (.bipush 9, 2) := by decide +kernel
theorem d_Mod_isBlank_9 : decode b_Mod_isBlank 9 = .ok (.if_icmp .eq 21, 3) := by decide +kernel
theorem d_Mod_isBlank_12 : decode b_Mod_isBlank 12 = .ok (.iload_n 0, 1) := by decide +kernel
theorem d_Mod_isBlank_13 : decode b_Mod_isBlank 13 = .ok (.bipush 11, 2) := by decide +kernel
theorem d_Mod_isBlank_15 : decode b_Mod_isBlank 15 = .ok (.if_icmp .eq 15, 3) := by decide +kernel
theorem d_Mod_isBlank_18 : decode b_Mod_isBlank 18 = .ok (.iload_n 0, 1) := by decide +kernel
theorem d_Mod_isBlank_19 : decode b_Mod_isBlank 19 = .ok (.bipush 12, 2) := by decide +kernel
theorem d_Mod_isBlank_21 : decode b_Mod_isBlank 21 = .ok (.if_icmp .eq 9, 3) := by decide +kernel
theorem d_Mod_isBlank_24 : decode b_Mod_isBlank 24 = .ok (.iload_n 0, 1) := by decide +kernel
theorem d_Mod_isBlank_25 : decode b_Mod_isBlank 25 = .ok (.bipush 13, 2) := by decide +kernel
theorem d_Mod_isBlank_27 : decode b_Mod_isBlank 27 = .ok (.if_icmp .ne 7, 3) := by decide +kernel
theorem d_Mod_isBlank_30 : decode b_Mod_isBlank 30 = .ok (.iconst 1, 1) := by decide +kernel
theorem d_Mod_isBlank_31 : decode b_Mod_isBlank 31 = .ok (.goto 4, 3) := by decide +kernel
theorem d_Mod_isBlank_34 : decode b_Mod_isBlank 34 = .ok (.iconst 0, 1) := by decide +kernel
theorem d_Mod_isBlank_35 : decode b_Mod_isBlank 35 = .ok (.ireturn, 1) := by decide +kernel
theorem d_Mod_isDigit_0 : decode b_Mod_isDigit 0 = .ok (.iload_n 0, 1) := by decide +kernel
theorem d_Mod_isDigit_1 : decode b_Mod_isDigit 1 = .ok (.bipush 48, 2) := by decide +kernel
theorem d_Mod_isDigit_3 : decode b_Mod_isDigit 3 = .ok (.if_icmp .lt 13, 3) := by decide +kernel
theorem d_Mod_isDigit_6 : decode b_Mod_isDigit 6 = .ok (.iload_n 0, 1) := by decide +kernel
theorem d_Mod_isDigit_7 : decode b_Mod_isDigit 7 = .ok (.bipush 57, 2) := by decide +kernel
theorem d_Mod_isDigit_9 : decode b_Mod_isDigit 9 = .ok (.if_icmp .gt 7, 3) := by decide +kernel
theorem d_Mod_isDigit_12 : decode b_Mod_isDigit 12 = .ok (.iconst 1, 1) := by decide +kernel
theorem d_Mod_isDigit_13 : decode b_Mod_isDigit 13 = .ok (.goto 4, 3) := by decide +kernel
theorem d_Mod_isDigit_16 : decode b_Mod_isDigit 16 = .ok (.iconst 0, 1) := by decide +kernel
theorem d_Mod_isDigit_17 : decode b_Mod_isDigit 17 = .ok (.ireturn, 1) := by decide +kernel
theorem d_Mod_isLetter_0 : decode b_Mod_isLetter 0 = .ok (.iload_n 0, 1) := by decide +kernel
theorem d_Mod_isLetter_1 : decode b_Mod_isLetter 1 = .ok (.bipush 65, 2) := by decide +kernel
theorem d_Mod_isLetter_3 : decode b_Mod_isLetter 3 = .ok (.if_icmp .lt 9, 3) := by decide +kernel
theorem d_Mod_isLetter_6 : decode b_Mod_isLetter 6 = .ok (.iload_n 0, 1) := by decide +kernel
theorem d_Mod_isLetter_7 : decode b_Mod_isLetter 7 = .ok (.bipush 90, 2) := by decide +kernel
theorem d_Mod_isLetter_9 : decode b_Mod_isLetter 9 = .ok (.if_icmp .le 21, 3) := by decide +kernel
theorem d_Mod_isLetter_12 : decode b_Mod_isLetter 12 = .ok (.iload_n 0, 1) := by decide +kernel
theorem d_Mod_isLetter_13 : decode b_Mod_isLetter 13 = .ok (.bipush 97, 2) := by decide +kernel
theorem d_Mod_isLetter_15 : decode b_Mod_isLetter 15 = .ok (.if_icmp .lt 9, 3) := by decide +kernel
theorem d_Mod_isLetter_18 : decode b_Mod_isLetter 18 = .ok (.iload_n 0, 1) := by decide +kernel
theorem d_Mod_isLetter_19 : decode b_Mod_isLetter 19 = .ok (.bipush 122, 2) := by decide +kernel
theorem d_Mod_isLetter_21 : decode b_Mod_isLetter 21 = .ok (.if_icmp .le 9, 3) := by decide +kernel
theorem d_Mod_isLetter_24 : decode b_Mod_isLetter 24 = .ok (.iload_n 0, 1) := by decide +kernel
theorem d_Mod_isLetter_25 : decode b_Mod_isLetter 25 = .ok (.bipush 95, 2) := by decide +kernel
theorem d_Mod_isLetter_27 : decode b_Mod_isLetter 27 = .ok (.if_icmp .ne 7, 3) := by decide +kernel
theorem d_Mod_isLetter_30 : decode b_Mod_isLetter 30 = .ok (.iconst 1, 1) := by decide +kernel
theorem d_Mod_isLetter_31 : decode b_Mod_isLetter 31 = .ok (.goto 4, 3) := by decide +kernel
theorem d_Mod_isLetter_34 : decode b_Mod_isLetter 34 = .ok (.iconst 0, 1) := by decide +kernel
theorem d_Mod_isLetter_35 : decode b_Mod_isLetter 35 = .ok (.ireturn, 1) := by decide +kernel
theorem d_Mod_isLong_0 : decode b_Mod_isLong 0 = .ok (.iload_n 0, 1) := by decide +kernel
theorem d_Mod_isLong_1 : decode b_Mod_isLong 1 = .ok (.bipush 11, 2) := by decide +kernel
theorem d_Mod_isLong_3 : decode b_Mod_isLong 3 = .ok (.if_icmp .eq 45, 3) := by decide +kernel
theorem d_Mod_isLong_6 : decode b_Mod_isLong 6 = .ok (.iload_n 0, 1) := by decide +kernel
theorem d_Mod_isLong_7 : decode b_Mod_isLong 7 = .ok (.bipush 21, 2) := by decide +kernel
theorem d_Mod_isLong_9 : decode b_Mod_isLong 9 = .ok (.if_icmp .eq 39, 3) := by decide +kernel
theorem d_Mod_isLong_12 : decode b_Mod_isLong 12 = .ok (.iload_n 0, 1) := by decide +kernel
theorem d_Mod_isLong_13 : decode b_Mod_isLong 13 = .ok (.bipush 61, 2) := by decide +kernel
theorem d_Mod_isLong_15 : decode b_Mod_isLong 15 = .ok (.if_icmp .eq 33, 3) := by decide +kernel
theorem d_Mod_isLong_18 : decode b_Mod_isLong 18 = .ok (.iload_n 0, 1) := by decide +kernel
theorem d_Mod_isLong_19 : decode b_Mod_isLong 19 = .ok (.bipush 62, 2) := by decide +kernel
theorem d_Mod_isLong_21 : decode b_Mod_isLong 21 = .ok (.if_icmp .eq 27, 3) := by decide +kernel
theorem d_Mod_isLong_24 : decode b_Mod_isLong 24 = .ok (.iload_n 0, 1) := by decide +kernel
theorem d_Mod_isLong_25 : decode b_Mod_isLong 25 = .ok (.bipush 73, 2) := by decide +kernel
theorem d_Mod_isLong_27 : decode b_Mod_isLong 27 = .ok (.if_icmp .eq 21, 3) := by decide +kernel
theorem d_Mod_isLong_30 : decode b_Mod_isLong 30 = .ok (.iload_n 0, 1) := by decide +kernel
theorem d_Mod_isLong_31 : decode b_Mod_isLong 31 = .ok (.bipush 74, 2) := by decide +kernel
theorem d_Mod_isLong_33 : decode b_Mod_isLong 33 = .ok (.if_icmp .eq 15, 3) := by decide +kernel
theorem d_Mod_isLong_36 : decode b_Mod_isLong 36 = .ok (.iload_n 0, 1) := by decide +kernel
theorem d_Mod_isLong_37 : decode b_Mod_isLong 37 = .ok (.bipush 81, 2) := by decide +kernel
theorem d_Mod_isLong_39 : decode b_Mod_isLong 39 = .ok (.if_icmp .eq 9, 3) := by decide +kernel
theorem d_Mod_isLong_42 : decode b_Mod_isLong 42 = .ok (.iload_n 0, 1) := by decide +kernel
theorem d_Mod_isLong_43 : decode b_Mod_isLong 43 = .ok (.bipush 82, 2) := by decide +kernel
theorem d_Mod_isLong_45 : decode b_Mod_isLong 45 = .ok (.if_icmp .ne 7, 3) := by decide +kernel
theorem d_Mod_isLong_48 : decode b_Mod_isLong 48 = .ok (.iconst 1, 1) := by decide +kernel
theorem d_Mod_isLong_49 : decode b_Mod_isLong 49 = .ok (.goto 4, 3) := by decide +kernel
theorem d_Mod_isLong_52 : decode b_Mod_isLong 52 = .ok (.iconst 0, 1) := by decide +kernel
theorem d_Mod_isLong_53 : decode b_Mod_isLong 53 = .ok (.ireturn, 1) := by decide +kernel
theorem d_Mod_isMarked_0 : decode b_Mod_isMarked 0 = .ok (.aload_n 0, 1) := by decide +kernel
theorem d_Mod_isMarked_1 : decode b_Mod_isMarked 1 = .ok (.iload_n 1, 1) := by decide +kernel
theorem d_Mod_isMarked_2 : decode b_Mod_isMarked 2 = .ok (.invokevirtual 588, 3) := by decide +kernel
theorem d_Mod_isMarked_5 : decode b_Mod_isMarked 5 = .ok (.istore_n 3, 1) := by decide +kernel
theorem d_Mod_isMarked_6 : decode b_Mod_isMarked 6 = .ok (.iload_n 3, 1) := by decide +kernel
theorem d_Mod_isMarked_7 : decode b_Mod_isMarked 7 = .ok (.iconst 3, 1) := by decide +kernel
theorem d_Mod_isMarked_8 : decode b_Mod_isMarked 8 = .ok (.if_icmp .eq 8, 3) := by decide +kernel
theorem d_Mod_isMarked_11 : decode b_Mod_isMarked 11 = .ok (.iload_n 3, 1) := by decide +kernel
theorem d_Mod_isMarked_12 : decode b_Mod_isMarked 12 = .ok (.iconst 4, 1) := by decide +kernel
theorem d_Mod_isMarked_13 : decode b_Mod_isMarked 13 = .ok (.if_icmp .ne 29, 3) := by decide +kernel
theorem d_Mod_isMarked_16 : decode b_Mod_isMarked 16 = .ok (.aload_n 0, 1) := by decide +kernel
theorem d_Mod_isMarked_17 : decode b_Mod_isMarked 17 = .ok (.iload_n 1, 1) := by decide +kernel
theorem d_Mod_isMarked_18 : decode b_Mod_isMarked 18 = .ok (.iload_n 2, 1) := by decide +kernel
theorem d_Mod_isMarked_19 : decode b_Mod_isMarked 19 = .ok (.invokevirtual 585, 3) := by decide +kernel
theorem d_Mod_isMarked_22 : decode b_Mod_isMarked 22 = .ok (.bipush 34, 2) := by decide +kernel
theorem d_Mod_isMarked_24 : decode b_Mod_isMarked 24 = .ok (.if_icmp .eq 14, 3) := by decide +kernel
theorem d_Mod_isMarked_27 : decode b_Mod_isMarked 27 = .ok (.aload_n 0, 1) := by decide +kernel
theorem d_Mod_isMarked_28 : decode b_Mod_isMarked 28 = .ok (.iload_n 1, 1) := by decide +kernel
theorem d_Mod_isMarked_29 : decode b_Mod_isMarked 29 = .ok (.iload_n 2, 1) := by decide +kernel
theorem d_Mod_isMarked_30 : decode b_Mod_isMarked 30 = .ok (.invokevirtual 585, 3) := by decide +kernel
theorem d_Mod_isMarked_33 : decode b_Mod_isMarked 33 = .ok (.bipush 92, 2) := by decide +kernel
theorem d_Mod_isMarked_35 : decode b_Mod_isMarked 35 = .ok (.if_icmp .ne 7, 3) := by decide +kernel
theorem d_Mod_isMarked_38 : decode b_Mod_isMarked 38 = .ok (.iconst 1, 1) := by decide +kernel
theorem d_Mod_isMarked_39 : decode b_Mod_isMarked 39 = .ok (.goto 4, 3) := by decide +kernel
theorem d_Mod_isMarked_42 : decode b_Mod_isMarked 42 = .ok (.iconst 0, 1) := by decide +kernel
theorem d_Mod_isMarked_43 : decode b_Mod_isMarked 43 = .ok (.ireturn, 1) := by decide +kernel
theorem d_Mod_isName_0 : decode b_Mod_isName 0 = .ok (.iload_n 1, 1) := by decide +kernel
theorem d_Mod_isName_1 : decode b_Mod_isName 1 = .ok (.ifCond .lt 16, 3) := by decide +kernel
theorem d_Mod_isName_4 : decode b_Mod_isName 4 = .ok (.aload_n 0, 1) := by decide +kernel
theorem d_Mod_isName_5 : decode b_Mod_isName 5 = .ok (.iload_n 1, 1) := by decide +kernel
theorem d_Mod_isName_6 : decode b_Mod_isName 6 = .ok (.invokevirtual 588, 3) := by decide +kernel
theorem d_Mod_isName_9 : decode b_Mod_isName 9 = .ok (.iconst 1, 1) := by decide +kernel
theorem d_Mod_isName_10 : decode b_Mod_isName 10 = .ok (.if_icmp .ne 7, 3) := by decide +kernel
theorem d_Mod_isName_13 : decode b_Mod_isName 13 = .ok (.iconst 1, 1) := by decide +kernel
theorem d_Mod_isName_14 : decode b_Mod_isName 14 = .ok (.goto 4, 3) := by decide +kernel
theorem d_Mod_isName_17 : decode b_Mod_isName 17 = .ok (.iconst 0, 1) := by decide +kernel
theorem d_Mod_isName_18 : decode b_Mod_isName 18 = .ok (.ireturn, 1) := by decide +kernel
theorem d_Mod_isPlainText_0 : decode b_Mod_isPlainText 0 = .ok (.iload_n 1, 1) := by decide +kernel
theorem d_Mod_isPlainText_1 : decode b_Mod_isPlainText 1 = .ok (.ifCond .lt 27, 3) := by decide +kernel
theorem d_Mod_isPlainText_4 : decode b_Mod_isPlainText 4 = .ok (.aload_n 0, 1) := by decide +kernel
theorem d_Mod_isPlainText_5 : decode b_Mod_isPlainText 5 = .ok (.iload_n 1, 1) := by decide +kernel
theorem d_Mod_isPlainText_6 : decode b_Mod_isPlainText 6 = .ok (.invokevirtual 588, 3) := by decide +kernel
theorem d_Mod_isPlainText_9 : decode b_Mod_isPlainText 9 = .ok (.iconst 3, 1) := by decide +kernel
theorem d_Mod_isPlainText_10 : decode b_Mod_isPlainText 10 = .ok (.if_icmp .ne 18, 3) := by decide +kernel
theorem d_Mod_isPlainText_13 : decode b_Mod_isPlainText 13 = .ok (.aload_n 0, 1) := by decide +kernel
theorem d_Mod_isPlainText_14 : decode b_Mod_isPlainText 14 = .ok (.iload_n 1, 1) := by decide +kernel
theorem d_Mod_isPlainText_15 : decode b_Mod_isPlainText 15 = .ok (.iconst 0, 1) := by decide +kernel
theorem d_Mod_isPlainText_16 : decode b_Mod_isPlainText 16 = .ok (.invokevirtual 585, 3) := by decide +kernel
theorem d_Mod_isPlainText_19 : decode b_Mod_isPlainText 19 = .ok (.bipush 34, 2) := by decide +kernel
theorem d_Mod_isPlainText_21 : decode b_Mod_isPlainText 21 = .ok (.if_icmp .ne 7, 3) := by decide +kernel
theorem d_Mod_isPlainText_24 : decode b_Mod_isPlainText 24 = .ok (.iconst 1, 1) := by decide +kernel
theorem d_Mod_isPlainText_25 : decode b_Mod_isPlainText 25 = .ok (.goto 4, 3) := by decide +kernel
theorem d_Mod_isPlainText_28 : decode b_Mod_isPlainText 28 = .ok (.iconst 0, 1) := by decide +kernel
theorem d_Mod_isPlainText_29 : decode b_Mod_isPlainText 29 = .ok (.ireturn, 1) := by decide +kernel
theorem d_Mod_kindOf_0 : decode b_Mod_kindOf 0 = .ok (.aload_n 0, 1) := by decide +kernel
theorem d_Mod_kindOf_1 : decode b_Mod_kindOf 1 = .ok (.iload_n 1, 1) := by decide +kernel
theorem d_Mod_kindOf_2 : decode b_Mod_kindOf 2 = .ok (.iconst 0, 1) := by decide +kernel
theorem d_Mod_kindOf_3 : decode b_Mod_kindOf 3 = .ok (.invokevirtual 585, 3) := by decide +kernel
theorem d_Mod_kindOf_6 : decode b_Mod_kindOf 6 = .ok (.istore_n 2, 1) := by decide +kernel
theorem d_Mod_kindOf_7 : decode b_Mod_kindOf 7 = .ok (.aload_n 0, 1) := by decide +kernel
theorem d_Mod_kindOf_8 : decode b_Mod_kindOf 8 = .ok (.getfield 102, 3) := by decide +kernel
theorem d_Mod_kindOf_11 : decode b_Mod_kindOf 11 = .ok (.iload_n 1, 1) := by decide +kernel
theorem d_Mod_kindOf_12 : decode b_Mod_kindOf 12 = .ok (.iaload, 1) := by decide +kernel
theorem d_Mod_kindOf_13 : decode b_Mod_kindOf 13 = .ok (.iconst 1, 1) := by decide +kernel
theorem d_Mod_kindOf_14 : decode b_Mod_kindOf 14 = .ok (.if_icmp .le 12, 3) := by decide +kernel
theorem d_Mod_kindOf_17 : decode b_Mod_kindOf 17 = .ok (.aload_n 0, 1) := by decide +kernel
theorem d_Mod_kindOf_18 : decode b_Mod_kindOf 18 = .ok (.iload_n 1, 1) := by decide +kernel
theorem d_Mod_kindOf_19 : decode b_Mod_kindOf 19 = .ok (.iconst 1, 1) := by decide +kernel
theorem d_Mod_kindOf_20 : decode b_Mod_kindOf 20 = .ok (.invokevirtual 585, 3) := by decide +kernel
theorem d_Mod_kindOf_23 : decode b_Mod_kindOf 23 = .ok (.goto 4, 3) := by decide +kernel
theorem d_Mod_kindOf_26 : decode b_Mod_kindOf 26 = .ok (.iconst (-1), 1) := by decide +kernel
theorem d_Mod_kindOf_27 : decode b_Mod_kindOf 27 = .ok (.istore_n 3, 1) := by decide +kernel
theorem d_Mod_kindOf_28 : decode b_Mod_kindOf 28 = .ok (.iload_n 2, 1) := by decide +kernel
theorem d_Mod_kindOf_29 : decode b_Mod_kindOf 29 = .ok (.bipush 76, 2) := by decide +kernel
theorem d_Mod_kindOf_31 : decode b_Mod_kindOf 31 = .ok (.if_icmp .ne 19, 3) := by decide +kernel
theorem d_Mod_kindOf_34 : decode b_Mod_kindOf 34 = .ok (.iload_n 3, 1) := by decide +kernel
theorem d_Mod_kindOf_35 : decode b_Mod_kindOf 35 = .ok (.bipush 34, 2) := by decide +kernel
theorem d_Mod_kindOf_37 : decode b_Mod_kindOf 37 = .ok (.if_icmp .eq 9, 3) := by decide +kernel
theorem d_Mod_kindOf_40 : decode b_Mod_kindOf 40 = .ok (.iload_n 3, 1) := by decide +kernel
theorem d_Mod_kindOf_41 : decode b_Mod_kindOf 41 = .ok (.bipush 39, 2) := by decide +kernel
theorem d_Mod_kindOf_43 : decode b_Mod_kindOf 43 = .ok (.if_icmp .ne 7, 3) := by decide +kernel
theorem d_Mod_kindOf_46 : decode b_Mod_kindOf 46 = .ok (.iload_n 3, 1) := by decide +kernel
theorem d_Mod_kindOf_47 : decode b_Mod_kindOf 47 = .ok (.goto 12, 3) := by decide +kernel
theorem d_Mod_kindOf_50 : decode b_Mod_kindOf 50 = .ok (.iload_n 3, 1) := by decide +kernel
theorem d_Mod_kindOf_51 : decode b_Mod_kindOf 51 = .ok (.ifCond .lt 7, 3) := by decide +kernel
theorem d_Mod_kindOf_54 : decode b_Mod_kindOf 54 = .ok (.iload_n 2, 1) := by decide +kernel
theorem d_Mod_kindOf_55 : decode b_Mod_kindOf 55 = .ok (.goto 4, 3) := by decide +kernel
theorem d_Mod_kindOf_58 : decode b_Mod_kindOf 58 = .ok (.iconst (-1), 1) := by decide +kernel
theorem d_Mod_kindOf_59 : decode b_Mod_kindOf 59 = .ok (.istore 4, 2) := by decide +kernel
theorem d_Mod_kindOf_61 : decode b_Mod_kindOf 61 = .ok (.iload 4, 2) := by decide +kernel
theorem d_Mod_kindOf_63 : decode b_Mod_kindOf 63 = .ok (.bipush 34, 2) := by decide +kernel
theorem d_Mod_kindOf_65 : decode b_Mod_kindOf 65 = .ok (.if_icmp .eq 10, 3) := by decide +kernel
theorem d_Mod_kindOf_68 : decode b_Mod_kindOf 68 = .ok (.iload 4, 2) := by decide +kernel
theorem d_Mod_kindOf_70 : decode b_Mod_kindOf 70 = .ok (.bipush 39, 2) := by decide +kernel
theorem d_Mod_kindOf_72 : decode b_Mod_kindOf 72 = .ok (.if_icmp .ne 16, 3) := by decide +kernel
theorem d_Mod_kindOf_75 : decode b_Mod_kindOf 75 = .ok (.iload 4, 2) := by decide +kernel
theorem d_Mod_kindOf_77 : decode b_Mod_kindOf 77 = .ok (.bipush 34, 2) := by decide +kernel
theorem d_Mod_kindOf_79 : decode b_Mod_kindOf 79 = .ok (.if_icmp .ne 7, 3) := by decide +kernel
theorem d_Mod_kindOf_82 : decode b_Mod_kindOf 82 = .ok (.iconst 3, 1) := by decide +kernel
theorem d_Mod_kindOf_83 : decode b_Mod_kindOf 83 = .ok (.goto 4, 3) := by decide +kernel
theorem d_Mod_kindOf_86 : decode b_Mod_kindOf 86 = .ok (.iconst 4, 1) := by decide +kernel
theorem d_Mod_kindOf_87 : decode b_Mod_kindOf 87 = .ok (.ireturn, 1) := by decide +kernel
theorem d_Mod_kindOf_88 : decode b_Mod_kindOf 88 = .ok (.iload_n 2, 1) := by decide +kernel
theorem d_Mod_kindOf_89 : decode b_Mod_kindOf 89 = .ok (.invokestatic 326, 3) := by decide +kernel
theorem d_Mod_kindOf_92 : decode b_Mod_kindOf 92 = .ok (.ifCond .eq 7, 3) := by decide +kernel
theorem d_Mod_kindOf_95 : decode b_Mod_kindOf 95 = .ok (.iconst 1, 1) := by decide +kernel
theorem d_Mod_kindOf_96 : decode b_Mod_kindOf 96 = .ok (.goto 28, 3) := by decide +kernel
theorem d_Mod_kindOf_99 : decode b_Mod_kindOf 99 = .ok (.iload_n 2, 1) := by decide +kernel
theorem d_Mod_kindOf_100 : decode b_Mod_kindOf 100 = .ok (.invokestatic 330, 3) := by decide +kernel
theorem d_Mod_kindOf_103 : decode b_Mod_kindOf 103 = .ok (.ifCond .ne 16, 3) := by decide +kernel
theorem d_Mod_kindOf_106 : decode b_Mod_kindOf 106 = .ok (.iload_n 2, 1) := by decide +kernel
theorem d_Mod_kindOf_107 : decode b_Mod_kindOf 107 = .ok (.bipush 46, 2) := by decide +kernel
theorem d_Mod_kindOf_109 : decode b_Mod_kindOf 109 = .ok (.if_icmp .ne 14, 3) := by decide +kernel
theorem d_Mod_kindOf_112 : decode b_Mod_kindOf 112 = .ok (.iload_n 3, 1) := by decide +kernel
theorem d_Mod_kindOf_113 : decode b_Mod_kindOf 113 = .ok (.invokestatic 330, 3) := by decide +kernel
theorem d_Mod_kindOf_116 : decode b_Mod_kindOf 116 = .ok (.ifCond .eq 7, 3) := by decide +kernel
theorem d_Mod_kindOf_119 : decode b_Mod_kindOf 119 = .ok (.iconst 2, 1) := by decide +kernel
theorem d_Mod_kindOf_120 : decode b_Mod_kindOf 120 = .ok (.goto 4, 3) := by decide +kernel
theorem d_Mod_kindOf_123 : decode b_Mod_kindOf 123 = .ok (.iconst 5, 1) := by decide +kernel
theorem d_Mod_kindOf_124 : decode b_Mod_kindOf 124 = .ok (.ireturn, 1) := by decide +kernel
theorem d_Mod_lineNumber_0 : decode b_Mod_lineNumber 0 = .ok (.iload_n 1, 1) := by decide +kernel
theorem d_Mod_lineNumber_1 : decode b_Mod_lineNumber 1 = .ok (.aload_n 0, 1) := by decide +kernel
theorem d_Mod_lineNumber_2 : decode b_Mod_lineNumber 2 = .ok (.getfield 167, 3) := by decide +kernel
theorem d_Mod_lineNumber_5 : decode b_Mod_lineNumber 5 = .ok (.aload_n 0, 1) := by decide +kernel
theorem d_Mod_lineNumber_6 : decode b_Mod_lineNumber 6 = .ok (.getfield 631, 3) := by decide +kernel
theorem d_Mod_lineNumber_9 : decode b_Mod_lineNumber 9 = .ok (.iaload, 1) := by decide +kernel
theorem d_Mod_lineNumber_10 : decode b_Mod_lineNumber 10 = .ok (.iadd, 1) := by decide +kernel
theorem d_Mod_lineNumber_11 : decode b_Mod_lineNumber 11 = .ok (.ireturn, 1) := by decide +kernel
theorem d_Mod_operator_0 : decode b_Mod_operator 0 = .ok (.aload_n 0, 1) := by decide +kernel
theorem d_Mod_operator_1 : decode b_Mod_operator 1 = .ok (.iconst 0, 1) := by decide +kernel
theorem d_Mod_operator_2 : decode b_Mod_operator 2 = .ok (.invokevirtual 532, 3) := by decide +kernel
theorem d_Mod_operator_5 : decode b_Mod_operator 5 = .ok (.istore_n 1, 1) := by decide +kernel
theorem d_Mod_operator_6 : decode b_Mod_operator 6 = .ok (.aload_n 0, 1) := by decide +kernel
theorem d_Mod_operator_7 : decode b_Mod_operator 7 = .ok (.iconst 1, 1) := by decide +kernel
theorem d_Mod_operator_8 : decode b_Mod_operator 8 = .ok (.invokevirtual 532, 3) := by decide +kernel
theorem d_Mod_operator_11 : decode b_Mod_operator 11 = .ok (.istore_n 2, 1) := by decide +kernel
theorem d_Mod_operator_12 : decode b_Mod_operator 12 = .ok (.iload_n 1, 1) := by decide +kernel
theorem d_Mod_operator_13 : decode b_Mod_operator 13 = .ok (.bipush 124, 2) := by decide +kernel
theorem d_Mod_operator_15 : decode b_Mod_operator 15 = .ok (.if_icmp .ne 17, 3) := by decide +kernel
theorem d_Mod_operator_18 : decode b_Mod_operator 18 = .ok (.iload_n 2, 1) := by decide +kernel
theorem d_Mod_operator_19 : decode b_Mod_operator 19 = .ok (.bipush 124, 2) := by decide +kernel
theorem d_Mod_operator_21 : decode b_Mod_operator 21 = .ok (.if_icmp .ne 8, 3) := by decide +kernel
theorem d_Mod_operator_24 : decode b_Mod_operator 24 = .ok (.bipush 11, 2) := by decide +kernel
theorem d_Mod_operator_26 : decode b_Mod_operator 26 = .ok (.goto 5, 3) := by decide +kernel
theorem d_Mod_operator_29 : decode b_Mod_operator 29 = .ok (.bipush 31, 2) := by decide +kernel
theorem d_Mod_operator_31 : decode b_Mod_operator 31 = .ok (.ireturn, 1) := by decide +kernel
theorem d_Mod_operator_32 : decode b_Mod_operator 32 = .ok (.iload_n 1, 1) := by decide +kernel
theorem d_Mod_operator_33 : decode b_Mod_operator 33 = .ok (.bipush 38, 2) := by decide +kernel
theorem d_Mod_operator_35 : decode b_Mod_operator 35 = .ok (.if_icmp .ne 17, 3) := by decide +kernel
theorem d_Mod_operator_38 : decode b_Mod_operator 38 = .ok (.iload_n 2, 1) := by decide +kernel
theorem d_Mod_operator_39 : decode b_Mod_operator 39 = .ok (.bipush 38, 2) := by decide +kernel
theorem d_Mod_operator_41 : decode b_Mod_operator 41 = .ok (.if_icmp .ne 8, 3) := by decide +kernel
theorem d_Mod_operator_44 : decode b_Mod_operator 44 = .ok (.bipush 21, 2) := by decide +kernel
theorem d_Mod_operator_46 : decode b_Mod_operator 46 = .ok (.goto 5, 3) := by decide +kernel
theorem d_Mod_operator_49 : decode b_Mod_operator 49 = .ok (.bipush 51, 2) := by decide +kernel
theorem d_Mod_operator_51 : decode b_Mod_operator 51 = .ok (.ireturn, 1) := by decide +kernel
theorem d_Mod_operator_52 : decode b_Mod_operator 52 = .ok (.iload_n 1, 1) := by decide +kernel
theorem d_Mod_operator_53 : decode b_Mod_operator 53 = .ok (.bipush 94, 2) := by decide +kernel
theorem d_Mod_operator_55 : decode b_Mod_operator 55 = .ok (.if_icmp .ne 6, 3) := by decide +kernel
theorem d_Mod_operator_58 : decode b_Mod_operator 58 = .ok (.bipush 41, 2) := by decide +kernel
theorem d_Mod_operator_60 : decode b_Mod_operator 60 = .ok (.ireturn, 1) := by decide +kernel
theorem d_Mod_operator_61 : decode b_Mod_operator 61 = .ok (.iload_n 1, 1) := by decide +kernel
theorem d_Mod_operator_62 : decode b_Mod_operator 62 = .ok (.bipush 61, 2) := by decide +kernel
theorem d_Mod_operator_64 : decode b_Mod_operator 64 = .ok (.if_icmp .eq 9, 3) := by decide +kernel
theorem d_Mod_operator_67 : decode b_Mod_operator 67 = .ok (.iload_n 1, 1) := by decide +kernel
theorem d_Mod_operator_68 : decode b_Mod_operator 68 = .ok (.bipush 33, 2) := by decide +kernel
theorem d_Mod_operator_70 : decode b_Mod_operator 70 = .ok (.if_icmp .ne 27, 3) := by decide +kernel
theorem d_Mod_operator_73 : decode b_Mod_operator 73 = .ok (.iload_n 2, 1) := by decide +kernel
theorem d_Mod_operator_74 : decode b_Mod_operator 74 = .ok (.bipush 61, 2) := by decide +kernel
theorem d_Mod_operator_76 : decode b_Mod_operator 76 = .ok (.if_icmp .eq 7, 3) := by decide +kernel
theorem d_Mod_operator_79 : decode b_Mod_operator 79 = .ok (.iconst 0, 1) := by decide +kernel
theorem d_Mod_operator_80 : decode b_Mod_operator 80 = .ok (.goto 16, 3) := by decide +kernel
theorem d_Mod_operator_83 : decode b_Mod_operator 83 = .ok (.iload_n 1, 1) := by decide +kernel
theorem d_Mod_operator_84 : decode b_Mod_operator 84 = .ok (.bipush 61, 2) := by decide +kernel
theorem d_Mod_operator_86 : decode b_Mod_operator 86 = .ok (.if_icmp .ne 8, 3) := by decide +kernel
theorem d_Mod_operator_89 : decode b_Mod_operator 89 = .ok (.bipush 61, 2) := by decide +kernel
theorem d_Mod_operator_91 : decode b_Mod_operator 91 = .ok (.goto 5, 3) := by decide +kernel
theorem d_Mod_operator_94 : decode b_Mod_operator 94 = .ok (.bipush 62, 2) := by decide +kernel
theorem d_Mod_operator_96 : decode b_Mod_operator 96 = .ok (.ireturn, 1) := by decide +kernel
theorem d_Mod_operator_97 : decode b_Mod_operator 97 = .ok (.iload_n 1, 1) := by decide +kernel
theorem d_Mod_operator_98 : decode b_Mod_operator 98 = .ok (.bipush 60, 2) := by decide +kernel
theorem d_Mod_operator_100 : decode b_Mod_operator 100 = .ok (.if_icmp .ne 28, 3) := by decide +kernel
theorem d_Mod_operator_103 : decode b_Mod_operator 103 = .ok (.iload_n 2, 1) := by decide +kernel
theorem d_Mod_operator_104 : decode b_Mod_operator 104 = .ok (.bipush 60, 2) := by decide +kernel
theorem d_Mod_operator_106 : decode b_Mod_operator 106 = .ok (.if_icmp .ne 8, 3) := by decide +kernel
theorem d_Mod_operator_109 : decode b_Mod_operator 109 = .ok (.bipush 81, 2) := by decide +kernel
theorem d_Mod_operator_111 : decode b_Mod_operator 111 = .ok (.goto 16, 3) := by decide +kernel
theorem d_Mod_operator_114 : decode b_Mod_operator 114 = .ok (.iload_n 2, 1) := by decide +kernel
theorem d_Mod_operator_115 : decode b_Mod_operator 115 = .ok (.bipush 61, 2) := by decide +kernel
theorem d_Mod_operator_117 : decode b_Mod_operator 117 = .ok (.if_icmp .ne 8, 3) := by decide +kernel
theorem d_Mod_operator_120 : decode b_Mod_operator 120 = .ok (.bipush 73, 2) := by decide +kernel
theorem d_Mod_operator_122 : decode b_Mod_operator 122 = .ok (.goto 5, 3) := by decide +kernel
theorem d_Mod_operator_125 : decode b_Mod_operator 125 = .ok (.bipush 71, 2) := by decide +kernel
theorem d_Mod_operator_127 : decode b_Mod_operator 127 = .ok (.ireturn, 1) := by decide +kernel
theorem d_Mod_operator_128 : decode b_Mod_operator 128 = .ok (.iload_n 1, 1) := by decide +kernel
theorem d_Mod_operator_129 : decode b_Mod_operator 129 = .ok (.bipush 62, 2) := by decide +kernel
theorem d_Mod_operator_131 : decode b_Mod_operator 131 = .ok (.if_icmp .ne 28, 3) := by decide +kernel
theorem d_Mod_operator_134 : decode b_Mod_operator 134 = .ok (.iload_n 2, 1) := by decide +kernel
theorem d_Mod_operator_135 : decode b_Mod_operator 135 = .ok (.bipush 62, 2) := by decide +kernel
theorem d_Mod_operator_137 : decode b_Mod_operator 137 = .ok (.if_icmp .ne 8, 3) := by decide +kernel
theorem d_Mod_operator_140 : decode b_Mod_operator 140 = .ok (.bipush 82, 2) := by decide +kernel
theorem d_Mod_operator_142 : decode b_Mod_operator 142 = .ok (.goto 16, 3) := by decide +kernel
theorem d_Mod_operator_145 : decode b_Mod_operator 145 = .ok (.iload_n 2, 1) := by decide +kernel
theorem d_Mod_operator_146 : decode b_Mod_operator 146 = .ok (.bipush 61, 2) := by decide +kernel
theorem d_Mod_operator_148 : decode b_Mod_operator 148 = .ok (.if_icmp .ne 8, 3) := by decide +kernel
theorem d_Mod_operator_151 : decode b_Mod_operator 151 = .ok (.bipush 74, 2) := by decide +kernel
theorem d_Mod_operator_153 : decode b_Mod_operator 153 = .ok (.goto 5, 3) := by decide +kernel
theorem d_Mod_operator_156 : decode b_Mod_operator 156 = .ok (.bipush 72, 2) := by decide +kernel
theorem d_Mod_operator_158 : decode b_Mod_operator 158 = .ok (.ireturn, 1) := by decide +kernel
theorem d_Mod_operator_159 : decode b_Mod_operator 159 = .ok (.iload_n 1, 1) := by decide +kernel
theorem d_Mod_operator_160 : decode b_Mod_operator 160 = .ok (.bipush 43, 2) := by decide +kernel
theorem d_Mod_operator_162 : decode b_Mod_operator 162 = .ok (.if_icmp .ne 8, 3) := by decide +kernel
theorem d_Mod_operator_165 : decode b_Mod_operator 165 = .ok (.bipush 91, 2) := by decide +kernel
theorem d_Mod_operator_167 : decode b_Mod_operator 167 = .ok (.goto 48, 3) := by decide +kernel
theorem d_Mod_operator_170 : decode b_Mod_operator 170 = .ok (.iload_n 1, 1) := by decide +kernel
theorem d_Mod_operator_171 : decode b_Mod_operator 171 = .ok (.bipush 45, 2) := by decide +kernel
theorem d_Mod_operator_173 : decode b_Mod_operator 173 = .ok (.if_icmp .ne 8, 3) := by decide +kernel
theorem d_Mod_operator_176 : decode b_Mod_operator 176 = .ok (.bipush 92, 2) := by decide +kernel
theorem d_Mod_operator_178 : decode b_Mod_operator 178 = .ok (.goto 37, 3) := by decide +kernel
theorem d_Mod_operator_181 : decode b_Mod_operator 181 = .ok (.iload_n 1, 1) := by decide +kernel
theorem d_Mod_operator_182 : decode b_Mod_operator 182 = .ok (.bipush 42, 2) := by decide +kernel
theorem d_Mod_operator_184 : decode b_Mod_operator 184 = .ok (.if_icmp .ne 8, 3) := by decide +kernel
theorem d_Mod_operator_187 : decode b_Mod_operator 187 = .ok (.bipush 101, 2) := by decide +kernel
theorem d_Mod_operator_189 : decode b_Mod_operator 189 = .ok (.goto 26, 3) := by decide +kernel
theorem d_Mod_operator_192 : decode b_Mod_operator 192 = .ok (.iload_n 1, 1) := by decide +kernel
theorem d_Mod_operator_193 : decode b_Mod_operator 193 = .ok (.bipush 47, 2) := by decide +kernel
theorem d_Mod_operator_195 : decode b_Mod_operator 195 = .ok (.if_icmp .ne 8, 3) := by decide +kernel
theorem d_Mod_operator_198 : decode b_Mod_operator 198 = .ok (.bipush 102, 2) := by decide +kernel
theorem d_Mod_operator_200 : decode b_Mod_operator 200 = .ok (.goto 15, 3) := by decide +kernel
theorem d_Mod_operator_203 : decode b_Mod_operator 203 = .ok (.iload_n 1, 1) := by decide +kernel
theorem d_Mod_operator_204 : decode b_Mod_operator 204 = .ok (.bipush 37, 2) := by decide +kernel
theorem d_Mod_operator_206 : decode b_Mod_operator 206 = .ok (.if_icmp .ne 8, 3) := by decide +kernel
theorem d_Mod_operator_209 : decode b_Mod_operator 209 = .ok (.bipush 103, 2) := by decide +kernel
theorem d_Mod_operator_211 : decode b_Mod_operator 211 = .ok (.goto 4, 3) := by decide +kernel
theorem d_Mod_operator_214 : decode b_Mod_operator 214 = .ok (.iconst 0, 1) := by decide +kernel
theorem d_Mod_operator_215 : decode b_Mod_operator 215 = .ok (.ireturn, 1) := by decide +kernel
theorem d_Mod_peek_0 : decode b_Mod_peek 0 = .ok (.aload_n 0, 1) := by decide +kernel
theorem d_Mod_peek_1 : decode b_Mod_peek 1 = .ok (.getfield 271, 3) := by decide +kernel
theorem d_Mod_peek_4 : decode b_Mod_peek 4 = .ok (.iload_n 1, 1) := by decide +kernel
theorem d_Mod_peek_5 : decode b_Mod_peek 5 = .ok (.iadd, 1) := by decide +kernel
theorem d_Mod_peek_6 : decode b_Mod_peek 6 = .ok (.ldc 20, 2) := by decide +kernel
theorem d_Mod_peek_8 : decode b_Mod_peek 8 = .ok (.if_icmp .ge 21, 3) := by decide +kernel
theorem d_Mod_peek_11 : decode b_Mod_peek 11 = .ok (.aload_n 0, 1) := by decide +kernel
theorem d_Mod_peek_12 : decode b_Mod_peek 12 = .ok (.getfield 34, 3) := by decide +kernel
theorem d_Mod_peek_15 : decode b_Mod_peek 15 = .ok (.aload_n 0, 1) := by decide +kernel
theorem d_Mod_peek_16 : decode b_Mod_peek 16 = .ok (.getfield 271, 3) := by decide +kernel
theorem d_Mod_peek_19 : decode b_Mod_peek 19 = .ok (.iload_n 1, 1) := by decide +kernel
theorem d_Mod_peek_20 : decode b_Mod_peek 20 = .ok (.iadd, 1) := by decide +kernel
theorem d_Mod_peek_21 : decode b_Mod_peek 21 = .ok (.baload, 1) := by decide +kernel
theorem d_Mod_peek_22 : decode b_Mod_peek 22 = .ok (.sipush 255, 3) := by decide +kernel
theorem d_Mod_peek_25 : decode b_Mod_peek 25 = .ok (.iand, 1) := by decide +kernel
theorem d_Mod_peek_26 : decode b_Mod_peek 26 = .ok (.goto 4, 3) := by decide +kernel
theorem d_Mod_peek_29 : decode b_Mod_peek 29 = .ok (.iconst (-1), 1) := by decide +kernel
theorem d_Mod_peek_30 : decode b_Mod_peek 30 = .ok (.ireturn, 1) := by decide +kernel
theorem d_Mod_put_0 : decode b_Mod_put 0 = .ok (.aload_n 0, 1) := by decide +kernel
theorem d_Mod_put_1 : decode b_Mod_put 1 = .ok (.getfield 710, 3) := by decide +kernel
theorem d_Mod_put_4 : decode b_Mod_put 4 = .ok (.ldc_w 713, 3) := by decide +kernel
theorem d_Mod_put_7 : decode b_Mod_put 7 = .ok (.if_icmp .ne 11, 3) := by decide +kernel
theorem d_Mod_put_10 : decode b_Mod_put 10 = .ok (.aload_n 0, 1) := by decide +kernel
theorem d_Mod_put_11 : decode b_Mod_put 11 = .ok (.bipush 21, 2) := by decide +kernel
theorem d_Mod_put_13 : decode b_Mod_put 13 = .ok (.iload_n 3, 1) := by decide +kernel
theorem d_Mod_put_14 : decode b_Mod_put 14 = .ok (.invokevirtual 628, 3) := by decide +kernel
theorem d_Mod_put_17 : decode b_Mod_put 17 = .ok (.return_, 1) := by decide +kernel
theorem d_Mod_put_18 : decode b_Mod_put 18 = .ok (.aload_n 0, 1) := by decide +kernel
theorem d_Mod_put_19 : decode b_Mod_put 19 = .ok (.dup, 1) := by decide +kernel
theorem d_Mod_put_20 : decode b_Mod_put 20 = .ok (.getfield 710, 3) := by decide +kernel
theorem d_Mod_put_23 : decode b_Mod_put 23 = .ok (.iconst 1, 1) := by decide +kernel
theorem d_Mod_put_24 : decode b_Mod_put 24 = .ok (.iadd, 1) := by decide +kernel
theorem d_Mod_put_25 : decode b_Mod_put 25 = .ok (.putfield 710, 3) := by decide +kernel
theorem d_Mod_put_28 : decode b_Mod_put 28 = .ok (.aload_n 0, 1) := by decide +kernel
theorem d_Mod_put_29 : decode b_Mod_put 29 = .ok (.getfield 111, 3) := by decide +kernel
theorem d_Mod_put_32 : decode b_Mod_put 32 = .ok (.iload_n 1, 1) := by decide +kernel
theorem d_Mod_put_33 : decode b_Mod_put 33 = .ok (.iconst (-1), 1) := by decide +kernel
theorem d_Mod_put_34 : decode b_Mod_put 34 = .ok (.iastore, 1) := by decide +kernel
theorem d_Mod_put_35 : decode b_Mod_put 35 = .ok (.aload_n 0, 1) := by decide +kernel
theorem d_Mod_put_36 : decode b_Mod_put 36 = .ok (.getfield 118, 3) := by decide +kernel
theorem d_Mod_put_39 : decode b_Mod_put 39 = .ok (.iload_n 1, 1) := by decide +kernel
theorem d_Mod_put_40 : decode b_Mod_put 40 = .ok (.iconst 0, 1) := by decide +kernel
theorem d_Mod_put_41 : decode b_Mod_put 41 = .ok (.bastore, 1) := by decide +kernel
theorem d_Mod_put_42 : decode b_Mod_put 42 = .ok (.aload_n 0, 1) := by decide +kernel
theorem d_Mod_put_43 : decode b_Mod_put 43 = .ok (.getfield 191, 3) := by decide +kernel
theorem d_Mod_put_46 : decode b_Mod_put 46 = .ok (.iload_n 2, 1) := by decide +kernel
theorem d_Mod_put_47 : decode b_Mod_put 47 = .ok (.iaload, 1) := by decide +kernel
theorem d_Mod_put_48 : decode b_Mod_put 48 = .ok (.ifCond .ge 13, 3) := by decide +kernel
theorem d_Mod_put_51 : decode b_Mod_put 51 = .ok (.aload_n 0, 1) := by decide +kernel
theorem d_Mod_put_52 : decode b_Mod_put 52 = .ok (.getfield 191, 3) := by decide +kernel
theorem d_Mod_put_55 : decode b_Mod_put 55 = .ok (.iload_n 2, 1) := by decide +kernel
theorem d_Mod_put_56 : decode b_Mod_put 56 = .ok (.iload_n 1, 1) := by decide +kernel
theorem d_Mod_put_57 : decode b_Mod_put 57 = .ok (.iastore, 1) := by decide +kernel
theorem d_Mod_put_58 : decode b_Mod_put 58 = .ok (.goto 15, 3) := by decide +kernel
theorem d_Mod_put_61 : decode b_Mod_put 61 = .ok (.aload_n 0, 1) := by decide +kernel
theorem d_Mod_put_62 : decode b_Mod_put 62 = .ok (.getfield 111, 3) := by decide +kernel
theorem d_Mod_put_65 : decode b_Mod_put 65 = .ok (.aload_n 0, 1) := by decide +kernel
theorem d_Mod_put_66 : decode b_Mod_put 66 = .ok (.getfield 194, 3) := by decide +kernel
theorem d_Mod_put_69 : decode b_Mod_put 69 = .ok (.iload_n 2, 1) := by decide +kernel
theorem d_Mod_put_70 : decode b_Mod_put 70 = .ok (.iaload, 1) := by decide +kernel
theorem d_Mod_put_71 : decode b_Mod_put 71 = .ok (.iload_n 1, 1) := by decide +kernel
theorem d_Mod_put_72 : decode b_Mod_put 72 = .ok (.iastore, 1) := by decide +kernel
theorem d_Mod_put_73 : decode b_Mod_put 73 = .ok (.aload_n 0, 1) := by decide +kernel
theorem d_Mod_put_74 : decode b_Mod_put 74 = .ok (.getfield 194, 3) := by decide +kernel
theorem d_Mod_put_77 : decode b_Mod_put 77 = .ok (.iload_n 2, 1) := by decide +kernel
theorem d_Mod_put_78 : decode b_Mod_put 78 = .ok (.iload_n 1, 1) := by decide +kernel
theorem d_Mod_put_79 : decode b_Mod_put 79 = .ok (.iastore, 1) := by decide +kernel
theorem d_Mod_put_80 : decode b_Mod_put 80 = .ok (.return_, 1) := by decide +kernel
theorem d_Mod_putArgument_0 : decode b_Mod_putArgument 0 = .ok (.aload_n 0, 1) := by decide +kernel
theorem d_Mod_putArgument_1 : decode b_Mod_putArgument 1 = .ok (.getfield 420, 3) := by decide +kernel
theorem d_Mod_putArgument_4 : decode b_Mod_putArgument 4 = .ok (.sipush 16384, 3) := by decide +kernel
theorem d_Mod_putArgument_7 : decode b_Mod_putArgument 7 = .ok (.if_icmp .ne 10, 3) := by decide +kernel
theorem d_Mod_putArgument_10 : decode b_Mod_putArgument 10 = .ok (.aload_n 0, 1) := by decide +kernel
theorem d_Mod_putArgument_11 : decode b_Mod_putArgument 11 = .ok (.bipush 40, 2) := by decide +kernel
theorem d_Mod_putArgument_13 : decode b_Mod_putArgument 13 = .ok (.invokevirtual 277, 3) := by decide +kernel
theorem d_Mod_putArgument_16 : decode b_Mod_putArgument 16 = .ok (.return_, 1) := by decide +kernel
theorem d_Mod_putArgument_17 : decode b_Mod_putArgument 17 = .ok (.aload_n 0, 1) := by decide +kernel
theorem d_Mod_putArgument_18 : decode b_Mod_putArgument 18 = .ok (.getfield 72, 3) := by decide +kernel
theorem d_Mod_putArgument_21 : decode b_Mod_putArgument 21 = .ok (.aload_n 0, 1) := by decide +kernel
theorem d_Mod_putArgument_22 : decode b_Mod_putArgument 22 = .ok (.getfield 420, 3) := by decide +kernel
theorem d_Mod_putArgument_25 : decode b_Mod_putArgument 25 = .ok (.iload_n 1, 1) := by decide +kernel
theorem d_Mod_putArgument_26 : decode b_Mod_putArgument 26 = .ok (.i2b, 1) := by decide +kernel
theorem d_Mod_putArgument_27 : decode b_Mod_putArgument 27 = .ok (.bastore, 1) := by decide +kernel
theorem d_Mod_putArgument_28 : decode b_Mod_putArgument 28 = .ok (.aload_n 0, 1) := by decide +kernel
theorem d_Mod_putArgument_29 : decode b_Mod_putArgument 29 = .ok (.dup, 1) := by decide +kernel
theorem d_Mod_putArgument_30 : decode b_Mod_putArgument 30 = .ok (.getfield 420, 3) := by decide +kernel
theorem d_Mod_putArgument_33 : decode b_Mod_putArgument 33 = .ok (.iconst 1, 1) := by decide +kernel
theorem d_Mod_putArgument_34 : decode b_Mod_putArgument 34 = .ok (.iadd, 1) := by decide +kernel
theorem d_Mod_putArgument_35 : decode b_Mod_putArgument 35 = .ok (.putfield 420, 3) := by decide +kernel
theorem d_Mod_putArgument_38 : decode b_Mod_putArgument 38 = .ok (.return_, 1) := by decide +kernel
theorem d_Mod_sign_0 : decode b_Mod_sign 0 = .ok (.aload_n 0, 1) := by decide +kernel
theorem d_Mod_sign_1 : decode b_Mod_sign 1 = .ok (.getfield 526, 3) := by decide +kernel
theorem d_Mod_sign_4 : decode b_Mod_sign 4 = .ok (.iload_n 1, 1) := by decide +kernel
theorem d_Mod_sign_5 : decode b_Mod_sign 5 = .ok (.iadd, 1) := by decide +kernel
theorem d_Mod_sign_6 : decode b_Mod_sign 6 = .ok (.aload_n 0, 1) := by decide +kernel
theorem d_Mod_sign_7 : decode b_Mod_sign 7 = .ok (.getfield 529, 3) := by decide +kernel
theorem d_Mod_sign_10 : decode b_Mod_sign 10 = .ok (.if_icmp .ge 21, 3) := by decide +kernel
theorem d_Mod_sign_13 : decode b_Mod_sign 13 = .ok (.aload_n 0, 1) := by decide +kernel
theorem d_Mod_sign_14 : decode b_Mod_sign 14 = .ok (.getfield 72, 3) := by decide +kernel
theorem d_Mod_sign_17 : decode b_Mod_sign 17 = .ok (.aload_n 0, 1) := by decide +kernel
theorem d_Mod_sign_18 : decode b_Mod_sign 18 = .ok (.getfield 526, 3) := by decide +kernel
theorem d_Mod_sign_21 : decode b_Mod_sign 21 = .ok (.iload_n 1, 1) := by decide +kernel
theorem d_Mod_sign_22 : decode b_Mod_sign 22 = .ok (.iadd, 1) := by decide +kernel
theorem d_Mod_sign_23 : decode b_Mod_sign 23 = .ok (.baload, 1) := by decide +kernel
theorem d_Mod_sign_24 : decode b_Mod_sign 24 = .ok (.sipush 255, 3) := by decide +kernel
theorem d_Mod_sign_27 : decode b_Mod_sign 27 = .ok (.iand, 1) := by decide +kernel
theorem d_Mod_sign_28 : decode b_Mod_sign 28 = .ok (.goto 4, 3) := by decide +kernel
theorem d_Mod_sign_31 : decode b_Mod_sign 31 = .ok (.iconst (-1), 1) := by decide +kernel
theorem d_Mod_sign_32 : decode b_Mod_sign 32 = .ok (.ireturn, 1) := by decide +kernel
theorem d_Mod_sizeNow_0 : decode b_Mod_sizeNow 0 = .ok (.iload_n 1, 1) := by decide +kernel
theorem d_Mod_sizeNow_1 : decode b_Mod_sizeNow 1 = .ok (.aload_n 0, 1) := by decide +kernel
theorem d_Mod_sizeNow_2 : decode b_Mod_sizeNow 2 = .ok (.getfield 936, 3) := by decide +kernel
theorem d_Mod_sizeNow_5 : decode b_Mod_sizeNow 5 = .ok (.if_icmp .ne 10, 3) := by decide +kernel
theorem d_Mod_sizeNow_8 : decode b_Mod_sizeNow 8 = .ok (.aload_n 0, 1) := by decide +kernel
theorem d_Mod_sizeNow_9 : decode b_Mod_sizeNow 9 = .ok (.getfield 939, 3) := by decide +kernel
theorem d_Mod_sizeNow_12 : decode b_Mod_sizeNow 12 = .ok (.goto 9, 3) := by decide +kernel
theorem d_Mod_sizeNow_15 : decode b_Mod_sizeNow 15 = .ok (.aload_n 0, 1) := by decide +kernel
theorem d_Mod_sizeNow_16 : decode b_Mod_sizeNow 16 = .ok (.getfield 27, 3) := by decide +kernel
theorem d_Mod_sizeNow_19 : decode b_Mod_sizeNow 19 = .ok (.iload_n 1, 1) := by decide +kernel
theorem d_Mod_sizeNow_20 : decode b_Mod_sizeNow 20 = .ok (.iaload, 1) := by decide +kernel
theorem d_Mod_sizeNow_21 : decode b_Mod_sizeNow 21 = .ok (.ireturn, 1) := by decide +kernel
theorem d_Mod_spell_0 : decode b_Mod_spell 0 = .ok (.aload_n 0, 1) := by decide +kernel
theorem d_Mod_spell_1 : decode b_Mod_spell 1 = .ok (.getfield 85, 3) := by decide +kernel
theorem d_Mod_spell_4 : decode b_Mod_spell 4 = .ok (.ldc_w 638, 3) := by decide +kernel
theorem d_Mod_spell_7 : decode b_Mod_spell 7 = .ok (.aload_n 0, 1) := by decide +kernel
theorem d_Mod_spell_8 : decode b_Mod_spell 8 = .ok (.getfield 639, 3) := by decide +kernel
theorem d_Mod_spell_11 : decode b_Mod_spell 11 = .ok (.iadd, 1) := by decide +kernel
theorem d_Mod_spell_12 : decode b_Mod_spell 12 = .ok (.iload_n 1, 1) := by decide +kernel
theorem d_Mod_spell_13 : decode b_Mod_spell 13 = .ok (.i2b, 1) := by decide +kernel
theorem d_Mod_spell_14 : decode b_Mod_spell 14 = .ok (.bastore, 1) := by decide +kernel
theorem d_Mod_spell_15 : decode b_Mod_spell 15 = .ok (.aload_n 0, 1) := by decide +kernel
theorem d_Mod_spell_16 : decode b_Mod_spell 16 = .ok (.dup, 1) := by decide +kernel
theorem d_Mod_spell_17 : decode b_Mod_spell 17 = .ok (.getfield 639, 3) := by decide +kernel
theorem d_Mod_spell_20 : decode b_Mod_spell 20 = .ok (.iconst 1, 1) := by decide +kernel
theorem d_Mod_spell_21 : decode b_Mod_spell 21 = .ok (.iadd, 1) := by decide +kernel
theorem d_Mod_spell_22 : decode b_Mod_spell 22 = .ok (.putfield 639, 3) := by decide +kernel
theorem d_Mod_spell_25 : decode b_Mod_spell 25 = .ok (.return_, 1) := by decide +kernel
theorem d_Mod_spend_0 : decode b_Mod_spend 0 = .ok (.aload_n 0, 1) := by decide +kernel
theorem d_Mod_spend_1 : decode b_Mod_spend 1 = .ok (.aload_n 0, 1) := by decide +kernel
theorem d_Mod_spend_2 : decode b_Mod_spend 2 = .ok (.getfield 634, 3) := by decide +kernel
theorem d_Mod_spend_5 : decode b_Mod_spend 5 = .ok (.iload_n 1, 1) := by decide +kernel
theorem d_Mod_spend_6 : decode b_Mod_spend 6 = .ok (.iadd, 1) := by decide +kernel
theorem d_Mod_spend_7 : decode b_Mod_spend 7 = .ok (.putfield 634, 3) := by decide +kernel
theorem d_Mod_spend_10 : decode b_Mod_spend 10 = .ok (.aload_n 0, 1) := by decide +kernel
theorem d_Mod_spend_11 : decode b_Mod_spend 11 = .ok (.getfield 634, 3) := by decide +kernel
theorem d_Mod_spend_14 : decode b_Mod_spend 14 = .ok (.ldc_w 637, 3) := by decide +kernel
theorem d_Mod_spend_17 : decode b_Mod_spend 17 = .ok (.if_icmp .le 10, 3) := by decide +kernel
theorem d_Mod_spend_20 : decode b_Mod_spend 20 = .ok (.aload_n 0, 1) := by decide +kernel
theorem d_Mod_spend_21 : decode b_Mod_spend 21 = .ok (.bipush 21, 2) := by decide +kernel
theorem d_Mod_spend_23 : decode b_Mod_spend 23 = .ok (.iload_n 2, 1) := by decide +kernel
theorem d_Mod_spend_24 : decode b_Mod_spend 24 = .ok (.invokevirtual 628, 3) := by decide +kernel
theorem d_Mod_spend_27 : decode b_Mod_spend 27 = .ok (.aload_n 0, 1) := by decide +kernel
theorem d_Mod_spend_28 : decode b_Mod_spend 28 = .ok (.getfield 262, 3) := by decide +kernel
theorem d_Mod_spend_31 : decode b_Mod_spend 31 = .ok (.ifCond .ne 7, 3) := by decide +kernel
theorem d_Mod_spend_34 : decode b_Mod_spend 34 = .ok (.iconst 1, 1) := by decide +kernel
theorem d_Mod_spend_35 : decode b_Mod_spend 35 = .ok (.goto 4, 3) := by decide +kernel
theorem d_Mod_spend_38 : decode b_Mod_spend 38 = .ok (.iconst 0, 1) := by decide +kernel
theorem d_Mod_spend_39 : decode b_Mod_spend 39 = .ok (.ireturn, 1) := by decide +kernel
theorem d_Mod_take_0 : decode b_Mod_take 0 = .ok (.aload_n 0, 1) := by decide +kernel
theorem d_Mod_take_1 : decode b_Mod_take 1 = .ok (.getfield 274, 3) := by decide +kernel
theorem d_Mod_take_4 : decode b_Mod_take 4 = .ok (.ifCond .ne 11, 3) := by decide +kernel
theorem d_Mod_take_7 : decode b_Mod_take 7 = .ok (.aload_n 0, 1) := by decide +kernel
theorem d_Mod_take_8 : decode b_Mod_take 8 = .ok (.bipush 31, 2) := by decide +kernel
theorem d_Mod_take_10 : decode b_Mod_take 10 = .ok (.invokevirtual 277, 3) := by decide +kernel
theorem d_Mod_take_13 : decode b_Mod_take 13 = .ok (.iconst (-1), 1) := by decide +kernel
theorem d_Mod_take_14 : decode b_Mod_take 14 = .ok (.ireturn, 1) := by decide +kernel
theorem d_Mod_take_15 : decode b_Mod_take 15 = .ok (.aload_n 0, 1) := by decide +kernel
theorem d_Mod_take_16 : decode b_Mod_take 16 = .ok (.dup, 1) := by decide +kernel
theorem d_Mod_take_17 : decode b_Mod_take 17 = .ok (.getfield 274, 3) := by decide +kernel
theorem d_Mod_take_20 : decode b_Mod_take 20 = .ok (.iconst 1, 1) := by decide +kernel
theorem d_Mod_take_21 : decode b_Mod_take 21 = .ok (.isub, 1) := by decide +kernel
theorem d_Mod_take_22 : decode b_Mod_take 22 = .ok (.putfield 274, 3) := by decide +kernel
theorem d_Mod_take_25 : decode b_Mod_take 25 = .ok (.aload_n 0, 1) := by decide +kernel
theorem d_Mod_take_26 : decode b_Mod_take 26 = .ok (.dup, 1) := by decide +kernel
theorem d_Mod_take_27 : decode b_Mod_take 27 = .ok (.getfield 280, 3) := by decide +kernel
theorem d_Mod_take_30 : decode b_Mod_take 30 = .ok (.iconst 1, 1) := by decide +kernel
theorem d_Mod_take_31 : decode b_Mod_take 31 = .ok (.iadd, 1) := by decide +kernel
theorem d_Mod_take_32 : decode b_Mod_take 32 = .ok (.putfield 280, 3) := by decide +kernel
theorem d_Mod_take_35 : decode b_Mod_take 35 = .ok (.aload_n 0, 1) := by decide +kernel
theorem d_Mod_take_36 : decode b_Mod_take 36 = .ok (.getfield 34, 3) := by decide +kernel
theorem d_Mod_take_39 : decode b_Mod_take 39 = .ok (.aload_n 0, 1) := by decide +kernel
theorem d_Mod_take_40 : decode b_Mod_take 40 = .ok (.getfield 271, 3) := by decide +kernel
theorem d_Mod_take_43 : decode b_Mod_take 43 = .ok (.baload, 1) := by decide +kernel
theorem d_Mod_take_44 : decode b_Mod_take 44 = .ok (.sipush 255, 3) := by decide +kernel
theorem d_Mod_take_47 : decode b_Mod_take 47 = .ok (.iand, 1) := by decide +kernel
theorem d_Mod_take_48 : decode b_Mod_take 48 = .ok (.istore_n 1, 1) := by decide +kernel
theorem d_Mod_take_49 : decode b_Mod_take 49 = .ok (.ldc 20, 2) := by decide +kernel
theorem d_Mod_take_51 : decode b_Mod_take 51 = .ok (.aload_n 0, 1) := by decide +kernel
theorem d_Mod_take_52 : decode b_Mod_take 52 = .ok (.getfield 271, 3) := by decide +kernel
theorem d_Mod_take_55 : decode b_Mod_take 55 = .ok (.isub, 1) := by decide +kernel
theorem d_Mod_take_56 : decode b_Mod_take 56 = .ok (.aload_n 0, 1) := by decide +kernel
theorem d_Mod_take_57 : decode b_Mod_take 57 = .ok (.getfield 283, 3) := by decide +kernel
theorem d_Mod_take_60 : decode b_Mod_take 60 = .ok (.if_icmp .gt 36, 3) := by decide +kernel
theorem d_Mod_take_63 : decode b_Mod_take 63 = .ok (.aload_n 0, 1) := by decide +kernel
theorem d_Mod_take_64 : decode b_Mod_take 64 = .ok (.dup, 1) := by decide +kernel
theorem d_Mod_take_65 : decode b_Mod_take 65 = .ok (.getfield 283, 3) := by decide +kernel
theorem d_Mod_take_68 : decode b_Mod_take 68 = .ok (.iconst 1, 1) := by decide +kernel
theorem d_Mod_take_69 : decode b_Mod_take 69 = .ok (.isub, 1) := by decide +kernel
theorem d_Mod_take_70 : decode b_Mod_take 70 = .ok (.putfield 283, 3) := by decide +kernel
theorem d_Mod_take_73 : decode b_Mod_take 73 = .ok (.aload_n 0, 1) := by decide +kernel
theorem d_Mod_take_74 : decode b_Mod_take 74 = .ok (.iload_n 1, 1) := by decide +kernel
theorem d_Mod_take_75 : decode b_Mod_take 75 = .ok (.bipush 10, 2) := by decide +kernel
theorem d_Mod_take_77 : decode b_Mod_take 77 = .ok (.if_icmp .ne 12, 3) := by decide +kernel
theorem d_Mod_take_80 : decode b_Mod_take 80 = .ok (.aload_n 0, 1) := by decide +kernel
theorem d_Mod_take_81 : decode b_Mod_take 81 = .ok (.getfield 286, 3) := by decide +kernel
theorem d_Mod_take_84 : decode b_Mod_take 84 = .ok (.iconst 1, 1) := by decide +kernel
theorem d_Mod_take_85 : decode b_Mod_take 85 = .ok (.iadd, 1) := by decide +kernel
theorem d_Mod_take_86 : decode b_Mod_take 86 = .ok (.goto 7, 3) := by decide +kernel
theorem d_Mod_take_89 : decode b_Mod_take 89 = .ok (.aload_n 0, 1) := by decide +kernel
theorem d_Mod_take_90 : decode b_Mod_take 90 = .ok (.getfield 286, 3) := by decide +kernel
theorem d_Mod_take_93 : decode b_Mod_take 93 = .ok (.putfield 286, 3) := by decide +kernel
theorem d_Mod_take_96 : decode b_Mod_take 96 = .ok (.aload_n 0, 1) := by decide +kernel
theorem d_Mod_take_97 : decode b_Mod_take 97 = .ok (.dup, 1) := by decide +kernel
theorem d_Mod_take_98 : decode b_Mod_take 98 = .ok (.getfield 271, 3) := by decide +kernel
theorem d_Mod_take_101 : decode b_Mod_take 101 = .ok (.iconst 1, 1) := by decide +kernel
theorem d_Mod_take_102 : decode b_Mod_take 102 = .ok (.iadd, 1) := by decide +kernel
theorem d_Mod_take_103 : decode b_Mod_take 103 = .ok (.putfield 271, 3) := by decide +kernel
theorem d_Mod_take_106 : decode b_Mod_take 106 = .ok (.iload_n 1, 1) := by decide +kernel
theorem d_Mod_take_107 : decode b_Mod_take 107 = .ok (.ireturn, 1) := by decide +kernel
theorem d_Mod_titleByte_0 : decode b_Mod_titleByte 0 = .ok (.aload_n 0, 1) := by decide +kernel
theorem d_Mod_titleByte_1 : decode b_Mod_titleByte 1 = .ok (.getfield 170, 3) := by decide +kernel
theorem d_Mod_titleByte_4 : decode b_Mod_titleByte 4 = .ok (.aload_n 0, 1) := by decide +kernel
theorem d_Mod_titleByte_5 : decode b_Mod_titleByte 5 = .ok (.getfield 631, 3) := by decide +kernel
theorem d_Mod_titleByte_8 : decode b_Mod_titleByte 8 = .ok (.iaload, 1) := by decide +kernel
theorem d_Mod_titleByte_9 : decode b_Mod_titleByte 9 = .ok (.ifCond .ge 31, 3) := by decide +kernel
theorem d_Mod_titleByte_12 : decode b_Mod_titleByte 12 = .ok (.aload_n 0, 1) := by decide +kernel
theorem d_Mod_titleByte_13 : decode b_Mod_titleByte 13 = .ok (.getfield 13, 3) := by decide +kernel
theorem d_Mod_titleByte_16 : decode b_Mod_titleByte 16 = .ok (.bipush 64, 2) := by decide +kernel
theorem d_Mod_titleByte_18 : decode b_Mod_titleByte 18 = .ok (.iconst (-1), 1) := by decide +kernel
theorem d_Mod_titleByte_19 : decode b_Mod_titleByte 19 = .ok (.aload_n 0, 1) := by decide +kernel
theorem d_Mod_titleByte_20 : decode b_Mod_titleByte 20 = .ok (.getfield 170, 3) := by decide +kernel
theorem d_Mod_titleByte_23 : decode b_Mod_titleByte 23 = .ok (.aload_n 0, 1) := by decide +kernel
theorem d_Mod_titleByte_24 : decode b_Mod_titleByte 24 = .ok (.getfield 631, 3) := by decide +kernel
theorem d_Mod_titleByte_27 : decode b_Mod_titleByte 27 = .ok (.iaload, 1) := by decide +kernel
theorem d_Mod_titleByte_28 : decode b_Mod_titleByte 28 = .ok (.isub, 1) := by decide +kernel
theorem d_Mod_titleByte_29 : decode b_Mod_titleByte 29 = .ok (.imul, 1) := by decide +kernel
theorem d_Mod_titleByte_30 : decode b_Mod_titleByte 30 = .ok (.iload_n 1, 1) := by decide +kernel
theorem d_Mod_titleByte_31 : decode b_Mod_titleByte 31 = .ok (.iadd, 1) := by decide +kernel
theorem d_Mod_titleByte_32 : decode b_Mod_titleByte 32 = .ok (.baload, 1) := by decide +kernel
theorem d_Mod_titleByte_33 : decode b_Mod_titleByte 33 = .ok (.sipush 255, 3) := by decide +kernel
theorem d_Mod_titleByte_36 : decode b_Mod_titleByte 36 = .ok (.iand, 1) := by decide +kernel
theorem d_Mod_titleByte_37 : decode b_Mod_titleByte 37 = .ok (.goto 23, 3) := by decide +kernel
theorem d_Mod_titleByte_40 : decode b_Mod_titleByte 40 = .ok (.aload_n 0, 1) := by decide +kernel
theorem d_Mod_titleByte_41 : decode b_Mod_titleByte 41 = .ok (.getfield 85, 3) := by decide +kernel
theorem d_Mod_titleByte_44 : decode b_Mod_titleByte 44 = .ok (.aload_n 0, 1) := by decide +kernel
theorem d_Mod_titleByte_45 : decode b_Mod_titleByte 45 = .ok (.getfield 170, 3) := by decide +kernel
theorem d_Mod_titleByte_48 : decode b_Mod_titleByte 48 = .ok (.aload_n 0, 1) := by decide +kernel
theorem d_Mod_titleByte_49 : decode b_Mod_titleByte 49 = .ok (.getfield 631, 3) := by decide +kernel
theorem d_Mod_titleByte_52 : decode b_Mod_titleByte 52 = .ok (.iaload, 1) := by decide +kernel
theorem d_Mod_titleByte_53 : decode b_Mod_titleByte 53 = .ok (.iload_n 1, 1) := by decide +kernel
theorem d_Mod_titleByte_54 : decode b_Mod_titleByte 54 = .ok (.iadd, 1) := by decide +kernel
theorem d_Mod_titleByte_55 : decode b_Mod_titleByte 55 = .ok (.baload, 1) := by decide +kernel
theorem d_Mod_titleByte_56 : decode b_Mod_titleByte 56 = .ok (.sipush 255, 3) := by decide +kernel
theorem d_Mod_titleByte_59 : decode b_Mod_titleByte 59 = .ok (.iand, 1) := by decide +kernel
theorem d_Mod_titleByte_60 : decode b_Mod_titleByte 60 = .ok (.ireturn, 1) := by decide +kernel
theorem d_Mod_want_0 : decode b_Mod_want 0 = .ok (.aload_n 0, 1) := by decide +kernel
theorem d_Mod_want_1 : decode b_Mod_want 1 = .ok (.getfield 901, 3) := by decide +kernel
theorem d_Mod_want_4 : decode b_Mod_want 4 = .ok (.bipush 65, 2) := by decide +kernel
theorem d_Mod_want_6 : decode b_Mod_want 6 = .ok (.if_icmp .ge 24, 3) := by decide +kernel
theorem d_Mod_want_9 : decode b_Mod_want 9 = .ok (.aload_n 0, 1) := by decide +kernel
theorem d_Mod_want_10 : decode b_Mod_want 10 = .ok (.getfield 221, 3) := by decide +kernel
theorem d_Mod_want_13 : decode b_Mod_want 13 = .ok (.aload_n 0, 1) := by decide +kernel
theorem d_Mod_want_14 : decode b_Mod_want 14 = .ok (.getfield 901, 3) := by decide +kernel
theorem d_Mod_want_17 : decode b_Mod_want 17 = .ok (.iload_n 1, 1) := by decide +kernel
theorem d_Mod_want_18 : decode b_Mod_want 18 = .ok (.i2b, 1) := by decide +kernel
theorem d_Mod_want_19 : decode b_Mod_want 19 = .ok (.bastore, 1) := by decide +kernel
theorem d_Mod_want_20 : decode b_Mod_want 20 = .ok (.aload_n 0, 1) := by decide +kernel
theorem d_Mod_want_21 : decode b_Mod_want 21 = .ok (.dup, 1) := by decide +kernel
theorem d_Mod_want_22 : decode b_Mod_want 22 = .ok (.getfield 901, 3) := by decide +kernel
theorem d_Mod_want_25 : decode b_Mod_want 25 = .ok (.iconst 1, 1) := by decide +kernel
theorem d_Mod_want_26 : decode b_Mod_want 26 = .ok (.iadd, 1) := by decide +kernel
theorem d_Mod_want_27 : decode b_Mod_want 27 = .ok (.putfield 901, 3) := by decide +kernel
theorem d_Mod_want_30 : decode b_Mod_want 30 = .ok (.return_, 1) := by decide +kernel
def r_Mod_isLetter (S : sS) (v1 : Int32) : Int32 := if v1 < (65 : Int32) then (if v1 < (97 : Int32) then (if v1 = (95 : Int32) then 1 else 0) else (if v1 ≤ (122 : Int32) then 1 else (if v1 = (95 : Int32) then 1 else 0))) else (if v1 ≤ (90 : Int32) then 1 else (if v1 < (97 : Int32) then (if v1 = (95 : Int32) then 1 else 0) else (if v1 ≤ (122 : Int32) then 1 else (if v1 = (95 : Int32) then 1 else 0))))
abbrev rm_a_Mod_isLetter : Room := { frames := 0, cells := 0, slots := 0, locals := 0 }
set_option maxHeartbeats 4000000 in
set_option maxRecDepth 100000 in
theorem a_Mod_isLetter (l : Launch) (g : gG) (sz : Nat) (ad : Nat → Nat) (S : sS) (v1 : Int32) : Cz l y_Mod_isLetter b_Mod_isLetter 1 rm_a_Mod_isLetter g [.int v1] (Sw shM g ad S) sz (fun r w => ∃ S' : sS, w = Sw shM g ad S' ∧ r = r_Mod_isLetter S v1 ∧ S' = S) := by
  refine startZ (by decide) (Nat.le_of_ble_eq_true rfl) ?_
  intro p e s m below meth c A ls hx hb hr hml hlocks hmn hown htt hN hA hP hK hD hS hl
  have hown : s.vm.findClass "MacroMillModel" = some m.cls := hown
  have hl : lv_has ls 1 [(0, .int v1)] := hl
  refine lv_iload_n hx hb d_Mod_isLetter_0 rfl (lv_at hl 0 rfl) ?_
  refine lv_bipush (v := 65) hx hb d_Mod_isLetter_1 (by decide) ?_
  refine lv_icmp_lt (tgt := 12) hx hb d_Mod_isLetter_3 (by decide) (fun hc1 => ?_) (fun hc1 => ?_)
  · refine lv_iload_n hx hb d_Mod_isLetter_12 rfl (lv_at hl 0 rfl) ?_
    refine lv_bipush (v := 97) hx hb d_Mod_isLetter_13 (by decide) ?_
    refine lv_icmp_lt (tgt := 24) hx hb d_Mod_isLetter_15 (by decide) (fun hc2 => ?_) (fun hc2 => ?_)
    · refine lv_iload_n hx hb d_Mod_isLetter_24 rfl (lv_at hl 0 rfl) ?_
      refine lv_bipush (v := 95) hx hb d_Mod_isLetter_25 (by decide) ?_
      refine lv_icmp_ne (tgt := 34) hx hb d_Mod_isLetter_27 (by decide) (fun hc3 => ?_) (fun hc3 => ?_)
      · refine lv_iconst (v := 0) hx hb d_Mod_isLetter_34 (by decide) ?_
        exact fin_z (g := g) (ws := Sw shM g ad S) (v := 0) hx hb hr hlocks rfl (by decide +kernel) (by decide +kernel) hP hD hS ⟨_, rfl, (by unfold r_Mod_isLetter; rw [if_pos hc1, if_pos hc2, if_neg hc3]), rfl⟩ d_Mod_isLetter_35
      · refine lv_iconst (v := 1) hx hb d_Mod_isLetter_30 (by decide) ?_
        refine lv_goto (tgt := 35) hx hb d_Mod_isLetter_31 (by decide) ?_
        exact fin_z (g := g) (ws := Sw shM g ad S) (v := 1) hx hb hr hlocks rfl (by decide +kernel) (by decide +kernel) hP hD hS ⟨_, rfl, (by unfold r_Mod_isLetter; rw [if_pos hc1, if_pos hc2, if_pos hc3]), rfl⟩ d_Mod_isLetter_35
    · refine lv_iload_n hx hb d_Mod_isLetter_18 rfl (lv_at hl 0 rfl) ?_
      refine lv_bipush (v := 122) hx hb d_Mod_isLetter_19 (by decide) ?_
      refine lv_icmp_le (tgt := 30) hx hb d_Mod_isLetter_21 (by decide) (fun hc4 => ?_) (fun hc4 => ?_)
      · refine lv_iconst (v := 1) hx hb d_Mod_isLetter_30 (by decide) ?_
        refine lv_goto (tgt := 35) hx hb d_Mod_isLetter_31 (by decide) ?_
        exact fin_z (g := g) (ws := Sw shM g ad S) (v := 1) hx hb hr hlocks rfl (by decide +kernel) (by decide +kernel) hP hD hS ⟨_, rfl, (by unfold r_Mod_isLetter; rw [if_pos hc1, if_neg hc2, if_pos hc4]), rfl⟩ d_Mod_isLetter_35
      · refine lv_iload_n hx hb d_Mod_isLetter_24 rfl (lv_at hl 0 rfl) ?_
        refine lv_bipush (v := 95) hx hb d_Mod_isLetter_25 (by decide) ?_
        refine lv_icmp_ne (tgt := 34) hx hb d_Mod_isLetter_27 (by decide) (fun hc5 => ?_) (fun hc5 => ?_)
        · refine lv_iconst (v := 0) hx hb d_Mod_isLetter_34 (by decide) ?_
          exact fin_z (g := g) (ws := Sw shM g ad S) (v := 0) hx hb hr hlocks rfl (by decide +kernel) (by decide +kernel) hP hD hS ⟨_, rfl, (by unfold r_Mod_isLetter; rw [if_pos hc1, if_neg hc2, if_neg hc4, if_neg hc5]), rfl⟩ d_Mod_isLetter_35
        · refine lv_iconst (v := 1) hx hb d_Mod_isLetter_30 (by decide) ?_
          refine lv_goto (tgt := 35) hx hb d_Mod_isLetter_31 (by decide) ?_
          exact fin_z (g := g) (ws := Sw shM g ad S) (v := 1) hx hb hr hlocks rfl (by decide +kernel) (by decide +kernel) hP hD hS ⟨_, rfl, (by unfold r_Mod_isLetter; rw [if_pos hc1, if_neg hc2, if_neg hc4, if_pos hc5]), rfl⟩ d_Mod_isLetter_35
  · refine lv_iload_n hx hb d_Mod_isLetter_6 rfl (lv_at hl 0 rfl) ?_
    refine lv_bipush (v := 90) hx hb d_Mod_isLetter_7 (by decide) ?_
    refine lv_icmp_le (tgt := 30) hx hb d_Mod_isLetter_9 (by decide) (fun hc6 => ?_) (fun hc6 => ?_)
    · refine lv_iconst (v := 1) hx hb d_Mod_isLetter_30 (by decide) ?_
      refine lv_goto (tgt := 35) hx hb d_Mod_isLetter_31 (by decide) ?_
      exact fin_z (g := g) (ws := Sw shM g ad S) (v := 1) hx hb hr hlocks rfl (by decide +kernel) (by decide +kernel) hP hD hS ⟨_, rfl, (by unfold r_Mod_isLetter; rw [if_neg hc1, if_pos hc6]), rfl⟩ d_Mod_isLetter_35
    · refine lv_iload_n hx hb d_Mod_isLetter_12 rfl (lv_at hl 0 rfl) ?_
      refine lv_bipush (v := 97) hx hb d_Mod_isLetter_13 (by decide) ?_
      refine lv_icmp_lt (tgt := 24) hx hb d_Mod_isLetter_15 (by decide) (fun hc7 => ?_) (fun hc7 => ?_)
      · refine lv_iload_n hx hb d_Mod_isLetter_24 rfl (lv_at hl 0 rfl) ?_
        refine lv_bipush (v := 95) hx hb d_Mod_isLetter_25 (by decide) ?_
        refine lv_icmp_ne (tgt := 34) hx hb d_Mod_isLetter_27 (by decide) (fun hc8 => ?_) (fun hc8 => ?_)
        · refine lv_iconst (v := 0) hx hb d_Mod_isLetter_34 (by decide) ?_
          exact fin_z (g := g) (ws := Sw shM g ad S) (v := 0) hx hb hr hlocks rfl (by decide +kernel) (by decide +kernel) hP hD hS ⟨_, rfl, (by unfold r_Mod_isLetter; rw [if_neg hc1, if_neg hc6, if_pos hc7, if_neg hc8]), rfl⟩ d_Mod_isLetter_35
        · refine lv_iconst (v := 1) hx hb d_Mod_isLetter_30 (by decide) ?_
          refine lv_goto (tgt := 35) hx hb d_Mod_isLetter_31 (by decide) ?_
          exact fin_z (g := g) (ws := Sw shM g ad S) (v := 1) hx hb hr hlocks rfl (by decide +kernel) (by decide +kernel) hP hD hS ⟨_, rfl, (by unfold r_Mod_isLetter; rw [if_neg hc1, if_neg hc6, if_pos hc7, if_pos hc8]), rfl⟩ d_Mod_isLetter_35
      · refine lv_iload_n hx hb d_Mod_isLetter_18 rfl (lv_at hl 0 rfl) ?_
        refine lv_bipush (v := 122) hx hb d_Mod_isLetter_19 (by decide) ?_
        refine lv_icmp_le (tgt := 30) hx hb d_Mod_isLetter_21 (by decide) (fun hc9 => ?_) (fun hc9 => ?_)
        · refine lv_iconst (v := 1) hx hb d_Mod_isLetter_30 (by decide) ?_
          refine lv_goto (tgt := 35) hx hb d_Mod_isLetter_31 (by decide) ?_
          exact fin_z (g := g) (ws := Sw shM g ad S) (v := 1) hx hb hr hlocks rfl (by decide +kernel) (by decide +kernel) hP hD hS ⟨_, rfl, (by unfold r_Mod_isLetter; rw [if_neg hc1, if_neg hc6, if_neg hc7, if_pos hc9]), rfl⟩ d_Mod_isLetter_35
        · refine lv_iload_n hx hb d_Mod_isLetter_24 rfl (lv_at hl 0 rfl) ?_
          refine lv_bipush (v := 95) hx hb d_Mod_isLetter_25 (by decide) ?_
          refine lv_icmp_ne (tgt := 34) hx hb d_Mod_isLetter_27 (by decide) (fun hc10 => ?_) (fun hc10 => ?_)
          · refine lv_iconst (v := 0) hx hb d_Mod_isLetter_34 (by decide) ?_
            show W _ _ _ _ _ _ _ _ _ _ _ _ _ _ _ (F0 _ 35 _ _)
            exact fin_z (g := g) (ws := Sw shM g ad S) (v := 0) hx hb hr hlocks rfl (by decide +kernel) (by decide +kernel) hP hD hS ⟨_, rfl, (by unfold r_Mod_isLetter; rw [if_neg hc1, if_neg hc6, if_neg hc7, if_neg hc9, if_neg hc10]), rfl⟩ d_Mod_isLetter_35
          · refine lv_iconst (v := 1) hx hb d_Mod_isLetter_30 (by decide) ?_
            show W _ _ _ _ _ _ _ _ _ _ _ _ _ _ _ (F0 _ 31 _ _)
            refine lv_goto (tgt := 35) hx hb d_Mod_isLetter_31 (by decide) ?_
            exact fin_z (g := g) (ws := Sw shM g ad S) (v := 1) hx hb hr hlocks rfl (by decide +kernel) (by decide +kernel) hP hD hS ⟨_, rfl, (by unfold r_Mod_isLetter; rw [if_neg hc1, if_neg hc6, if_neg hc7, if_neg hc9, if_pos hc10]), rfl⟩ d_Mod_isLetter_35
def r_Mod_isDigit (S : sS) (v1 : Int32) : Int32 := if v1 < (48 : Int32) then 0 else (if (57 : Int32) < v1 then 0 else 1)
abbrev rm_a_Mod_isDigit : Room := { frames := 0, cells := 0, slots := 0, locals := 0 }
set_option maxHeartbeats 4000000 in
set_option maxRecDepth 100000 in
theorem a_Mod_isDigit (l : Launch) (g : gG) (sz : Nat) (ad : Nat → Nat) (S : sS) (v1 : Int32) : Cz l y_Mod_isDigit b_Mod_isDigit 1 rm_a_Mod_isDigit g [.int v1] (Sw shM g ad S) sz (fun r w => ∃ S' : sS, w = Sw shM g ad S' ∧ r = r_Mod_isDigit S v1 ∧ S' = S) := by
  refine startZ (by decide) (Nat.le_of_ble_eq_true rfl) ?_
  intro p e s m below meth c A ls hx hb hr hml hlocks hmn hown htt hN hA hP hK hD hS hl
  have hown : s.vm.findClass "MacroMillModel" = some m.cls := hown
  have hl : lv_has ls 1 [(0, .int v1)] := hl
  refine lv_iload_n hx hb d_Mod_isDigit_0 rfl (lv_at hl 0 rfl) ?_
  refine lv_bipush (v := 48) hx hb d_Mod_isDigit_1 (by decide) ?_
  refine lv_icmp_lt (tgt := 16) hx hb d_Mod_isDigit_3 (by decide) (fun hc1 => ?_) (fun hc1 => ?_)
  · refine lv_iconst (v := 0) hx hb d_Mod_isDigit_16 (by decide) ?_
    exact fin_z (g := g) (ws := Sw shM g ad S) (v := 0) hx hb hr hlocks rfl (by decide +kernel) (by decide +kernel) hP hD hS ⟨_, rfl, (by unfold r_Mod_isDigit; rw [if_pos hc1]), rfl⟩ d_Mod_isDigit_17
  · refine lv_iload_n hx hb d_Mod_isDigit_6 rfl (lv_at hl 0 rfl) ?_
    refine lv_bipush (v := 57) hx hb d_Mod_isDigit_7 (by decide) ?_
    refine lv_icmp_gt (tgt := 16) hx hb d_Mod_isDigit_9 (by decide) (fun hc2 => ?_) (fun hc2 => ?_)
    · refine lv_iconst (v := 0) hx hb d_Mod_isDigit_16 (by decide) ?_
      exact fin_z (g := g) (ws := Sw shM g ad S) (v := 0) hx hb hr hlocks rfl (by decide +kernel) (by decide +kernel) hP hD hS ⟨_, rfl, (by unfold r_Mod_isDigit; rw [if_neg hc1, if_pos hc2]), rfl⟩ d_Mod_isDigit_17
    · refine lv_iconst (v := 1) hx hb d_Mod_isDigit_12 (by decide) ?_
      refine lv_goto (tgt := 17) hx hb d_Mod_isDigit_13 (by decide) ?_
      exact fin_z (g := g) (ws := Sw shM g ad S) (v := 1) hx hb hr hlocks rfl (by decide +kernel) (by decide +kernel) hP hD hS ⟨_, rfl, (by unfold r_Mod_isDigit; rw [if_neg hc1, if_neg hc2]), rfl⟩ d_Mod_isDigit_17
def r_Mod_isBlank (S : sS) (v1 : Int32) : Int32 := if v1 = (32 : Int32) then 1 else (if v1 = (9 : Int32) then 1 else (if v1 = (11 : Int32) then 1 else (if v1 = (12 : Int32) then 1 else (if v1 = (13 : Int32) then 1 else 0))))
abbrev rm_a_Mod_isBlank : Room := { frames := 0, cells := 0, slots := 0, locals := 0 }
set_option maxHeartbeats 4000000 in
set_option maxRecDepth 100000 in
theorem a_Mod_isBlank (l : Launch) (g : gG) (sz : Nat) (ad : Nat → Nat) (S : sS) (v1 : Int32) : Cz l y_Mod_isBlank b_Mod_isBlank 1 rm_a_Mod_isBlank g [.int v1] (Sw shM g ad S) sz (fun r w => ∃ S' : sS, w = Sw shM g ad S' ∧ r = r_Mod_isBlank S v1 ∧ S' = S) := by
  refine startZ (by decide) (Nat.le_of_ble_eq_true rfl) ?_
  intro p e s m below meth c A ls hx hb hr hml hlocks hmn hown htt hN hA hP hK hD hS hl
  have hown : s.vm.findClass "MacroMillModel" = some m.cls := hown
  have hl : lv_has ls 1 [(0, .int v1)] := hl
  refine lv_iload_n hx hb d_Mod_isBlank_0 rfl (lv_at hl 0 rfl) ?_
  refine lv_bipush (v := 32) hx hb d_Mod_isBlank_1 (by decide) ?_
  refine lv_icmp_eq (tgt := 30) hx hb d_Mod_isBlank_3 (by decide) (fun hc1 => ?_) (fun hc1 => ?_)
  · refine lv_iconst (v := 1) hx hb d_Mod_isBlank_30 (by decide) ?_
    refine lv_goto (tgt := 35) hx hb d_Mod_isBlank_31 (by decide) ?_
    exact fin_z (g := g) (ws := Sw shM g ad S) (v := 1) hx hb hr hlocks rfl (by decide +kernel) (by decide +kernel) hP hD hS ⟨_, rfl, (by unfold r_Mod_isBlank; rw [if_pos hc1]), rfl⟩ d_Mod_isBlank_35
  · refine lv_iload_n hx hb d_Mod_isBlank_6 rfl (lv_at hl 0 rfl) ?_
    refine lv_bipush (v := 9) hx hb d_Mod_isBlank_7 (by decide) ?_
    refine lv_icmp_eq (tgt := 30) hx hb d_Mod_isBlank_9 (by decide) (fun hc2 => ?_) (fun hc2 => ?_)
    · refine lv_iconst (v := 1) hx hb d_Mod_isBlank_30 (by decide) ?_
      refine lv_goto (tgt := 35) hx hb d_Mod_isBlank_31 (by decide) ?_
      exact fin_z (g := g) (ws := Sw shM g ad S) (v := 1) hx hb hr hlocks rfl (by decide +kernel) (by decide +kernel) hP hD hS ⟨_, rfl, (by unfold r_Mod_isBlank; rw [if_neg hc1, if_pos hc2]), rfl⟩ d_Mod_isBlank_35
    · refine lv_iload_n hx hb d_Mod_isBlank_12 rfl (lv_at hl 0 rfl) ?_
      refine lv_bipush (v := 11) hx hb d_Mod_isBlank_13 (by decide) ?_
      refine lv_icmp_eq (tgt := 30) hx hb d_Mod_isBlank_15 (by decide) (fun hc3 => ?_) (fun hc3 => ?_)
      · refine lv_iconst (v := 1) hx hb d_Mod_isBlank_30 (by decide) ?_
        refine lv_goto (tgt := 35) hx hb d_Mod_isBlank_31 (by decide) ?_
        exact fin_z (g := g) (ws := Sw shM g ad S) (v := 1) hx hb hr hlocks rfl (by decide +kernel) (by decide +kernel) hP hD hS ⟨_, rfl, (by unfold r_Mod_isBlank; rw [if_neg hc1, if_neg hc2, if_pos hc3]), rfl⟩ d_Mod_isBlank_35
      · refine lv_iload_n hx hb d_Mod_isBlank_18 rfl (lv_at hl 0 rfl) ?_
        refine lv_bipush (v := 12) hx hb d_Mod_isBlank_19 (by decide) ?_
        refine lv_icmp_eq (tgt := 30) hx hb d_Mod_isBlank_21 (by decide) (fun hc4 => ?_) (fun hc4 => ?_)
        · refine lv_iconst (v := 1) hx hb d_Mod_isBlank_30 (by decide) ?_
          refine lv_goto (tgt := 35) hx hb d_Mod_isBlank_31 (by decide) ?_
          exact fin_z (g := g) (ws := Sw shM g ad S) (v := 1) hx hb hr hlocks rfl (by decide +kernel) (by decide +kernel) hP hD hS ⟨_, rfl, (by unfold r_Mod_isBlank; rw [if_neg hc1, if_neg hc2, if_neg hc3, if_pos hc4]), rfl⟩ d_Mod_isBlank_35
        · refine lv_iload_n hx hb d_Mod_isBlank_24 rfl (lv_at hl 0 rfl) ?_
          refine lv_bipush (v := 13) hx hb d_Mod_isBlank_25 (by decide) ?_
          refine lv_icmp_ne (tgt := 34) hx hb d_Mod_isBlank_27 (by decide) (fun hc5 => ?_) (fun hc5 => ?_)
          · refine lv_iconst (v := 0) hx hb d_Mod_isBlank_34 (by decide) ?_
            show W _ _ _ _ _ _ _ _ _ _ _ _ _ _ _ (F0 _ 35 _ _)
            exact fin_z (g := g) (ws := Sw shM g ad S) (v := 0) hx hb hr hlocks rfl (by decide +kernel) (by decide +kernel) hP hD hS ⟨_, rfl, (by unfold r_Mod_isBlank; rw [if_neg hc1, if_neg hc2, if_neg hc3, if_neg hc4, if_neg hc5]), rfl⟩ d_Mod_isBlank_35
          · refine lv_iconst (v := 1) hx hb d_Mod_isBlank_30 (by decide) ?_
            show W _ _ _ _ _ _ _ _ _ _ _ _ _ _ _ (F0 _ 31 _ _)
            refine lv_goto (tgt := 35) hx hb d_Mod_isBlank_31 (by decide) ?_
            exact fin_z (g := g) (ws := Sw shM g ad S) (v := 1) hx hb hr hlocks rfl (by decide +kernel) (by decide +kernel) hP hD hS ⟨_, rfl, (by unfold r_Mod_isBlank; rw [if_neg hc1, if_neg hc2, if_neg hc3, if_neg hc4, if_pos hc5]), rfl⟩ d_Mod_isBlank_35
def s_Mod_fail (S : sS) (v1 : Int32) (v2 : Int32) (v3 : Int32) : sS := if (S.1 0 10) = (0 : Int32) then ((putI (putI (putI S 0 10 v1) 0 11 v2) 0 12 v3)) else S
abbrev rm_a_Mod_fail : Room := { frames := 0, cells := 0, slots := 0, locals := 0 }
set_option maxHeartbeats 4000000 in
set_option maxRecDepth 100000 in
theorem a_Mod_fail (l : Launch) (g : gG) (sz : Nat) (ad : Nat → Nat) (S : sS) (v1 : Int32) (v2 : Int32) (v3 : Int32) : Cv l y_Mod_fail b_Mod_fail 4 rm_a_Mod_fail g [.ref (ad 0), .int v1, .int v2, .int v3] (Sw shM g ad S) sz (fun w => ∃ S' : sS, w = Sw shM g ad S' ∧ S' = s_Mod_fail S v1 v2 v3) := by
  refine startV (by decide) (Nat.le_of_ble_eq_true rfl) ?_
  intro p e s m below meth c A ls hx hb hr hml hlocks hmn hown htt hN hA hP hK hD hS hl
  have hown : s.vm.findClass "MacroMillModel" = some m.cls := hown
  have hl : lv_has ls 4 [(0, .ref (ad 0)), (1, .int v1), (2, .int v2), (3, .int v3)] := hl
  refine lv_aload_n hx hb d_Mod_fail_0 rfl (lv_at hl 0 rfl) ?_
  refine S_getI (h := shM) (C := "MacroMillModel") (T := F_Mod) hx hb htt in_Mod hown hK hP 0 10 rfl rfl rfl (by decide) (htt _ k_2246) (fun _ h9 => h9) d_Mod_fail_1 ?_
  refine lv_if_ne (tgt := 22) hx hb d_Mod_fail_4 (by decide) (fun hc1 => ?_) (fun hc1 => ?_)
  · exact fin_v (g := g) (ws := Sw shM g ad S) hx hb hr hlocks (by decide +kernel) (by decide +kernel) hP hD hS ⟨_, rfl, (by unfold s_Mod_fail; rw [if_neg hc1])⟩ d_Mod_fail_22
  · refine lv_aload_n hx hb d_Mod_fail_7 rfl (lv_at hl 0 rfl) ?_
    refine lv_iload_n hx hb d_Mod_fail_8 rfl (lv_at hl 1 rfl) ?_
    refine S_put (h := shM) (C := "MacroMillModel") (T := F_Mod) (v := v1) hx hb htt in_Mod t_Mod t_Mod_ok n_Mod hown hK hP hD hS 0 10 rfl rfl rfl (by decide) (htt _ k_2246) (fun _ h9 => h9) rfl rfl rfl d_Mod_fail_9 (fun H locs hP hD hS => ?_)
    refine lv_aload_n hx hb d_Mod_fail_12 rfl (lv_at hl 0 rfl) ?_
    refine lv_iload_n hx hb d_Mod_fail_13 rfl (lv_at hl 2 rfl) ?_
    refine S_put (h := shM) (C := "MacroMillModel") (T := F_Mod) (v := v2) hx hb htt in_Mod t_Mod t_Mod_ok n_Mod hown hK hP hD hS 0 11 rfl rfl rfl (by decide) (htt _ k_2247) (fun _ h9 => h9) rfl rfl rfl d_Mod_fail_14 (fun H locs hP hD hS => ?_)
    refine lv_aload_n hx hb d_Mod_fail_17 rfl (lv_at hl 0 rfl) ?_
    refine lv_iload_n hx hb d_Mod_fail_18 rfl (lv_at hl 3 rfl) ?_
    refine S_put (h := shM) (C := "MacroMillModel") (T := F_Mod) (v := v3) hx hb htt in_Mod t_Mod t_Mod_ok n_Mod hown hK hP hD hS 0 12 rfl rfl rfl (by decide) (htt _ k_2248) (fun _ h9 => h9) rfl rfl rfl d_Mod_fail_19 (fun H locs hP hD hS => ?_)
    show W _ _ _ _ _ _ _ _ _ _ _ _ _ _ _ (F0 _ 22 _ _)
    exact fin_v (g := g) (ws := Sw shM g ad (putI (putI (putI S 0 10 v1) 0 11 v2) 0 12 v3)) hx hb hr hlocks (by decide +kernel) (by decide +kernel) hP hD hS ⟨_, rfl, (by unfold s_Mod_fail; rw [if_pos hc1])⟩ d_Mod_fail_22
def r_Mod_inputLeft (S : sS) : Int32 := (32768 : Int32) - (S.1 0 20)
abbrev rm_a_Mod_inputLeft : Room := { frames := 0, cells := 0, slots := 0, locals := 0 }
set_option maxHeartbeats 4000000 in
set_option maxRecDepth 100000 in
theorem a_Mod_inputLeft (l : Launch) (g : gG) (sz : Nat) (ad : Nat → Nat) (S : sS) : Ci l y_Mod_inputLeft b_Mod_inputLeft 1 rm_a_Mod_inputLeft g [.ref (ad 0)] (Sw shM g ad S) sz (fun r w => ∃ S' : sS, w = Sw shM g ad S' ∧ r = r_Mod_inputLeft S ∧ S' = S) := by
  refine startI (by decide) (Nat.le_of_ble_eq_true rfl) ?_
  intro p e s m below meth c A ls hx hb hr hml hlocks hmn hown htt hN hA hP hK hD hS hl
  have hown : s.vm.findClass "MacroMillModel" = some m.cls := hown
  have hl : lv_has ls 1 [(0, .ref (ad 0))] := hl
  refine lv_ldc (v := 32768) hx hb hown (htt _ k_2229) d_Mod_inputLeft_0 ?_
  refine lv_aload_n hx hb d_Mod_inputLeft_2 rfl (lv_at hl 0 rfl) ?_
  refine S_getI (h := shM) (C := "MacroMillModel") (T := F_Mod) hx hb htt in_Mod hown hK hP 0 20 rfl rfl rfl (by decide) (htt _ k_2256) (fun _ h9 => h9) d_Mod_inputLeft_3 ?_
  refine lv_isub hx hb d_Mod_inputLeft_6 ?_
  exact fin_i (g := g) (ws := Sw shM g ad S) (v := (32768 : Int32) - (S.1 0 20)) hx hb hr hlocks (by decide +kernel) (by decide +kernel) hP hD hS ⟨_, rfl, rfl, rfl⟩ d_Mod_inputLeft_7
def r_Mod_peek (S : sS) (v1 : Int32) : Int32 := if (32768 : Int32) ≤ ((S.1 0 20) + v1) then ((-1)) else ((S.2.1 7 ((S.1 0 20) + v1 : Int32).toNatClampNeg) &&& (255 : Int32))
abbrev rm_a_Mod_peek : Room := { frames := 0, cells := 0, slots := 0, locals := 0 }
set_option maxHeartbeats 4000000 in
set_option maxRecDepth 100000 in
theorem a_Mod_peek (l : Launch) (g : gG) (sz : Nat) (ad : Nat → Nat) (S : sS) (v1 : Int32) (hb0 : ¬ ((32768 : Int32) ≤ ((S.1 0 20) + v1)) → vp_in ((S.1 0 20) + v1) 32768) : Ci l y_Mod_peek b_Mod_peek 2 rm_a_Mod_peek g [.ref (ad 0), .int v1] (Sw shM g ad S) sz (fun r w => ∃ S' : sS, w = Sw shM g ad S' ∧ r = r_Mod_peek S v1 ∧ S' = S) := by
  refine startI (by decide) (Nat.le_of_ble_eq_true rfl) ?_
  intro p e s m below meth c A ls hx hb hr hml hlocks hmn hown htt hN hA hP hK hD hS hl
  have hown : s.vm.findClass "MacroMillModel" = some m.cls := hown
  have hl : lv_has ls 2 [(0, .ref (ad 0)), (1, .int v1)] := hl
  refine lv_aload_n hx hb d_Mod_peek_0 rfl (lv_at hl 0 rfl) ?_
  refine S_getI (h := shM) (C := "MacroMillModel") (T := F_Mod) hx hb htt in_Mod hown hK hP 0 20 rfl rfl rfl (by decide) (htt _ k_2256) (fun _ h9 => h9) d_Mod_peek_1 ?_
  refine lv_iload_n hx hb d_Mod_peek_4 rfl (lv_at hl 1 rfl) ?_
  refine lv_iadd hx hb d_Mod_peek_5 ?_
  refine lv_ldc (v := 32768) hx hb hown (htt _ k_2229) d_Mod_peek_6 ?_
  refine lv_icmp_ge (tgt := 29) hx hb d_Mod_peek_8 (by decide) (fun hc1 => ?_) (fun hc1 => ?_)
  · refine lv_iconst (v := (-1)) hx hb d_Mod_peek_29 (by decide) ?_
    exact fin_i (g := g) (ws := Sw shM g ad S) (v := (-1)) hx hb hr hlocks (by decide +kernel) (by decide +kernel) hP hD hS ⟨_, rfl, (by unfold r_Mod_peek; rw [if_pos hc1]), rfl⟩ d_Mod_peek_30
  · refine lv_aload_n hx hb d_Mod_peek_11 rfl (lv_at hl 0 rfl) ?_
    refine S_getR (h := shM) (C := "MacroMillModel") (T := F_Mod) hx hb htt in_Mod hown hK hP 0 19 rfl 8 rfl rfl (by decide) (htt _ k_2255) (fun _ h9 => h9) d_Mod_peek_12 ?_
    refine lv_aload_n hx hb d_Mod_peek_15 rfl (lv_at hl 0 rfl) ?_
    refine S_getI (h := shM) (C := "MacroMillModel") (T := F_Mod) hx hb htt in_Mod hown hK hP 0 20 rfl rfl rfl (by decide) (htt _ k_2256) (fun _ h9 => h9) d_Mod_peek_16 ?_
    refine lv_iload_n hx hb d_Mod_peek_19 rfl (lv_at hl 1 rfl) ?_
    refine lv_iadd hx hb d_Mod_peek_20 ?_
    show W _ _ _ _ _ _ _ _ _ _ _ _ _ _ _ (F0 _ 21 _ _)
    refine S_bald (h := shM) (i := (S.1 0 20) + v1) hx hb hK hP 7 rfl (hb0 hc1) d_Mod_peek_21 ?_
    refine lv_sipush (v := 255) hx hb d_Mod_peek_22 (by decide) ?_
    refine lv_iand hx hb d_Mod_peek_25 ?_
    refine lv_goto (tgt := 30) hx hb d_Mod_peek_26 (by decide) ?_
    exact fin_i (g := g) (ws := Sw shM g ad S) (v := (S.2.1 7 ((S.1 0 20) + v1 : Int32).toNatClampNeg) &&& (255 : Int32)) hx hb hr hlocks (by decide +kernel) (by decide +kernel) hP hD hS ⟨_, rfl, (by unfold r_Mod_peek; rw [if_neg hc1]), rfl⟩ d_Mod_peek_30
def s_Mod_fail1 (S : sS) (v1 : Int32) : sS := (s_Mod_fail S (v1) (S.1 0 22) (S.1 0 23))
abbrev rm_a_Mod_fail1 : Room := { frames := 1, cells := 0, slots := 0, locals := 23 }
set_option maxHeartbeats 4000000 in
set_option maxRecDepth 100000 in
theorem a_Mod_fail1 (l : Launch) (g : gG) (sz : Nat) (ad : Nat → Nat) (S : sS) (v1 : Int32) : Cv l y_Mod_fail1 b_Mod_fail1 2 rm_a_Mod_fail1 g [.ref (ad 0), .int v1] (Sw shM g ad S) sz (fun w => ∃ S' : sS, w = Sw shM g ad S' ∧ S' = s_Mod_fail1 S v1) := by
  refine startV (by decide) (Nat.le_of_ble_eq_true rfl) ?_
  intro p e s m below meth c A ls hx hb hr hml hlocks hmn hown htt hN hA hP hK hD hS hl
  have hown : s.vm.findClass "MacroMillModel" = some m.cls := hown
  have hl : lv_has ls 2 [(0, .ref (ad 0)), (1, .int v1)] := hl
  refine lv_aload_n hx hb d_Mod_fail1_0 rfl (lv_at hl 0 rfl) ?_
  refine lv_iload_n hx hb d_Mod_fail1_1 rfl (lv_at hl 1 rfl) ?_
  refine lv_aload_n hx hb d_Mod_fail1_2 rfl (lv_at hl 0 rfl) ?_
  refine S_getI (h := shM) (C := "MacroMillModel") (T := F_Mod) hx hb htt in_Mod hown hK hP 0 22 rfl rfl rfl (by decide) (htt _ k_2258) (fun _ h9 => h9) d_Mod_fail1_3 ?_
  refine lv_aload_n hx hb d_Mod_fail1_6 rfl (lv_at hl 0 rfl) ?_
  refine S_getI (h := shM) (C := "MacroMillModel") (T := F_Mod) hx hb htt in_Mod hown hK hP 0 23 rfl rfl rfl (by decide) (htt _ k_2259) (fun _ h9 => h9) d_Mod_fail1_7 ?_
  refine go_vS (As := [.ref (ad 0), .int v1, .int (S.1 0 22), .int (S.1 0 23)]) (g := g) (A := A) (h := shM) hP hK hD hS hA hN (fun hp => va_runV (As := [.int v1, .int (S.1 0 22), .int (S.1 0 23)]) (rest := []) ⟨hx, hb, hml, hown, htt⟩ (a_Mod_fail l g _ ad S (v1) (S.1 0 22) (S.1 0 23)) ⟨(cb_L htt k_2771 k_276 k_2768 hd_Mod_fail ⟨(by decide +kernel), (by decide +kernel)⟩), htt _ k_2770, htt _ k_139⟩ ⟨hp.1, S_recv hK hP 0 rfl rfl, hp.2⟩ rfl rfl hl.1 rfl (lv_room (Nat.le_of_ble_eq_true rfl)) d_Mod_fail1_10 ⟨(by decide +kernel), (by decide +kernel)⟩) (fun Sn H locs hw9 hP hD hS => ?_)
  obtain rfl := hw9
  refine W.widen (k := 0) (n := 0) (by decide +kernel) (by decide +kernel) ?_
  exact fin_v (g := g) (ws := Sw shM g ad (s_Mod_fail S (v1) (S.1 0 22) (S.1 0 23))) hx hb hr hlocks (by decide +kernel) (by decide +kernel) hP hD hS ⟨_, rfl, rfl⟩ d_Mod_fail1_13
def s_Mod_give (S : sS) (v1 : Int32) : sS := if ((S.1 0 33) + (r_Mod_inputLeft S)) < (32768 : Int32) then (if (S.1 0 10) = (0 : Int32) then ((putI (putA S 11 (S.1 0 33 : Int32).toNatClampNeg (vp_nar .byte v1.toInt8.toInt32)) 0 33 ((S.1 0 33) + (1 : Int32)))) else S) else (if ((s_Mod_fail1 S (40 : Int32)).1 0 10) = (0 : Int32) then ((putI (putA (s_Mod_fail1 S (40 : Int32)) 11 ((s_Mod_fail1 S (40 : Int32)).1 0 33 : Int32).toNatClampNeg (vp_nar .byte v1.toInt8.toInt32)) 0 33 (((s_Mod_fail1 S (40 : Int32)).1 0 33) + (1 : Int32)))) else ((s_Mod_fail1 S (40 : Int32))))
abbrev rm_a_Mod_give : Room := { frames := 2, cells := 0, slots := 0, locals := 44 }
set_option maxHeartbeats 4000000 in
set_option maxRecDepth 100000 in
theorem a_Mod_give (l : Launch) (g : gG) (sz : Nat) (ad : Nat → Nat) (S : sS) (v1 : Int32) (hb0 : ((S.1 0 33) + (r_Mod_inputLeft S)) < (32768 : Int32) → (S.1 0 10) = (0 : Int32) → vp_in (S.1 0 33) 32769) (hb1 : ¬ (((S.1 0 33) + (r_Mod_inputLeft S)) < (32768 : Int32)) → ((s_Mod_fail1 S (40 : Int32)).1 0 10) = (0 : Int32) → vp_in ((s_Mod_fail1 S (40 : Int32)).1 0 33) 32769) : Cv l y_Mod_give b_Mod_give 2 rm_a_Mod_give g [.ref (ad 0), .int v1] (Sw shM g ad S) sz (fun w => ∃ S' : sS, w = Sw shM g ad S' ∧ S' = s_Mod_give S v1) := by
  refine startV (by decide) (Nat.le_of_ble_eq_true rfl) ?_
  intro p e s m below meth c A ls hx hb hr hml hlocks hmn hown htt hN hA hP hK hD hS hl
  have hown : s.vm.findClass "MacroMillModel" = some m.cls := hown
  have hl : lv_has ls 2 [(0, .ref (ad 0)), (1, .int v1)] := hl
  refine lv_aload_n hx hb d_Mod_give_0 rfl (lv_at hl 0 rfl) ?_
  refine S_getI (h := shM) (C := "MacroMillModel") (T := F_Mod) hx hb htt in_Mod hown hK hP 0 33 rfl rfl rfl (by decide) (htt _ k_2269) (fun _ h9 => h9) d_Mod_give_1 ?_
  refine lv_aload_n hx hb d_Mod_give_4 rfl (lv_at hl 0 rfl) ?_
  refine go_iS (As := [.ref (ad 0)]) (g := g) (A := A) (h := shM) hP hK hD hS hA hN (fun hp => va_runV (As := []) (rest := [.int (S.1 0 33)]) ⟨hx, hb, hml, hown, htt⟩ (a_Mod_inputLeft l g _ ad S) ⟨(cb_L htt k_2828 k_276 k_2825 hd_Mod_inputLeft ⟨(by decide +kernel), (by decide +kernel)⟩), htt _ k_2827, htt _ k_151⟩ ⟨hp.1, S_recv hK hP 0 rfl rfl, hp.2⟩ rfl rfl hl.1 rfl (lv_room (Nat.le_of_ble_eq_true rfl)) d_Mod_give_5 ⟨(by decide +kernel), (by decide +kernel)⟩) (fun r9 Sn H locs hw9 hP hD hS => ?_)
  obtain ⟨rfl, e9⟩ := hw9
  rw [e9] at hP hD
  refine W.widen (k := 0) (n := 0) (by decide +kernel) (by decide +kernel) ?_
  refine lv_iadd hx hb d_Mod_give_8 ?_
  refine lv_ldc (v := 32768) hx hb hown (htt _ k_2229) d_Mod_give_9 ?_
  refine lv_icmp_lt (tgt := 20) hx hb d_Mod_give_11 (by decide) (fun hc1 => ?_) (fun hc1 => ?_)
  · refine lv_aload_n hx hb d_Mod_give_20 rfl (lv_at hl 0 rfl) ?_
    refine S_getI (h := shM) (C := "MacroMillModel") (T := F_Mod) hx hb htt in_Mod hown hK hP 0 10 rfl rfl rfl (by decide) (htt _ k_2246) (fun _ h9 => h9) d_Mod_give_21 ?_
    refine lv_if_ne (tgt := 48) hx hb d_Mod_give_24 (by decide) (fun hc2 => ?_) (fun hc2 => ?_)
    · exact fin_v (g := g) (ws := Sw shM g ad S) hx hb hr hlocks (by decide +kernel) (by decide +kernel) hP hD hS ⟨_, rfl, (by unfold s_Mod_give; rw [if_pos hc1, if_neg hc2])⟩ d_Mod_give_48
    · refine lv_aload_n hx hb d_Mod_give_27 rfl (lv_at hl 0 rfl) ?_
      refine S_getR (h := shM) (C := "MacroMillModel") (T := F_Mod) hx hb htt in_Mod hown hK hP 0 32 rfl 12 rfl rfl (by decide) (htt _ k_2268) (fun _ h9 => h9) d_Mod_give_28 ?_
      refine lv_aload_n hx hb d_Mod_give_31 rfl (lv_at hl 0 rfl) ?_
      show W _ _ _ _ _ _ _ _ _ _ _ _ _ _ _ (F0 _ 32 _ _)
      refine S_getI (h := shM) (C := "MacroMillModel") (T := F_Mod) hx hb htt in_Mod hown hK hP 0 33 rfl rfl rfl (by decide) (htt _ k_2269) (fun _ h9 => h9) d_Mod_give_32 ?_
      refine lv_iload_n hx hb d_Mod_give_35 rfl (lv_at hl 1 rfl) ?_
      refine lv_i2b (v := v1.toInt8.toInt32) hx hb d_Mod_give_36 rfl ?_
      refine S_bast (h := shM) (i := S.1 0 33) (v := v1.toInt8.toInt32) hx hb hK hP hD hS 11 rfl (hb0 hc1 hc2) d_Mod_give_37 (fun H locs hP hD hS => ?_)
      refine lv_aload_n hx hb d_Mod_give_38 rfl (lv_at hl 0 rfl) ?_
      refine lv_dup hx hb d_Mod_give_39 rfl ?_
      refine S_getI (h := shM) (C := "MacroMillModel") (T := F_Mod) hx hb htt in_Mod hown hK hP 0 33 rfl rfl rfl (by decide) (htt _ k_2269) (fun _ h9 => h9) d_Mod_give_40 ?_
      refine toI (y := S.1 0 33) rfl ?_
      refine lv_iconst (v := 1) hx hb d_Mod_give_43 (by decide) ?_
      refine lv_iadd hx hb d_Mod_give_44 ?_
      refine S_put (h := shM) (C := "MacroMillModel") (T := F_Mod) (v := (S.1 0 33) + (1 : Int32)) hx hb htt in_Mod t_Mod t_Mod_ok n_Mod hown hK hP hD hS 0 33 rfl rfl rfl (by decide) (htt _ k_2269) (fun _ h9 => h9) rfl rfl rfl d_Mod_give_45 (fun H locs hP hD hS => ?_)
      exact fin_v (g := g) (ws := Sw shM g ad (putI (putA S 11 (S.1 0 33 : Int32).toNatClampNeg (vp_nar .byte v1.toInt8.toInt32)) 0 33 ((S.1 0 33) + (1 : Int32)))) hx hb hr hlocks (by decide +kernel) (by decide +kernel) hP hD hS ⟨_, rfl, (by unfold s_Mod_give; rw [if_pos hc1, if_pos hc2])⟩ d_Mod_give_48
  · refine lv_aload_n hx hb d_Mod_give_14 rfl (lv_at hl 0 rfl) ?_
    refine lv_bipush (v := 40) hx hb d_Mod_give_15 (by decide) ?_
    refine go_vS (As := [.ref (ad 0), .int 40]) (g := g) (A := A) (h := shM) hP hK hD hS hA hN (fun hp => va_runV (As := [.int 40]) (rest := []) ⟨hx, hb, hml, hown, htt⟩ (a_Mod_fail1 l g _ ad S (40 : Int32)) ⟨(cb_L htt k_2767 k_276 k_2764 hd_Mod_fail1 ⟨(by decide +kernel), (by decide +kernel)⟩), htt _ k_2766, htt _ k_138⟩ ⟨hp.1, S_recv hK hP 0 rfl rfl, hp.2⟩ rfl rfl hl.1 rfl (lv_room (Nat.le_of_ble_eq_true rfl)) d_Mod_give_17 ⟨(by decide +kernel), (by decide +kernel)⟩) (fun Sn_2 H locs hw9 hP hD hS => ?_)
    obtain rfl := hw9
    refine W.widen (k := 0) (n := 0) (by decide +kernel) (by decide +kernel) ?_
    refine lv_aload_n hx hb d_Mod_give_20 rfl (lv_at hl 0 rfl) ?_
    refine S_getI (h := shM) (C := "MacroMillModel") (T := F_Mod) hx hb htt in_Mod hown hK hP 0 10 rfl rfl rfl (by decide) (htt _ k_2246) (fun _ h9 => h9) d_Mod_give_21 ?_
    refine lv_if_ne (tgt := 48) hx hb d_Mod_give_24 (by decide) (fun hc3 => ?_) (fun hc3 => ?_)
    · show W _ _ _ _ _ _ _ _ _ _ _ _ _ _ _ (F0 _ 48 _ _)
      exact fin_v (g := g) (ws := Sw shM g ad (s_Mod_fail1 S (40 : Int32))) hx hb hr hlocks (by decide +kernel) (by decide +kernel) hP hD hS ⟨_, rfl, (by unfold s_Mod_give; rw [if_neg hc1, if_neg hc3])⟩ d_Mod_give_48
    · show W _ _ _ _ _ _ _ _ _ _ _ _ _ _ _ (F0 _ 27 _ _)
      refine lv_aload_n hx hb d_Mod_give_27 rfl (lv_at hl 0 rfl) ?_
      refine S_getR (h := shM) (C := "MacroMillModel") (T := F_Mod) hx hb htt in_Mod hown hK hP 0 32 rfl 12 rfl rfl (by decide) (htt _ k_2268) (fun _ h9 => h9) d_Mod_give_28 ?_
      refine lv_aload_n hx hb d_Mod_give_31 rfl (lv_at hl 0 rfl) ?_
      refine S_getI (h := shM) (C := "MacroMillModel") (T := F_Mod) hx hb htt in_Mod hown hK hP 0 33 rfl rfl rfl (by decide) (htt _ k_2269) (fun _ h9 => h9) d_Mod_give_32 ?_
      refine lv_iload_n hx hb d_Mod_give_35 rfl (lv_at hl 1 rfl) ?_
      refine lv_i2b (v := v1.toInt8.toInt32) hx hb d_Mod_give_36 rfl ?_
      refine S_bast (h := shM) (i := (s_Mod_fail1 S (40 : Int32)).1 0 33) (v := v1.toInt8.toInt32) hx hb hK hP hD hS 11 rfl (hb1 hc1 hc3) d_Mod_give_37 (fun H locs hP hD hS => ?_)
      refine lv_aload_n hx hb d_Mod_give_38 rfl (lv_at hl 0 rfl) ?_
      refine lv_dup hx hb d_Mod_give_39 rfl ?_
      refine S_getI (h := shM) (C := "MacroMillModel") (T := F_Mod) hx hb htt in_Mod hown hK hP 0 33 rfl rfl rfl (by decide) (htt _ k_2269) (fun _ h9 => h9) d_Mod_give_40 ?_
      refine toI (y := (s_Mod_fail1 S (40 : Int32)).1 0 33) rfl ?_
      refine lv_iconst (v := 1) hx hb d_Mod_give_43 (by decide) ?_
      refine lv_iadd hx hb d_Mod_give_44 ?_
      show W _ _ _ _ _ _ _ _ _ _ _ _ _ _ _ (F0 _ 45 _ _)
      refine S_put (h := shM) (C := "MacroMillModel") (T := F_Mod) (v := ((s_Mod_fail1 S (40 : Int32)).1 0 33) + (1 : Int32)) hx hb htt in_Mod t_Mod t_Mod_ok n_Mod hown hK hP hD hS 0 33 rfl rfl rfl (by decide) (htt _ k_2269) (fun _ h9 => h9) rfl rfl rfl d_Mod_give_45 (fun H locs hP hD hS => ?_)
      exact fin_v (g := g) (ws := Sw shM g ad (putI (putA (s_Mod_fail1 S (40 : Int32)) 11 ((s_Mod_fail1 S (40 : Int32)).1 0 33 : Int32).toNatClampNeg (vp_nar .byte v1.toInt8.toInt32)) 0 33 (((s_Mod_fail1 S (40 : Int32)).1 0 33) + (1 : Int32)))) hx hb hr hlocks (by decide +kernel) (by decide +kernel) hP hD hS ⟨_, rfl, (by unfold s_Mod_give; rw [if_neg hc1, if_pos hc3])⟩ d_Mod_give_48
def s_Mod_divertByte (S : sS) (v1 : Int32) (v2 : Int32) : sS := if (0 : Int32) ≤ v1 then (if (S.1 0 45) = (32768 : Int32) then ((s_Mod_fail1 S (40 : Int32))) else ((putI (putA (putA S 17 (((32768 : Int32) * v1) + (S.2.1 18 (v1 : Int32).toNatClampNeg) : Int32).toNatClampNeg (vp_nar .byte v2.toInt8.toInt32)) 18 (v1 : Int32).toNatClampNeg (((putA S 17 (((32768 : Int32) * v1) + (S.2.1 18 (v1 : Int32).toNatClampNeg) : Int32).toNatClampNeg (vp_nar .byte v2.toInt8.toInt32)).2.1 18 (v1 : Int32).toNatClampNeg) + (1 : Int32))) 0 45 ((S.1 0 45) + (1 : Int32))))) else S
abbrev rm_a_Mod_divertByte : Room := { frames := 2, cells := 0, slots := 0, locals := 44 }
set_option maxHeartbeats 4000000 in
set_option maxRecDepth 100000 in
theorem a_Mod_divertByte (l : Launch) (g : gG) (sz : Nat) (ad : Nat → Nat) (S : sS) (v1 : Int32) (v2 : Int32) (hb0 : (0 : Int32) ≤ v1 → ¬ ((S.1 0 45) = (32768 : Int32)) → vp_in (v1) 10) (hb1 : (0 : Int32) ≤ v1 → ¬ ((S.1 0 45) = (32768 : Int32)) → vp_in (((32768 : Int32) * v1) + (S.2.1 18 (v1 : Int32).toNatClampNeg)) 327680) : Cv l y_Mod_divertByte b_Mod_divertByte 3 rm_a_Mod_divertByte g [.ref (ad 0), .int v1, .int v2] (Sw shM g ad S) sz (fun w => ∃ S' : sS, w = Sw shM g ad S' ∧ S' = s_Mod_divertByte S v1 v2) := by
  refine startV (by decide) (Nat.le_of_ble_eq_true rfl) ?_
  intro p e s m below meth c A ls hx hb hr hml hlocks hmn hown htt hN hA hP hK hD hS hl
  have hown : s.vm.findClass "MacroMillModel" = some m.cls := hown
  have hl : lv_has ls 3 [(0, .ref (ad 0)), (1, .int v1), (2, .int v2)] := hl
  refine lv_iload_n hx hb d_Mod_divertByte_0 rfl (lv_at hl 1 rfl) ?_
  refine lv_if_ge (tgt := 5) hx hb d_Mod_divertByte_1 (by decide) (fun hc1 => ?_) (fun hc1 => ?_)
  · refine lv_aload_n hx hb d_Mod_divertByte_5 rfl (lv_at hl 0 rfl) ?_
    refine S_getI (h := shM) (C := "MacroMillModel") (T := F_Mod) hx hb htt in_Mod hown hK hP 0 45 rfl rfl rfl (by decide) (htt _ k_2281) (fun _ h9 => h9) d_Mod_divertByte_6 ?_
    refine lv_ldc (v := 32768) hx hb hown (htt _ k_2229) d_Mod_divertByte_9 ?_
    refine lv_icmp_ne (tgt := 21) hx hb d_Mod_divertByte_11 (by decide) (fun hc2 => ?_) (fun hc2 => ?_)
    · refine lv_aload_n hx hb d_Mod_divertByte_21 rfl (lv_at hl 0 rfl) ?_
      refine S_getR (h := shM) (C := "MacroMillModel") (T := F_Mod) hx hb htt in_Mod hown hK hP 0 43 rfl 18 rfl rfl (by decide) (htt _ k_2279) (fun _ h9 => h9) d_Mod_divertByte_22 ?_
      refine lv_ldc (v := 32768) hx hb hown (htt _ k_2229) d_Mod_divertByte_25 ?_
      refine lv_iload_n hx hb d_Mod_divertByte_27 rfl (lv_at hl 1 rfl) ?_
      refine lv_imul hx hb d_Mod_divertByte_28 ?_
      refine lv_aload_n hx hb d_Mod_divertByte_29 rfl (lv_at hl 0 rfl) ?_
      refine S_getR (h := shM) (C := "MacroMillModel") (T := F_Mod) hx hb htt in_Mod hown hK hP 0 44 rfl 19 rfl rfl (by decide) (htt _ k_2280) (fun _ h9 => h9) d_Mod_divertByte_30 ?_
      show W _ _ _ _ _ _ _ _ _ _ _ _ _ _ _ (F0 _ 33 _ _)
      refine lv_iload_n hx hb d_Mod_divertByte_33 rfl (lv_at hl 1 rfl) ?_
      refine S_iald (h := shM) (i := v1) hx hb hK hP 18 rfl (hb0 hc1 hc2) d_Mod_divertByte_34 ?_
      refine lv_iadd hx hb d_Mod_divertByte_35 ?_
      refine lv_iload_n hx hb d_Mod_divertByte_36 rfl (lv_at hl 2 rfl) ?_
      refine lv_i2b (v := v2.toInt8.toInt32) hx hb d_Mod_divertByte_37 rfl ?_
      refine S_bast (h := shM) (i := ((32768 : Int32) * v1) + (S.2.1 18 (v1 : Int32).toNatClampNeg)) (v := v2.toInt8.toInt32) hx hb hK hP hD hS 17 rfl (hb1 hc1 hc2) d_Mod_divertByte_38 (fun H locs hP hD hS => ?_)
      refine lv_aload_n hx hb d_Mod_divertByte_39 rfl (lv_at hl 0 rfl) ?_
      refine S_getR (h := shM) (C := "MacroMillModel") (T := F_Mod) hx hb htt in_Mod hown hK hP 0 44 rfl 19 rfl rfl (by decide) (htt _ k_2280) (fun _ h9 => h9) d_Mod_divertByte_40 ?_
      refine lv_iload_n hx hb d_Mod_divertByte_43 rfl (lv_at hl 1 rfl) ?_
      refine lv_dup2_11 hx hb d_Mod_divertByte_44 rfl rfl ?_
      refine S_iald (h := shM) (i := v1) hx hb hK hP 18 rfl (hb0 hc1 hc2) d_Mod_divertByte_45 ?_
      refine lv_iconst (v := 1) hx hb d_Mod_divertByte_46 (by decide) ?_
      show W _ _ _ _ _ _ _ _ _ _ _ _ _ _ _ (F0 _ 47 _ _)
      refine lv_iadd hx hb d_Mod_divertByte_47 ?_
      refine S_iast (h := shM) (i := v1) (v := ((putA S 17 (((32768 : Int32) * v1) + (S.2.1 18 (v1 : Int32).toNatClampNeg) : Int32).toNatClampNeg (vp_nar .byte v2.toInt8.toInt32)).2.1 18 (v1 : Int32).toNatClampNeg) + (1 : Int32)) hx hb hK hP hD hS 18 rfl (hb0 hc1 hc2) d_Mod_divertByte_48 (fun H locs hP hD hS => ?_)
      refine lv_aload_n hx hb d_Mod_divertByte_49 rfl (lv_at hl 0 rfl) ?_
      refine lv_dup hx hb d_Mod_divertByte_50 rfl ?_
      refine S_getI (h := shM) (C := "MacroMillModel") (T := F_Mod) hx hb htt in_Mod hown hK hP 0 45 rfl rfl rfl (by decide) (htt _ k_2281) (fun _ h9 => h9) d_Mod_divertByte_51 ?_
      refine toI (y := S.1 0 45) rfl ?_
      refine lv_iconst (v := 1) hx hb d_Mod_divertByte_54 (by decide) ?_
      refine lv_iadd hx hb d_Mod_divertByte_55 ?_
      refine S_put (h := shM) (C := "MacroMillModel") (T := F_Mod) (v := (S.1 0 45) + (1 : Int32)) hx hb htt in_Mod t_Mod t_Mod_ok n_Mod hown hK hP hD hS 0 45 rfl rfl rfl (by decide) (htt _ k_2281) (fun _ h9 => h9) rfl rfl rfl d_Mod_divertByte_56 (fun H locs hP hD hS => ?_)
      exact fin_v (g := g) (ws := Sw shM g ad (putI (putA (putA S 17 (((32768 : Int32) * v1) + (S.2.1 18 (v1 : Int32).toNatClampNeg) : Int32).toNatClampNeg (vp_nar .byte v2.toInt8.toInt32)) 18 (v1 : Int32).toNatClampNeg (((putA S 17 (((32768 : Int32) * v1) + (S.2.1 18 (v1 : Int32).toNatClampNeg) : Int32).toNatClampNeg (vp_nar .byte v2.toInt8.toInt32)).2.1 18 (v1 : Int32).toNatClampNeg) + (1 : Int32))) 0 45 ((S.1 0 45) + (1 : Int32)))) hx hb hr hlocks (by decide +kernel) (by decide +kernel) hP hD hS ⟨_, rfl, (by unfold s_Mod_divertByte; rw [if_pos hc1, if_neg hc2])⟩ d_Mod_divertByte_59
    · refine lv_aload_n hx hb d_Mod_divertByte_14 rfl (lv_at hl 0 rfl) ?_
      refine lv_bipush (v := 40) hx hb d_Mod_divertByte_15 (by decide) ?_
      refine go_vS (As := [.ref (ad 0), .int 40]) (g := g) (A := A) (h := shM) hP hK hD hS hA hN (fun hp => va_runV (As := [.int 40]) (rest := []) ⟨hx, hb, hml, hown, htt⟩ (a_Mod_fail1 l g _ ad S (40 : Int32)) ⟨(cb_L htt k_2767 k_276 k_2764 hd_Mod_fail1 ⟨(by decide +kernel), (by decide +kernel)⟩), htt _ k_2766, htt _ k_138⟩ ⟨hp.1, S_recv hK hP 0 rfl rfl, hp.2⟩ rfl rfl hl.1 rfl (lv_room (Nat.le_of_ble_eq_true rfl)) d_Mod_divertByte_17 ⟨(by decide +kernel), (by decide +kernel)⟩) (fun Sn H locs hw9 hP hD hS => ?_)
      obtain rfl := hw9
      refine W.widen (k := 0) (n := 0) (by decide +kernel) (by decide +kernel) ?_
      exact fin_v (g := g) (ws := Sw shM g ad (s_Mod_fail1 S (40 : Int32))) hx hb hr hlocks (by decide +kernel) (by decide +kernel) hP hD hS ⟨_, rfl, (by unfold s_Mod_divertByte; rw [if_pos hc1, if_pos hc2])⟩ d_Mod_divertByte_20
  · exact fin_v (g := g) (ws := Sw shM g ad S) hx hb hr hlocks (by decide +kernel) (by decide +kernel) hP hD hS ⟨_, rfl, (by unfold s_Mod_divertByte; rw [if_neg hc1])⟩ d_Mod_divertByte_4
def s_Mod_putArgument (S : sS) (v1 : Int32) : sS := if (S.1 0 49) = (16384 : Int32) then ((s_Mod_fail1 S (40 : Int32))) else ((putI (putA S 19 (S.1 0 49 : Int32).toNatClampNeg (vp_nar .byte v1.toInt8.toInt32)) 0 49 ((S.1 0 49) + (1 : Int32))))
abbrev rm_a_Mod_putArgument : Room := { frames := 2, cells := 0, slots := 0, locals := 44 }
set_option maxHeartbeats 4000000 in
set_option maxRecDepth 100000 in
theorem a_Mod_putArgument (l : Launch) (g : gG) (sz : Nat) (ad : Nat → Nat) (S : sS) (v1 : Int32) (hb0 : ¬ ((S.1 0 49) = (16384 : Int32)) → vp_in (S.1 0 49) 16385) : Cv l y_Mod_putArgument b_Mod_putArgument 2 rm_a_Mod_putArgument g [.ref (ad 0), .int v1] (Sw shM g ad S) sz (fun w => ∃ S' : sS, w = Sw shM g ad S' ∧ S' = s_Mod_putArgument S v1) := by
  refine startV (by decide) (Nat.le_of_ble_eq_true rfl) ?_
  intro p e s m below meth c A ls hx hb hr hml hlocks hmn hown htt hN hA hP hK hD hS hl
  have hown : s.vm.findClass "MacroMillModel" = some m.cls := hown
  have hl : lv_has ls 2 [(0, .ref (ad 0)), (1, .int v1)] := hl
  refine lv_aload_n hx hb d_Mod_putArgument_0 rfl (lv_at hl 0 rfl) ?_
  refine S_getI (h := shM) (C := "MacroMillModel") (T := F_Mod) hx hb htt in_Mod hown hK hP 0 49 rfl rfl rfl (by decide) (htt _ k_2285) (fun _ h9 => h9) d_Mod_putArgument_1 ?_
  refine lv_sipush (v := 16384) hx hb d_Mod_putArgument_4 (by decide) ?_
  refine lv_icmp_ne (tgt := 17) hx hb d_Mod_putArgument_7 (by decide) (fun hc1 => ?_) (fun hc1 => ?_)
  · refine lv_aload_n hx hb d_Mod_putArgument_17 rfl (lv_at hl 0 rfl) ?_
    refine S_getR (h := shM) (C := "MacroMillModel") (T := F_Mod) hx hb htt in_Mod hown hK hP 0 48 rfl 20 rfl rfl (by decide) (htt _ k_2284) (fun _ h9 => h9) d_Mod_putArgument_18 ?_
    refine lv_aload_n hx hb d_Mod_putArgument_21 rfl (lv_at hl 0 rfl) ?_
    refine S_getI (h := shM) (C := "MacroMillModel") (T := F_Mod) hx hb htt in_Mod hown hK hP 0 49 rfl rfl rfl (by decide) (htt _ k_2285) (fun _ h9 => h9) d_Mod_putArgument_22 ?_
    refine lv_iload_n hx hb d_Mod_putArgument_25 rfl (lv_at hl 1 rfl) ?_
    refine lv_i2b (v := v1.toInt8.toInt32) hx hb d_Mod_putArgument_26 rfl ?_
    refine S_bast (h := shM) (i := S.1 0 49) (v := v1.toInt8.toInt32) hx hb hK hP hD hS 19 rfl (hb0 hc1) d_Mod_putArgument_27 (fun H locs hP hD hS => ?_)
    refine lv_aload_n hx hb d_Mod_putArgument_28 rfl (lv_at hl 0 rfl) ?_
    show W _ _ _ _ _ _ _ _ _ _ _ _ _ _ _ (F0 _ 29 _ _)
    refine lv_dup hx hb d_Mod_putArgument_29 rfl ?_
    refine S_getI (h := shM) (C := "MacroMillModel") (T := F_Mod) hx hb htt in_Mod hown hK hP 0 49 rfl rfl rfl (by decide) (htt _ k_2285) (fun _ h9 => h9) d_Mod_putArgument_30 ?_
    refine toI (y := S.1 0 49) rfl ?_
    refine lv_iconst (v := 1) hx hb d_Mod_putArgument_33 (by decide) ?_
    refine lv_iadd hx hb d_Mod_putArgument_34 ?_
    refine S_put (h := shM) (C := "MacroMillModel") (T := F_Mod) (v := (S.1 0 49) + (1 : Int32)) hx hb htt in_Mod t_Mod t_Mod_ok n_Mod hown hK hP hD hS 0 49 rfl rfl rfl (by decide) (htt _ k_2285) (fun _ h9 => h9) rfl rfl rfl d_Mod_putArgument_35 (fun H locs hP hD hS => ?_)
    exact fin_v (g := g) (ws := Sw shM g ad (putI (putA S 19 (S.1 0 49 : Int32).toNatClampNeg (vp_nar .byte v1.toInt8.toInt32)) 0 49 ((S.1 0 49) + (1 : Int32)))) hx hb hr hlocks (by decide +kernel) (by decide +kernel) hP hD hS ⟨_, rfl, (by unfold s_Mod_putArgument; rw [if_neg hc1])⟩ d_Mod_putArgument_38
  · refine lv_aload_n hx hb d_Mod_putArgument_10 rfl (lv_at hl 0 rfl) ?_
    refine lv_bipush (v := 40) hx hb d_Mod_putArgument_11 (by decide) ?_
    refine go_vS (As := [.ref (ad 0), .int 40]) (g := g) (A := A) (h := shM) hP hK hD hS hA hN (fun hp => va_runV (As := [.int 40]) (rest := []) ⟨hx, hb, hml, hown, htt⟩ (a_Mod_fail1 l g _ ad S (40 : Int32)) ⟨(cb_L htt k_2767 k_276 k_2764 hd_Mod_fail1 ⟨(by decide +kernel), (by decide +kernel)⟩), htt _ k_2766, htt _ k_138⟩ ⟨hp.1, S_recv hK hP 0 rfl rfl, hp.2⟩ rfl rfl hl.1 rfl (lv_room (Nat.le_of_ble_eq_true rfl)) d_Mod_putArgument_13 ⟨(by decide +kernel), (by decide +kernel)⟩) (fun Sn H locs hw9 hP hD hS => ?_)
    obtain rfl := hw9
    refine W.widen (k := 0) (n := 0) (by decide +kernel) (by decide +kernel) ?_
    exact fin_v (g := g) (ws := Sw shM g ad (s_Mod_fail1 S (40 : Int32))) hx hb hr hlocks (by decide +kernel) (by decide +kernel) hP hD hS ⟨_, rfl, (by unfold s_Mod_putArgument; rw [if_pos hc1])⟩ d_Mod_putArgument_16
def s_Mod_beginArgument (S : sS) : sS := if (S.1 0 10) = (0 : Int32) then (if (S.1 0 50) = (8192 : Int32) then (if ((s_Mod_fail1 S (40 : Int32)).1 0 10) = (0 : Int32) then ((putI (putA (s_Mod_fail1 S (40 : Int32)) 20 ((s_Mod_fail1 S (40 : Int32)).1 0 50 : Int32).toNatClampNeg ((s_Mod_fail1 S (40 : Int32)).1 0 49)) 0 50 (((s_Mod_fail1 S (40 : Int32)).1 0 50) + (1 : Int32)))) else ((s_Mod_fail1 S (40 : Int32)))) else ((putI (putA S 20 (S.1 0 50 : Int32).toNatClampNeg (S.1 0 49)) 0 50 ((S.1 0 50) + (1 : Int32))))) else S
abbrev rm_a_Mod_beginArgument : Room := { frames := 2, cells := 0, slots := 0, locals := 44 }
set_option maxHeartbeats 4000000 in
set_option maxRecDepth 100000 in
theorem a_Mod_beginArgument (l : Launch) (g : gG) (sz : Nat) (ad : Nat → Nat) (S : sS) (hb0 : (S.1 0 10) = (0 : Int32) → ¬ ((S.1 0 50) = (8192 : Int32)) → vp_in (S.1 0 50) 8300) (hb1 : (S.1 0 10) = (0 : Int32) → (S.1 0 50) = (8192 : Int32) → ((s_Mod_fail1 S (40 : Int32)).1 0 10) = (0 : Int32) → vp_in ((s_Mod_fail1 S (40 : Int32)).1 0 50) 8300) : Cv l y_Mod_beginArgument b_Mod_beginArgument 1 rm_a_Mod_beginArgument g [.ref (ad 0)] (Sw shM g ad S) sz (fun w => ∃ S' : sS, w = Sw shM g ad S' ∧ S' = s_Mod_beginArgument S) := by
  refine startV (by decide) (Nat.le_of_ble_eq_true rfl) ?_
  intro p e s m below meth c A ls hx hb hr hml hlocks hmn hown htt hN hA hP hK hD hS hl
  have hown : s.vm.findClass "MacroMillModel" = some m.cls := hown
  have hl : lv_has ls 1 [(0, .ref (ad 0))] := hl
  refine lv_aload_n hx hb d_Mod_beginArgument_0 rfl (lv_at hl 0 rfl) ?_
  refine S_getI (h := shM) (C := "MacroMillModel") (T := F_Mod) hx hb htt in_Mod hown hK hP 0 10 rfl rfl rfl (by decide) (htt _ k_2246) (fun _ h9 => h9) d_Mod_beginArgument_1 ?_
  refine lv_if_ne (tgt := 23) hx hb d_Mod_beginArgument_4 (by decide) (fun hc1 => ?_) (fun hc1 => ?_)
  · refine lv_aload_n hx hb d_Mod_beginArgument_23 rfl (lv_at hl 0 rfl) ?_
    refine S_getI (h := shM) (C := "MacroMillModel") (T := F_Mod) hx hb htt in_Mod hown hK hP 0 10 rfl rfl rfl (by decide) (htt _ k_2246) (fun _ h9 => h9) d_Mod_beginArgument_24 ?_
    refine lv_if_ne (tgt := 53) hx hb d_Mod_beginArgument_27 (by decide) (fun _ => ?_) (fun h9 => absurd h9 hc1)
    exact fin_v (g := g) (ws := Sw shM g ad S) hx hb hr hlocks (by decide +kernel) (by decide +kernel) hP hD hS ⟨_, rfl, (by unfold s_Mod_beginArgument; rw [if_neg hc1])⟩ d_Mod_beginArgument_53
  · refine lv_aload_n hx hb d_Mod_beginArgument_7 rfl (lv_at hl 0 rfl) ?_
    refine S_getI (h := shM) (C := "MacroMillModel") (T := F_Mod) hx hb htt in_Mod hown hK hP 0 50 rfl rfl rfl (by decide) (htt _ k_2286) (fun _ h9 => h9) d_Mod_beginArgument_8 ?_
    refine lv_sipush (v := 8192) hx hb d_Mod_beginArgument_11 (by decide) ?_
    refine lv_icmp_ne (tgt := 23) hx hb d_Mod_beginArgument_14 (by decide) (fun hc2 => ?_) (fun hc2 => ?_)
    · refine lv_aload_n hx hb d_Mod_beginArgument_23 rfl (lv_at hl 0 rfl) ?_
      refine S_getI (h := shM) (C := "MacroMillModel") (T := F_Mod) hx hb htt in_Mod hown hK hP 0 10 rfl rfl rfl (by decide) (htt _ k_2246) (fun _ h9 => h9) d_Mod_beginArgument_24 ?_
      refine lv_if_ne (tgt := 53) hx hb d_Mod_beginArgument_27 (by decide) (fun h9 => absurd hc1 h9) (fun _ => ?_)
      refine lv_aload_n hx hb d_Mod_beginArgument_30 rfl (lv_at hl 0 rfl) ?_
      refine S_getR (h := shM) (C := "MacroMillModel") (T := F_Mod) hx hb htt in_Mod hown hK hP 0 51 rfl 21 rfl rfl (by decide) (htt _ k_2287) (fun _ h9 => h9) d_Mod_beginArgument_31 ?_
      refine lv_aload_n hx hb d_Mod_beginArgument_34 rfl (lv_at hl 0 rfl) ?_
      refine S_getI (h := shM) (C := "MacroMillModel") (T := F_Mod) hx hb htt in_Mod hown hK hP 0 50 rfl rfl rfl (by decide) (htt _ k_2286) (fun _ h9 => h9) d_Mod_beginArgument_35 ?_
      show W _ _ _ _ _ _ _ _ _ _ _ _ _ _ _ (F0 _ 38 _ _)
      refine lv_aload_n hx hb d_Mod_beginArgument_38 rfl (lv_at hl 0 rfl) ?_
      refine S_getI (h := shM) (C := "MacroMillModel") (T := F_Mod) hx hb htt in_Mod hown hK hP 0 49 rfl rfl rfl (by decide) (htt _ k_2285) (fun _ h9 => h9) d_Mod_beginArgument_39 ?_
      refine S_iast (h := shM) (i := S.1 0 50) (v := S.1 0 49) hx hb hK hP hD hS 20 rfl (hb0 hc1 hc2) d_Mod_beginArgument_42 (fun H locs hP hD hS => ?_)
      refine lv_aload_n hx hb d_Mod_beginArgument_43 rfl (lv_at hl 0 rfl) ?_
      refine lv_dup hx hb d_Mod_beginArgument_44 rfl ?_
      refine S_getI (h := shM) (C := "MacroMillModel") (T := F_Mod) hx hb htt in_Mod hown hK hP 0 50 rfl rfl rfl (by decide) (htt _ k_2286) (fun _ h9 => h9) d_Mod_beginArgument_45 ?_
      refine toI (y := S.1 0 50) rfl ?_
      refine lv_iconst (v := 1) hx hb d_Mod_beginArgument_48 (by decide) ?_
      refine lv_iadd hx hb d_Mod_beginArgument_49 ?_
      refine S_put (h := shM) (C := "MacroMillModel") (T := F_Mod) (v := (S.1 0 50) + (1 : Int32)) hx hb htt in_Mod t_Mod t_Mod_ok n_Mod hown hK hP hD hS 0 50 rfl rfl rfl (by decide) (htt _ k_2286) (fun _ h9 => h9) rfl rfl rfl d_Mod_beginArgument_50 (fun H locs hP hD hS => ?_)
      exact fin_v (g := g) (ws := Sw shM g ad (putI (putA S 20 (S.1 0 50 : Int32).toNatClampNeg (S.1 0 49)) 0 50 ((S.1 0 50) + (1 : Int32)))) hx hb hr hlocks (by decide +kernel) (by decide +kernel) hP hD hS ⟨_, rfl, (by unfold s_Mod_beginArgument; rw [if_pos hc1, if_neg hc2])⟩ d_Mod_beginArgument_53
    · refine lv_aload_n hx hb d_Mod_beginArgument_17 rfl (lv_at hl 0 rfl) ?_
      refine lv_bipush (v := 40) hx hb d_Mod_beginArgument_18 (by decide) ?_
      refine go_vS (As := [.ref (ad 0), .int 40]) (g := g) (A := A) (h := shM) hP hK hD hS hA hN (fun hp => va_runV (As := [.int 40]) (rest := []) ⟨hx, hb, hml, hown, htt⟩ (a_Mod_fail1 l g _ ad S (40 : Int32)) ⟨(cb_L htt k_2767 k_276 k_2764 hd_Mod_fail1 ⟨(by decide +kernel), (by decide +kernel)⟩), htt _ k_2766, htt _ k_138⟩ ⟨hp.1, S_recv hK hP 0 rfl rfl, hp.2⟩ rfl rfl hl.1 rfl (lv_room (Nat.le_of_ble_eq_true rfl)) d_Mod_beginArgument_20 ⟨(by decide +kernel), (by decide +kernel)⟩) (fun Sn H locs hw9 hP hD hS => ?_)
      obtain rfl := hw9
      refine W.widen (k := 0) (n := 0) (by decide +kernel) (by decide +kernel) ?_
      refine lv_aload_n hx hb d_Mod_beginArgument_23 rfl (lv_at hl 0 rfl) ?_
      refine S_getI (h := shM) (C := "MacroMillModel") (T := F_Mod) hx hb htt in_Mod hown hK hP 0 10 rfl rfl rfl (by decide) (htt _ k_2246) (fun _ h9 => h9) d_Mod_beginArgument_24 ?_
      refine lv_if_ne (tgt := 53) hx hb d_Mod_beginArgument_27 (by decide) (fun hc3 => ?_) (fun hc3 => ?_)
      · exact fin_v (g := g) (ws := Sw shM g ad (s_Mod_fail1 S (40 : Int32))) hx hb hr hlocks (by decide +kernel) (by decide +kernel) hP hD hS ⟨_, rfl, (by unfold s_Mod_beginArgument; rw [if_pos hc1, if_pos hc2, if_neg hc3])⟩ d_Mod_beginArgument_53
      · refine lv_aload_n hx hb d_Mod_beginArgument_30 rfl (lv_at hl 0 rfl) ?_
        show W _ _ _ _ _ _ _ _ _ _ _ _ _ _ _ (F0 _ 31 _ _)
        refine S_getR (h := shM) (C := "MacroMillModel") (T := F_Mod) hx hb htt in_Mod hown hK hP 0 51 rfl 21 rfl rfl (by decide) (htt _ k_2287) (fun _ h9 => h9) d_Mod_beginArgument_31 ?_
        refine lv_aload_n hx hb d_Mod_beginArgument_34 rfl (lv_at hl 0 rfl) ?_
        refine S_getI (h := shM) (C := "MacroMillModel") (T := F_Mod) hx hb htt in_Mod hown hK hP 0 50 rfl rfl rfl (by decide) (htt _ k_2286) (fun _ h9 => h9) d_Mod_beginArgument_35 ?_
        refine lv_aload_n hx hb d_Mod_beginArgument_38 rfl (lv_at hl 0 rfl) ?_
        refine S_getI (h := shM) (C := "MacroMillModel") (T := F_Mod) hx hb htt in_Mod hown hK hP 0 49 rfl rfl rfl (by decide) (htt _ k_2285) (fun _ h9 => h9) d_Mod_beginArgument_39 ?_
        refine S_iast (h := shM) (i := (s_Mod_fail1 S (40 : Int32)).1 0 50) (v := (s_Mod_fail1 S (40 : Int32)).1 0 49) hx hb hK hP hD hS 20 rfl (hb1 hc1 hc2 hc3) d_Mod_beginArgument_42 (fun H locs hP hD hS => ?_)
        refine lv_aload_n hx hb d_Mod_beginArgument_43 rfl (lv_at hl 0 rfl) ?_
        refine lv_dup hx hb d_Mod_beginArgument_44 rfl ?_
        refine S_getI (h := shM) (C := "MacroMillModel") (T := F_Mod) hx hb htt in_Mod hown hK hP 0 50 rfl rfl rfl (by decide) (htt _ k_2286) (fun _ h9 => h9) d_Mod_beginArgument_45 ?_
        refine toI (y := (s_Mod_fail1 S (40 : Int32)).1 0 50) rfl ?_
        refine lv_iconst (v := 1) hx hb d_Mod_beginArgument_48 (by decide) ?_
        refine lv_iadd hx hb d_Mod_beginArgument_49 ?_
        refine S_put (h := shM) (C := "MacroMillModel") (T := F_Mod) (v := ((s_Mod_fail1 S (40 : Int32)).1 0 50) + (1 : Int32)) hx hb htt in_Mod t_Mod t_Mod_ok n_Mod hown hK hP hD hS 0 50 rfl rfl rfl (by decide) (htt _ k_2286) (fun _ h9 => h9) rfl rfl rfl d_Mod_beginArgument_50 (fun H locs hP hD hS => ?_)
        show W _ _ _ _ _ _ _ _ _ _ _ _ _ _ _ (F0 _ 53 _ _)
        exact fin_v (g := g) (ws := Sw shM g ad (putI (putA (s_Mod_fail1 S (40 : Int32)) 20 ((s_Mod_fail1 S (40 : Int32)).1 0 50 : Int32).toNatClampNeg ((s_Mod_fail1 S (40 : Int32)).1 0 49)) 0 50 (((s_Mod_fail1 S (40 : Int32)).1 0 50) + (1 : Int32)))) hx hb hr hlocks (by decide +kernel) (by decide +kernel) hP hD hS ⟨_, rfl, (by unfold s_Mod_beginArgument; rw [if_pos hc1, if_pos hc2, if_pos hc3])⟩ d_Mod_beginArgument_53
def r_Mod_argumentAt (S : sS) (v1 : Int32) (v2 : Int32) : Int32 := if (S.1 0 50) ≤ ((v1 + v2) - (1 : Int32)) then (S.2.1 20 (S.1 0 50 : Int32).toNatClampNeg) else (S.2.1 20 ((v1 + v2) - (1 : Int32) : Int32).toNatClampNeg)
abbrev rm_a_Mod_argumentAt : Room := { frames := 0, cells := 0, slots := 0, locals := 0 }
set_option maxHeartbeats 4000000 in
set_option maxRecDepth 100000 in
theorem a_Mod_argumentAt (l : Launch) (g : gG) (sz : Nat) (ad : Nat → Nat) (S : sS) (v1 : Int32) (v2 : Int32) (hb0 : (S.1 0 50) ≤ ((v1 + v2) - (1 : Int32)) → vp_in (S.1 0 50) 8300) (hb1 : ¬ ((S.1 0 50) ≤ ((v1 + v2) - (1 : Int32))) → vp_in ((v1 + v2) - (1 : Int32)) 8300) : Ci l y_Mod_argumentAt b_Mod_argumentAt 3 rm_a_Mod_argumentAt g [.ref (ad 0), .int v1, .int v2] (Sw shM g ad S) sz (fun r w => ∃ S' : sS, w = Sw shM g ad S' ∧ r = r_Mod_argumentAt S v1 v2 ∧ S' = S) := by
  refine startI (by decide) (Nat.le_of_ble_eq_true rfl) ?_
  intro p e s m below meth c A ls hx hb hr hml hlocks hmn hown htt hN hA hP hK hD hS hl
  have hown : s.vm.findClass "MacroMillModel" = some m.cls := hown
  have hl : lv_has ls 3 [(0, .ref (ad 0)), (1, .int v1), (2, .int v2)] := hl
  refine lv_iload_n hx hb d_Mod_argumentAt_0 rfl (lv_at hl 1 rfl) ?_
  refine lv_iload_n hx hb d_Mod_argumentAt_1 rfl (lv_at hl 2 rfl) ?_
  refine lv_iadd hx hb d_Mod_argumentAt_2 ?_
  refine lv_iconst (v := 1) hx hb d_Mod_argumentAt_3 (by decide) ?_
  refine lv_isub hx hb d_Mod_argumentAt_4 ?_
  refine lv_aload_n hx hb d_Mod_argumentAt_5 rfl (lv_at hl 0 rfl) ?_
  refine S_getI (h := shM) (C := "MacroMillModel") (T := F_Mod) hx hb htt in_Mod hown hK hP 0 50 rfl rfl rfl (by decide) (htt _ k_2286) (fun _ h9 => h9) d_Mod_argumentAt_6 ?_
  refine lv_icmp_ge (tgt := 25) hx hb d_Mod_argumentAt_9 (by decide) (fun hc1 => ?_) (fun hc1 => ?_)
  · refine lv_aload_n hx hb d_Mod_argumentAt_25 rfl (lv_at hl 0 rfl) ?_
    refine S_getR (h := shM) (C := "MacroMillModel") (T := F_Mod) hx hb htt in_Mod hown hK hP 0 51 rfl 21 rfl rfl (by decide) (htt _ k_2287) (fun _ h9 => h9) d_Mod_argumentAt_26 ?_
    refine lv_aload_n hx hb d_Mod_argumentAt_29 rfl (lv_at hl 0 rfl) ?_
    refine S_getI (h := shM) (C := "MacroMillModel") (T := F_Mod) hx hb htt in_Mod hown hK hP 0 50 rfl rfl rfl (by decide) (htt _ k_2286) (fun _ h9 => h9) d_Mod_argumentAt_30 ?_
    show W _ _ _ _ _ _ _ _ _ _ _ _ _ _ _ (F0 _ 33 _ _)
    refine S_iald (h := shM) (i := S.1 0 50) hx hb hK hP 20 rfl (hb0 hc1) d_Mod_argumentAt_33 ?_
    exact fin_i (g := g) (ws := Sw shM g ad S) (v := S.2.1 20 (S.1 0 50 : Int32).toNatClampNeg) hx hb hr hlocks (by decide +kernel) (by decide +kernel) hP hD hS ⟨_, rfl, (by unfold r_Mod_argumentAt; rw [if_pos hc1]), rfl⟩ d_Mod_argumentAt_34
  · refine lv_aload_n hx hb d_Mod_argumentAt_12 rfl (lv_at hl 0 rfl) ?_
    refine S_getR (h := shM) (C := "MacroMillModel") (T := F_Mod) hx hb htt in_Mod hown hK hP 0 51 rfl 21 rfl rfl (by decide) (htt _ k_2287) (fun _ h9 => h9) d_Mod_argumentAt_13 ?_
    refine lv_iload_n hx hb d_Mod_argumentAt_16 rfl (lv_at hl 1 rfl) ?_
    refine lv_iload_n hx hb d_Mod_argumentAt_17 rfl (lv_at hl 2 rfl) ?_
    show W _ _ _ _ _ _ _ _ _ _ _ _ _ _ _ (F0 _ 18 _ _)
    refine lv_iadd hx hb d_Mod_argumentAt_18 ?_
    refine lv_iconst (v := 1) hx hb d_Mod_argumentAt_19 (by decide) ?_
    refine lv_isub hx hb d_Mod_argumentAt_20 ?_
    refine S_iald (h := shM) (i := (v1 + v2) - (1 : Int32)) hx hb hK hP 20 rfl (hb1 hc1) d_Mod_argumentAt_21 ?_
    refine lv_goto (tgt := 34) hx hb d_Mod_argumentAt_22 (by decide) ?_
    exact fin_i (g := g) (ws := Sw shM g ad S) (v := S.2.1 20 ((v1 + v2) - (1 : Int32) : Int32).toNatClampNeg) hx hb hr hlocks (by decide +kernel) (by decide +kernel) hP hD hS ⟨_, rfl, (by unfold r_Mod_argumentAt; rw [if_neg hc1]), rfl⟩ d_Mod_argumentAt_34
def r_Mod_argumentSize (S : sS) (v1 : Int32) (v2 : Int32) : Int32 := if (S.1 0 50) ≤ ((v1 + v2) - (1 : Int32)) then 0 else ((S.2.1 20 (v1 + v2 : Int32).toNatClampNeg) - (S.2.1 20 ((v1 + v2) - (1 : Int32) : Int32).toNatClampNeg))
abbrev rm_a_Mod_argumentSize : Room := { frames := 0, cells := 0, slots := 0, locals := 0 }
set_option maxHeartbeats 4000000 in
set_option maxRecDepth 100000 in
theorem a_Mod_argumentSize (l : Launch) (g : gG) (sz : Nat) (ad : Nat → Nat) (S : sS) (v1 : Int32) (v2 : Int32) (hb0 : ¬ ((S.1 0 50) ≤ ((v1 + v2) - (1 : Int32))) → vp_in (v1 + v2) 8300) (hb1 : ¬ ((S.1 0 50) ≤ ((v1 + v2) - (1 : Int32))) → vp_in ((v1 + v2) - (1 : Int32)) 8300) : Ci l y_Mod_argumentSize b_Mod_argumentSize 3 rm_a_Mod_argumentSize g [.ref (ad 0), .int v1, .int v2] (Sw shM g ad S) sz (fun r w => ∃ S' : sS, w = Sw shM g ad S' ∧ r = r_Mod_argumentSize S v1 v2 ∧ S' = S) := by
  refine startI (by decide) (Nat.le_of_ble_eq_true rfl) ?_
  intro p e s m below meth c A ls hx hb hr hml hlocks hmn hown htt hN hA hP hK hD hS hl
  have hown : s.vm.findClass "MacroMillModel" = some m.cls := hown
  have hl : lv_has ls 3 [(0, .ref (ad 0)), (1, .int v1), (2, .int v2)] := hl
  refine lv_iload_n hx hb d_Mod_argumentSize_0 rfl (lv_at hl 1 rfl) ?_
  refine lv_iload_n hx hb d_Mod_argumentSize_1 rfl (lv_at hl 2 rfl) ?_
  refine lv_iadd hx hb d_Mod_argumentSize_2 ?_
  refine lv_iconst (v := 1) hx hb d_Mod_argumentSize_3 (by decide) ?_
  refine lv_isub hx hb d_Mod_argumentSize_4 ?_
  refine lv_aload_n hx hb d_Mod_argumentSize_5 rfl (lv_at hl 0 rfl) ?_
  refine S_getI (h := shM) (C := "MacroMillModel") (T := F_Mod) hx hb htt in_Mod hown hK hP 0 50 rfl rfl rfl (by decide) (htt _ k_2286) (fun _ h9 => h9) d_Mod_argumentSize_6 ?_
  refine lv_icmp_ge (tgt := 34) hx hb d_Mod_argumentSize_9 (by decide) (fun hc1 => ?_) (fun hc1 => ?_)
  · refine lv_iconst (v := 0) hx hb d_Mod_argumentSize_34 (by decide) ?_
    exact fin_i (g := g) (ws := Sw shM g ad S) (v := 0) hx hb hr hlocks (by decide +kernel) (by decide +kernel) hP hD hS ⟨_, rfl, (by unfold r_Mod_argumentSize; rw [if_pos hc1]), rfl⟩ d_Mod_argumentSize_35
  · refine lv_aload_n hx hb d_Mod_argumentSize_12 rfl (lv_at hl 0 rfl) ?_
    refine S_getR (h := shM) (C := "MacroMillModel") (T := F_Mod) hx hb htt in_Mod hown hK hP 0 51 rfl 21 rfl rfl (by decide) (htt _ k_2287) (fun _ h9 => h9) d_Mod_argumentSize_13 ?_
    refine lv_iload_n hx hb d_Mod_argumentSize_16 rfl (lv_at hl 1 rfl) ?_
    refine lv_iload_n hx hb d_Mod_argumentSize_17 rfl (lv_at hl 2 rfl) ?_
    show W _ _ _ _ _ _ _ _ _ _ _ _ _ _ _ (F0 _ 18 _ _)
    refine lv_iadd hx hb d_Mod_argumentSize_18 ?_
    refine S_iald (h := shM) (i := v1 + v2) hx hb hK hP 20 rfl (hb0 hc1) d_Mod_argumentSize_19 ?_
    refine lv_aload_n hx hb d_Mod_argumentSize_20 rfl (lv_at hl 0 rfl) ?_
    refine S_getR (h := shM) (C := "MacroMillModel") (T := F_Mod) hx hb htt in_Mod hown hK hP 0 51 rfl 21 rfl rfl (by decide) (htt _ k_2287) (fun _ h9 => h9) d_Mod_argumentSize_21 ?_
    refine lv_iload_n hx hb d_Mod_argumentSize_24 rfl (lv_at hl 1 rfl) ?_
    refine lv_iload_n hx hb d_Mod_argumentSize_25 rfl (lv_at hl 2 rfl) ?_
    refine lv_iadd hx hb d_Mod_argumentSize_26 ?_
    refine lv_iconst (v := 1) hx hb d_Mod_argumentSize_27 (by decide) ?_
    refine lv_isub hx hb d_Mod_argumentSize_28 ?_
    refine S_iald (h := shM) (i := (v1 + v2) - (1 : Int32)) hx hb hK hP 20 rfl (hb1 hc1) d_Mod_argumentSize_29 ?_
    refine lv_isub hx hb d_Mod_argumentSize_30 ?_
    refine lv_goto (tgt := 35) hx hb d_Mod_argumentSize_31 (by decide) ?_
    show W _ _ _ _ _ _ _ _ _ _ _ _ _ _ _ (F0 _ 35 _ _)
    exact fin_i (g := g) (ws := Sw shM g ad S) (v := (S.2.1 20 (v1 + v2 : Int32).toNatClampNeg) - (S.2.1 20 ((v1 + v2) - (1 : Int32) : Int32).toNatClampNeg)) hx hb hr hlocks (by decide +kernel) (by decide +kernel) hP hD hS ⟨_, rfl, (by unfold r_Mod_argumentSize; rw [if_neg hc1]), rfl⟩ d_Mod_argumentSize_35
def r_Mod_sign (S : sS) (v1 : Int32) : Int32 := if (S.1 0 53) ≤ ((S.1 0 52) + v1) then ((-1)) else ((S.2.1 19 ((S.1 0 52) + v1 : Int32).toNatClampNeg) &&& (255 : Int32))
abbrev rm_a_Mod_sign : Room := { frames := 0, cells := 0, slots := 0, locals := 0 }
set_option maxHeartbeats 4000000 in
set_option maxRecDepth 100000 in
theorem a_Mod_sign (l : Launch) (g : gG) (sz : Nat) (ad : Nat → Nat) (S : sS) (v1 : Int32) (hb0 : ¬ ((S.1 0 53) ≤ ((S.1 0 52) + v1)) → vp_in ((S.1 0 52) + v1) 16385) : Ci l y_Mod_sign b_Mod_sign 2 rm_a_Mod_sign g [.ref (ad 0), .int v1] (Sw shM g ad S) sz (fun r w => ∃ S' : sS, w = Sw shM g ad S' ∧ r = r_Mod_sign S v1 ∧ S' = S) := by
  refine startI (by decide) (Nat.le_of_ble_eq_true rfl) ?_
  intro p e s m below meth c A ls hx hb hr hml hlocks hmn hown htt hN hA hP hK hD hS hl
  have hown : s.vm.findClass "MacroMillModel" = some m.cls := hown
  have hl : lv_has ls 2 [(0, .ref (ad 0)), (1, .int v1)] := hl
  refine lv_aload_n hx hb d_Mod_sign_0 rfl (lv_at hl 0 rfl) ?_
  refine S_getI (h := shM) (C := "MacroMillModel") (T := F_Mod) hx hb htt in_Mod hown hK hP 0 52 rfl rfl rfl (by decide) (htt _ k_2288) (fun _ h9 => h9) d_Mod_sign_1 ?_
  refine lv_iload_n hx hb d_Mod_sign_4 rfl (lv_at hl 1 rfl) ?_
  refine lv_iadd hx hb d_Mod_sign_5 ?_
  refine lv_aload_n hx hb d_Mod_sign_6 rfl (lv_at hl 0 rfl) ?_
  refine S_getI (h := shM) (C := "MacroMillModel") (T := F_Mod) hx hb htt in_Mod hown hK hP 0 53 rfl rfl rfl (by decide) (htt _ k_2289) (fun _ h9 => h9) d_Mod_sign_7 ?_
  refine lv_icmp_ge (tgt := 31) hx hb d_Mod_sign_10 (by decide) (fun hc1 => ?_) (fun hc1 => ?_)
  · refine lv_iconst (v := (-1)) hx hb d_Mod_sign_31 (by decide) ?_
    exact fin_i (g := g) (ws := Sw shM g ad S) (v := (-1)) hx hb hr hlocks (by decide +kernel) (by decide +kernel) hP hD hS ⟨_, rfl, (by unfold r_Mod_sign; rw [if_pos hc1]), rfl⟩ d_Mod_sign_32
  · refine lv_aload_n hx hb d_Mod_sign_13 rfl (lv_at hl 0 rfl) ?_
    refine S_getR (h := shM) (C := "MacroMillModel") (T := F_Mod) hx hb htt in_Mod hown hK hP 0 48 rfl 20 rfl rfl (by decide) (htt _ k_2284) (fun _ h9 => h9) d_Mod_sign_14 ?_
    refine lv_aload_n hx hb d_Mod_sign_17 rfl (lv_at hl 0 rfl) ?_
    refine S_getI (h := shM) (C := "MacroMillModel") (T := F_Mod) hx hb htt in_Mod hown hK hP 0 52 rfl rfl rfl (by decide) (htt _ k_2288) (fun _ h9 => h9) d_Mod_sign_18 ?_
    refine lv_iload_n hx hb d_Mod_sign_21 rfl (lv_at hl 1 rfl) ?_
    show W _ _ _ _ _ _ _ _ _ _ _ _ _ _ _ (F0 _ 22 _ _)
    refine lv_iadd hx hb d_Mod_sign_22 ?_
    refine S_bald (h := shM) (i := (S.1 0 52) + v1) hx hb hK hP 19 rfl (hb0 hc1) d_Mod_sign_23 ?_
    refine lv_sipush (v := 255) hx hb d_Mod_sign_24 (by decide) ?_
    refine lv_iand hx hb d_Mod_sign_27 ?_
    refine lv_goto (tgt := 32) hx hb d_Mod_sign_28 (by decide) ?_
    exact fin_i (g := g) (ws := Sw shM g ad S) (v := (S.2.1 19 ((S.1 0 52) + v1 : Int32).toNatClampNeg) &&& (255 : Int32)) hx hb hr hlocks (by decide +kernel) (by decide +kernel) hP hD hS ⟨_, rfl, (by unfold r_Mod_sign; rw [if_neg hc1]), rfl⟩ d_Mod_sign_32
def r_Mod_operator (S : sS) : Int32 := if (r_Mod_sign S (0 : Int32)) = (124 : Int32) then (if (r_Mod_sign S (1 : Int32)) = (124 : Int32) then 11 else 31) else (if (r_Mod_sign S (0 : Int32)) = (38 : Int32) then (if (r_Mod_sign S (1 : Int32)) = (38 : Int32) then 21 else 51) else (if (r_Mod_sign S (0 : Int32)) = (94 : Int32) then 41 else (if (r_Mod_sign S (0 : Int32)) = (61 : Int32) then (if (r_Mod_sign S (1 : Int32)) = (61 : Int32) then 61 else 0) else (if (r_Mod_sign S (0 : Int32)) = (33 : Int32) then (if (r_Mod_sign S (1 : Int32)) = (61 : Int32) then 62 else 0) else (if (r_Mod_sign S (0 : Int32)) = (60 : Int32) then (if (r_Mod_sign S (1 : Int32)) = (60 : Int32) then 81 else (if (r_Mod_sign S (1 : Int32)) = (61 : Int32) then 73 else 71)) else (if (r_Mod_sign S (0 : Int32)) = (62 : Int32) then (if (r_Mod_sign S (1 : Int32)) = (62 : Int32) then 82 else (if (r_Mod_sign S (1 : Int32)) = (61 : Int32) then 74 else 72)) else (if (r_Mod_sign S (0 : Int32)) = (43 : Int32) then 91 else (if (r_Mod_sign S (0 : Int32)) = (45 : Int32) then 92 else (if (r_Mod_sign S (0 : Int32)) = (42 : Int32) then 101 else (if (r_Mod_sign S (0 : Int32)) = (47 : Int32) then 102 else (if (r_Mod_sign S (0 : Int32)) = (37 : Int32) then 103 else 0)))))))))))
abbrev rm_a_Mod_operator : Room := { frames := 1, cells := 0, slots := 0, locals := 21 }
set_option maxHeartbeats 4000000 in
set_option maxRecDepth 100000 in
theorem a_Mod_operator (l : Launch) (g : gG) (sz : Nat) (ad : Nat → Nat) (S : sS) (hb0 : ¬ ((S.1 0 53) ≤ ((S.1 0 52) + (0 : Int32))) → vp_in ((S.1 0 52) + (0 : Int32)) 16385) (hb1 : ¬ ((S.1 0 53) ≤ ((S.1 0 52) + (1 : Int32))) → vp_in ((S.1 0 52) + (1 : Int32)) 16385) : Ci l y_Mod_operator b_Mod_operator 3 rm_a_Mod_operator g [.ref (ad 0)] (Sw shM g ad S) sz (fun r w => ∃ S' : sS, w = Sw shM g ad S' ∧ r = r_Mod_operator S ∧ S' = S) := by
  refine startI (by decide) (Nat.le_of_ble_eq_true rfl) ?_
  intro p e s m below meth c A ls hx hb hr hml hlocks hmn hown htt hN hA hP hK hD hS hl
  have hown : s.vm.findClass "MacroMillModel" = some m.cls := hown
  have hl : lv_has ls 3 [(0, .ref (ad 0))] := hl
  refine lv_aload_n hx hb d_Mod_operator_0 rfl (lv_at hl 0 rfl) ?_
  refine lv_iconst (v := 0) hx hb d_Mod_operator_1 (by decide) ?_
  refine go_iS (As := [.ref (ad 0), .int 0]) (g := g) (A := A) (h := shM) hP hK hD hS hA hN (fun hp => va_runV (As := [.int 0]) (rest := []) ⟨hx, hb, hml, hown, htt⟩ (a_Mod_sign l g _ ad S (0 : Int32) hb0) ⟨(cb_L htt k_2895 k_276 k_2892 hd_Mod_sign ⟨(by decide +kernel), (by decide +kernel)⟩), htt _ k_2894, htt _ k_167⟩ ⟨hp.1, S_recv hK hP 0 rfl rfl, hp.2⟩ rfl rfl hl.1 rfl (lv_room (Nat.le_of_ble_eq_true rfl)) d_Mod_operator_2 ⟨(by decide +kernel), (by decide +kernel)⟩) (fun r9 Sn H locs hw9 hP hD hS => ?_)
  obtain ⟨rfl, e9⟩ := hw9
  rw [e9] at hP hD
  refine W.widen (k := 0) (n := 0) (by decide +kernel) (by decide +kernel) ?_
  refine lv_istore_n (lv' := [(1, .int (r_Mod_sign S (0 : Int32))), (0, .ref (ad 0))]) hx hb d_Mod_operator_5 rfl hl (by decide) rfl (fun ls hl => ?_)
  refine lv_aload_n hx hb d_Mod_operator_6 rfl (lv_at hl 1 rfl) ?_
  refine lv_iconst (v := 1) hx hb d_Mod_operator_7 (by decide) ?_
  refine go_iS (As := [.ref (ad 0), .int 1]) (g := g) (A := A) (h := shM) hP hK hD hS hA hN (fun hp => va_runV (As := [.int 1]) (rest := []) ⟨hx, hb, hml, hown, htt⟩ (a_Mod_sign l g _ ad S (1 : Int32) hb1) ⟨(cb_L htt k_2895 k_276 k_2892 hd_Mod_sign ⟨(by decide +kernel), (by decide +kernel)⟩), htt _ k_2894, htt _ k_167⟩ ⟨hp.1, S_recv hK hP 0 rfl rfl, hp.2⟩ rfl rfl hl.1 rfl (lv_room (Nat.le_of_ble_eq_true rfl)) d_Mod_operator_8 ⟨(by decide +kernel), (by decide +kernel)⟩) (fun r9 Sn_2 H locs hw9 hP hD hS => ?_)
  obtain ⟨rfl, e9⟩ := hw9
  rw [e9] at hP hD
  refine W.widen (k := 0) (n := 0) (by decide +kernel) (by decide +kernel) ?_
  refine lv_istore_n (lv' := [(2, .int (r_Mod_sign S (1 : Int32))), (1, .int (r_Mod_sign S (0 : Int32))), (0, .ref (ad 0))]) hx hb d_Mod_operator_11 rfl hl (by decide) rfl (fun ls hl => ?_)
  refine lv_iload_n hx hb d_Mod_operator_12 rfl (lv_at hl 1 rfl) ?_
  refine lv_bipush (v := 124) hx hb d_Mod_operator_13 (by decide) ?_
  refine lv_icmp_ne (tgt := 32) hx hb d_Mod_operator_15 (by decide) (fun hc1 => ?_) (fun hc1 => ?_)
  · refine lv_iload_n hx hb d_Mod_operator_32 rfl (lv_at hl 1 rfl) ?_
    show W _ _ _ _ _ _ _ _ _ _ _ _ _ _ _ (F0 _ 33 _ _)
    refine lv_bipush (v := 38) hx hb d_Mod_operator_33 (by decide) ?_
    refine lv_icmp_ne (tgt := 52) hx hb d_Mod_operator_35 (by decide) (fun hc2 => ?_) (fun hc2 => ?_)
    · refine lv_iload_n hx hb d_Mod_operator_52 rfl (lv_at hl 1 rfl) ?_
      refine lv_bipush (v := 94) hx hb d_Mod_operator_53 (by decide) ?_
      refine lv_icmp_ne (tgt := 61) hx hb d_Mod_operator_55 (by decide) (fun hc3 => ?_) (fun hc3 => ?_)
      · refine lv_iload_n hx hb d_Mod_operator_61 rfl (lv_at hl 1 rfl) ?_
        refine lv_bipush (v := 61) hx hb d_Mod_operator_62 (by decide) ?_
        refine lv_icmp_eq (tgt := 73) hx hb d_Mod_operator_64 (by decide) (fun hc4 => ?_) (fun hc4 => ?_)
        · refine lv_iload_n hx hb d_Mod_operator_73 rfl (lv_at hl 0 rfl) ?_
          refine lv_bipush (v := 61) hx hb d_Mod_operator_74 (by decide) ?_
          refine lv_icmp_eq (tgt := 83) hx hb d_Mod_operator_76 (by decide) (fun hc5 => ?_) (fun hc5 => ?_)
          · refine lv_iload_n hx hb d_Mod_operator_83 rfl (lv_at hl 1 rfl) ?_
            refine lv_bipush (v := 61) hx hb d_Mod_operator_84 (by decide) ?_
            refine lv_icmp_ne (tgt := 94) hx hb d_Mod_operator_86 (by decide) (fun h9 => absurd hc4 h9) (fun _ => ?_)
            refine lv_bipush (v := 61) hx hb d_Mod_operator_89 (by decide) ?_
            refine lv_goto (tgt := 96) hx hb d_Mod_operator_91 (by decide) ?_
            exact fin_i (g := g) (ws := Sw shM g ad S) (v := 61) hx hb hr hlocks (by decide +kernel) (by decide +kernel) hP hD hS ⟨_, rfl, (by unfold r_Mod_operator; rw [if_neg hc1, if_neg hc2, if_neg hc3, if_pos hc4, if_pos hc5]), rfl⟩ d_Mod_operator_96
          · refine lv_iconst (v := 0) hx hb d_Mod_operator_79 (by decide) ?_
            refine lv_goto (tgt := 96) hx hb d_Mod_operator_80 (by decide) ?_
            exact fin_i (g := g) (ws := Sw shM g ad S) (v := 0) hx hb hr hlocks (by decide +kernel) (by decide +kernel) hP hD hS ⟨_, rfl, (by unfold r_Mod_operator; rw [if_neg hc1, if_neg hc2, if_neg hc3, if_pos hc4, if_neg hc5]), rfl⟩ d_Mod_operator_96
        · refine lv_iload_n hx hb d_Mod_operator_67 rfl (lv_at hl 1 rfl) ?_
          refine lv_bipush (v := 33) hx hb d_Mod_operator_68 (by decide) ?_
          refine lv_icmp_ne (tgt := 97) hx hb d_Mod_operator_70 (by decide) (fun hc6 => ?_) (fun hc6 => ?_)
          · refine lv_iload_n hx hb d_Mod_operator_97 rfl (lv_at hl 1 rfl) ?_
            refine lv_bipush (v := 60) hx hb d_Mod_operator_98 (by decide) ?_
            refine lv_icmp_ne (tgt := 128) hx hb d_Mod_operator_100 (by decide) (fun hc7 => ?_) (fun hc7 => ?_)
            · refine lv_iload_n hx hb d_Mod_operator_128 rfl (lv_at hl 1 rfl) ?_
              refine lv_bipush (v := 62) hx hb d_Mod_operator_129 (by decide) ?_
              refine lv_icmp_ne (tgt := 159) hx hb d_Mod_operator_131 (by decide) (fun hc8 => ?_) (fun hc8 => ?_)
              · refine lv_iload_n hx hb d_Mod_operator_159 rfl (lv_at hl 1 rfl) ?_
                show W _ _ _ _ _ _ _ _ _ _ _ _ _ _ _ (F0 _ 160 _ _)
                refine lv_bipush (v := 43) hx hb d_Mod_operator_160 (by decide) ?_
                refine lv_icmp_ne (tgt := 170) hx hb d_Mod_operator_162 (by decide) (fun hc9 => ?_) (fun hc9 => ?_)
                · refine lv_iload_n hx hb d_Mod_operator_170 rfl (lv_at hl 1 rfl) ?_
                  refine lv_bipush (v := 45) hx hb d_Mod_operator_171 (by decide) ?_
                  refine lv_icmp_ne (tgt := 181) hx hb d_Mod_operator_173 (by decide) (fun hc10 => ?_) (fun hc10 => ?_)
                  · refine lv_iload_n hx hb d_Mod_operator_181 rfl (lv_at hl 1 rfl) ?_
                    refine lv_bipush (v := 42) hx hb d_Mod_operator_182 (by decide) ?_
                    refine lv_icmp_ne (tgt := 192) hx hb d_Mod_operator_184 (by decide) (fun hc11 => ?_) (fun hc11 => ?_)
                    · refine lv_iload_n hx hb d_Mod_operator_192 rfl (lv_at hl 1 rfl) ?_
                      refine lv_bipush (v := 47) hx hb d_Mod_operator_193 (by decide) ?_
                      refine lv_icmp_ne (tgt := 203) hx hb d_Mod_operator_195 (by decide) (fun hc12 => ?_) (fun hc12 => ?_)
                      · refine lv_iload_n hx hb d_Mod_operator_203 rfl (lv_at hl 1 rfl) ?_
                        refine lv_bipush (v := 37) hx hb d_Mod_operator_204 (by decide) ?_
                        refine lv_icmp_ne (tgt := 214) hx hb d_Mod_operator_206 (by decide) (fun hc13 => ?_) (fun hc13 => ?_)
                        · refine lv_iconst (v := 0) hx hb d_Mod_operator_214 (by decide) ?_
                          exact fin_i (g := g) (ws := Sw shM g ad S) (v := 0) hx hb hr hlocks (by decide +kernel) (by decide +kernel) hP hD hS ⟨_, rfl, (by unfold r_Mod_operator; rw [if_neg hc1, if_neg hc2, if_neg hc3, if_neg hc4, if_neg hc6, if_neg hc7, if_neg hc8, if_neg hc9, if_neg hc10, if_neg hc11, if_neg hc12, if_neg hc13]), rfl⟩ d_Mod_operator_215
                        · refine lv_bipush (v := 103) hx hb d_Mod_operator_209 (by decide) ?_
                          refine lv_goto (tgt := 215) hx hb d_Mod_operator_211 (by decide) ?_
                          exact fin_i (g := g) (ws := Sw shM g ad S) (v := 103) hx hb hr hlocks (by decide +kernel) (by decide +kernel) hP hD hS ⟨_, rfl, (by unfold r_Mod_operator; rw [if_neg hc1, if_neg hc2, if_neg hc3, if_neg hc4, if_neg hc6, if_neg hc7, if_neg hc8, if_neg hc9, if_neg hc10, if_neg hc11, if_neg hc12, if_pos hc13]), rfl⟩ d_Mod_operator_215
                      · refine lv_bipush (v := 102) hx hb d_Mod_operator_198 (by decide) ?_
                        refine lv_goto (tgt := 215) hx hb d_Mod_operator_200 (by decide) ?_
                        exact fin_i (g := g) (ws := Sw shM g ad S) (v := 102) hx hb hr hlocks (by decide +kernel) (by decide +kernel) hP hD hS ⟨_, rfl, (by unfold r_Mod_operator; rw [if_neg hc1, if_neg hc2, if_neg hc3, if_neg hc4, if_neg hc6, if_neg hc7, if_neg hc8, if_neg hc9, if_neg hc10, if_neg hc11, if_pos hc12]), rfl⟩ d_Mod_operator_215
                    · refine lv_bipush (v := 101) hx hb d_Mod_operator_187 (by decide) ?_
                      refine lv_goto (tgt := 215) hx hb d_Mod_operator_189 (by decide) ?_
                      exact fin_i (g := g) (ws := Sw shM g ad S) (v := 101) hx hb hr hlocks (by decide +kernel) (by decide +kernel) hP hD hS ⟨_, rfl, (by unfold r_Mod_operator; rw [if_neg hc1, if_neg hc2, if_neg hc3, if_neg hc4, if_neg hc6, if_neg hc7, if_neg hc8, if_neg hc9, if_neg hc10, if_pos hc11]), rfl⟩ d_Mod_operator_215
                  · refine lv_bipush (v := 92) hx hb d_Mod_operator_176 (by decide) ?_
                    refine lv_goto (tgt := 215) hx hb d_Mod_operator_178 (by decide) ?_
                    exact fin_i (g := g) (ws := Sw shM g ad S) (v := 92) hx hb hr hlocks (by decide +kernel) (by decide +kernel) hP hD hS ⟨_, rfl, (by unfold r_Mod_operator; rw [if_neg hc1, if_neg hc2, if_neg hc3, if_neg hc4, if_neg hc6, if_neg hc7, if_neg hc8, if_neg hc9, if_pos hc10]), rfl⟩ d_Mod_operator_215
                · refine lv_bipush (v := 91) hx hb d_Mod_operator_165 (by decide) ?_
                  refine lv_goto (tgt := 215) hx hb d_Mod_operator_167 (by decide) ?_
                  exact fin_i (g := g) (ws := Sw shM g ad S) (v := 91) hx hb hr hlocks (by decide +kernel) (by decide +kernel) hP hD hS ⟨_, rfl, (by unfold r_Mod_operator; rw [if_neg hc1, if_neg hc2, if_neg hc3, if_neg hc4, if_neg hc6, if_neg hc7, if_neg hc8, if_pos hc9]), rfl⟩ d_Mod_operator_215
              · refine lv_iload_n hx hb d_Mod_operator_134 rfl (lv_at hl 0 rfl) ?_
                show W _ _ _ _ _ _ _ _ _ _ _ _ _ _ _ (F0 _ 135 _ _)
                refine lv_bipush (v := 62) hx hb d_Mod_operator_135 (by decide) ?_
                refine lv_icmp_ne (tgt := 145) hx hb d_Mod_operator_137 (by decide) (fun hc14 => ?_) (fun hc14 => ?_)
                · refine lv_iload_n hx hb d_Mod_operator_145 rfl (lv_at hl 0 rfl) ?_
                  refine lv_bipush (v := 61) hx hb d_Mod_operator_146 (by decide) ?_
                  refine lv_icmp_ne (tgt := 156) hx hb d_Mod_operator_148 (by decide) (fun hc15 => ?_) (fun hc15 => ?_)
                  · refine lv_bipush (v := 72) hx hb d_Mod_operator_156 (by decide) ?_
                    exact fin_i (g := g) (ws := Sw shM g ad S) (v := 72) hx hb hr hlocks (by decide +kernel) (by decide +kernel) hP hD hS ⟨_, rfl, (by unfold r_Mod_operator; rw [if_neg hc1, if_neg hc2, if_neg hc3, if_neg hc4, if_neg hc6, if_neg hc7, if_pos hc8, if_neg hc14, if_neg hc15]), rfl⟩ d_Mod_operator_158
                  · refine lv_bipush (v := 74) hx hb d_Mod_operator_151 (by decide) ?_
                    refine lv_goto (tgt := 158) hx hb d_Mod_operator_153 (by decide) ?_
                    exact fin_i (g := g) (ws := Sw shM g ad S) (v := 74) hx hb hr hlocks (by decide +kernel) (by decide +kernel) hP hD hS ⟨_, rfl, (by unfold r_Mod_operator; rw [if_neg hc1, if_neg hc2, if_neg hc3, if_neg hc4, if_neg hc6, if_neg hc7, if_pos hc8, if_neg hc14, if_pos hc15]), rfl⟩ d_Mod_operator_158
                · refine lv_bipush (v := 82) hx hb d_Mod_operator_140 (by decide) ?_
                  refine lv_goto (tgt := 158) hx hb d_Mod_operator_142 (by decide) ?_
                  exact fin_i (g := g) (ws := Sw shM g ad S) (v := 82) hx hb hr hlocks (by decide +kernel) (by decide +kernel) hP hD hS ⟨_, rfl, (by unfold r_Mod_operator; rw [if_neg hc1, if_neg hc2, if_neg hc3, if_neg hc4, if_neg hc6, if_neg hc7, if_pos hc8, if_pos hc14]), rfl⟩ d_Mod_operator_158
            · refine lv_iload_n hx hb d_Mod_operator_103 rfl (lv_at hl 0 rfl) ?_
              refine lv_bipush (v := 60) hx hb d_Mod_operator_104 (by decide) ?_
              refine lv_icmp_ne (tgt := 114) hx hb d_Mod_operator_106 (by decide) (fun hc16 => ?_) (fun hc16 => ?_)
              · refine lv_iload_n hx hb d_Mod_operator_114 rfl (lv_at hl 0 rfl) ?_
                show W _ _ _ _ _ _ _ _ _ _ _ _ _ _ _ (F0 _ 115 _ _)
                refine lv_bipush (v := 61) hx hb d_Mod_operator_115 (by decide) ?_
                refine lv_icmp_ne (tgt := 125) hx hb d_Mod_operator_117 (by decide) (fun hc17 => ?_) (fun hc17 => ?_)
                · refine lv_bipush (v := 71) hx hb d_Mod_operator_125 (by decide) ?_
                  exact fin_i (g := g) (ws := Sw shM g ad S) (v := 71) hx hb hr hlocks (by decide +kernel) (by decide +kernel) hP hD hS ⟨_, rfl, (by unfold r_Mod_operator; rw [if_neg hc1, if_neg hc2, if_neg hc3, if_neg hc4, if_neg hc6, if_pos hc7, if_neg hc16, if_neg hc17]), rfl⟩ d_Mod_operator_127
                · refine lv_bipush (v := 73) hx hb d_Mod_operator_120 (by decide) ?_
                  refine lv_goto (tgt := 127) hx hb d_Mod_operator_122 (by decide) ?_
                  exact fin_i (g := g) (ws := Sw shM g ad S) (v := 73) hx hb hr hlocks (by decide +kernel) (by decide +kernel) hP hD hS ⟨_, rfl, (by unfold r_Mod_operator; rw [if_neg hc1, if_neg hc2, if_neg hc3, if_neg hc4, if_neg hc6, if_pos hc7, if_neg hc16, if_pos hc17]), rfl⟩ d_Mod_operator_127
              · refine lv_bipush (v := 81) hx hb d_Mod_operator_109 (by decide) ?_
                show W _ _ _ _ _ _ _ _ _ _ _ _ _ _ _ (F0 _ 111 _ _)
                refine lv_goto (tgt := 127) hx hb d_Mod_operator_111 (by decide) ?_
                exact fin_i (g := g) (ws := Sw shM g ad S) (v := 81) hx hb hr hlocks (by decide +kernel) (by decide +kernel) hP hD hS ⟨_, rfl, (by unfold r_Mod_operator; rw [if_neg hc1, if_neg hc2, if_neg hc3, if_neg hc4, if_neg hc6, if_pos hc7, if_pos hc16]), rfl⟩ d_Mod_operator_127
          · refine lv_iload_n hx hb d_Mod_operator_73 rfl (lv_at hl 0 rfl) ?_
            refine lv_bipush (v := 61) hx hb d_Mod_operator_74 (by decide) ?_
            refine lv_icmp_eq (tgt := 83) hx hb d_Mod_operator_76 (by decide) (fun hc18 => ?_) (fun hc18 => ?_)
            · refine lv_iload_n hx hb d_Mod_operator_83 rfl (lv_at hl 1 rfl) ?_
              refine lv_bipush (v := 61) hx hb d_Mod_operator_84 (by decide) ?_
              refine lv_icmp_ne (tgt := 94) hx hb d_Mod_operator_86 (by decide) (fun _ => ?_) (fun h9 => absurd h9 hc4)
              refine lv_bipush (v := 62) hx hb d_Mod_operator_94 (by decide) ?_
              show W _ _ _ _ _ _ _ _ _ _ _ _ _ _ _ (F0 _ 96 _ _)
              exact fin_i (g := g) (ws := Sw shM g ad S) (v := 62) hx hb hr hlocks (by decide +kernel) (by decide +kernel) hP hD hS ⟨_, rfl, (by unfold r_Mod_operator; rw [if_neg hc1, if_neg hc2, if_neg hc3, if_neg hc4, if_pos hc6, if_pos hc18]), rfl⟩ d_Mod_operator_96
            · refine lv_iconst (v := 0) hx hb d_Mod_operator_79 (by decide) ?_
              refine lv_goto (tgt := 96) hx hb d_Mod_operator_80 (by decide) ?_
              exact fin_i (g := g) (ws := Sw shM g ad S) (v := 0) hx hb hr hlocks (by decide +kernel) (by decide +kernel) hP hD hS ⟨_, rfl, (by unfold r_Mod_operator; rw [if_neg hc1, if_neg hc2, if_neg hc3, if_neg hc4, if_pos hc6, if_neg hc18]), rfl⟩ d_Mod_operator_96
      · refine lv_bipush (v := 41) hx hb d_Mod_operator_58 (by decide) ?_
        exact fin_i (g := g) (ws := Sw shM g ad S) (v := 41) hx hb hr hlocks (by decide +kernel) (by decide +kernel) hP hD hS ⟨_, rfl, (by unfold r_Mod_operator; rw [if_neg hc1, if_neg hc2, if_pos hc3]), rfl⟩ d_Mod_operator_60
    · refine lv_iload_n hx hb d_Mod_operator_38 rfl (lv_at hl 0 rfl) ?_
      refine lv_bipush (v := 38) hx hb d_Mod_operator_39 (by decide) ?_
      refine lv_icmp_ne (tgt := 49) hx hb d_Mod_operator_41 (by decide) (fun hc19 => ?_) (fun hc19 => ?_)
      · refine lv_bipush (v := 51) hx hb d_Mod_operator_49 (by decide) ?_
        exact fin_i (g := g) (ws := Sw shM g ad S) (v := 51) hx hb hr hlocks (by decide +kernel) (by decide +kernel) hP hD hS ⟨_, rfl, (by unfold r_Mod_operator; rw [if_neg hc1, if_pos hc2, if_neg hc19]), rfl⟩ d_Mod_operator_51
      · refine lv_bipush (v := 21) hx hb d_Mod_operator_44 (by decide) ?_
        refine lv_goto (tgt := 51) hx hb d_Mod_operator_46 (by decide) ?_
        exact fin_i (g := g) (ws := Sw shM g ad S) (v := 21) hx hb hr hlocks (by decide +kernel) (by decide +kernel) hP hD hS ⟨_, rfl, (by unfold r_Mod_operator; rw [if_neg hc1, if_pos hc2, if_pos hc19]), rfl⟩ d_Mod_operator_51
  · refine lv_iload_n hx hb d_Mod_operator_18 rfl (lv_at hl 0 rfl) ?_
    show W _ _ _ _ _ _ _ _ _ _ _ _ _ _ _ (F0 _ 19 _ _)
    refine lv_bipush (v := 124) hx hb d_Mod_operator_19 (by decide) ?_
    refine lv_icmp_ne (tgt := 29) hx hb d_Mod_operator_21 (by decide) (fun hc20 => ?_) (fun hc20 => ?_)
    · refine lv_bipush (v := 31) hx hb d_Mod_operator_29 (by decide) ?_
      exact fin_i (g := g) (ws := Sw shM g ad S) (v := 31) hx hb hr hlocks (by decide +kernel) (by decide +kernel) hP hD hS ⟨_, rfl, (by unfold r_Mod_operator; rw [if_pos hc1, if_neg hc20]), rfl⟩ d_Mod_operator_31
    · refine lv_bipush (v := 11) hx hb d_Mod_operator_24 (by decide) ?_
      refine lv_goto (tgt := 31) hx hb d_Mod_operator_26 (by decide) ?_
      exact fin_i (g := g) (ws := Sw shM g ad S) (v := 11) hx hb hr hlocks (by decide +kernel) (by decide +kernel) hP hD hS ⟨_, rfl, (by unfold r_Mod_operator; rw [if_pos hc1, if_pos hc20]), rfl⟩ d_Mod_operator_31
def r_Mod_isLong (S : sS) (v1 : Int32) : Int32 := if v1 = (11 : Int32) then 1 else (if v1 = (21 : Int32) then 1 else (if v1 = (61 : Int32) then 1 else (if v1 = (62 : Int32) then 1 else (if v1 = (73 : Int32) then 1 else (if v1 = (74 : Int32) then 1 else (if v1 = (81 : Int32) then 1 else (if v1 = (82 : Int32) then 1 else 0)))))))
abbrev rm_a_Mod_isLong : Room := { frames := 0, cells := 0, slots := 0, locals := 0 }
set_option maxHeartbeats 4000000 in
set_option maxRecDepth 100000 in
theorem a_Mod_isLong (l : Launch) (g : gG) (sz : Nat) (ad : Nat → Nat) (S : sS) (v1 : Int32) : Cz l y_Mod_isLong b_Mod_isLong 1 rm_a_Mod_isLong g [.int v1] (Sw shM g ad S) sz (fun r w => ∃ S' : sS, w = Sw shM g ad S' ∧ r = r_Mod_isLong S v1 ∧ S' = S) := by
  refine startZ (by decide) (Nat.le_of_ble_eq_true rfl) ?_
  intro p e s m below meth c A ls hx hb hr hml hlocks hmn hown htt hN hA hP hK hD hS hl
  have hown : s.vm.findClass "MacroMillModel" = some m.cls := hown
  have hl : lv_has ls 1 [(0, .int v1)] := hl
  refine lv_iload_n hx hb d_Mod_isLong_0 rfl (lv_at hl 0 rfl) ?_
  refine lv_bipush (v := 11) hx hb d_Mod_isLong_1 (by decide) ?_
  refine lv_icmp_eq (tgt := 48) hx hb d_Mod_isLong_3 (by decide) (fun hc1 => ?_) (fun hc1 => ?_)
  · refine lv_iconst (v := 1) hx hb d_Mod_isLong_48 (by decide) ?_
    refine lv_goto (tgt := 53) hx hb d_Mod_isLong_49 (by decide) ?_
    exact fin_z (g := g) (ws := Sw shM g ad S) (v := 1) hx hb hr hlocks rfl (by decide +kernel) (by decide +kernel) hP hD hS ⟨_, rfl, (by unfold r_Mod_isLong; rw [if_pos hc1]), rfl⟩ d_Mod_isLong_53
  · refine lv_iload_n hx hb d_Mod_isLong_6 rfl (lv_at hl 0 rfl) ?_
    refine lv_bipush (v := 21) hx hb d_Mod_isLong_7 (by decide) ?_
    refine lv_icmp_eq (tgt := 48) hx hb d_Mod_isLong_9 (by decide) (fun hc2 => ?_) (fun hc2 => ?_)
    · refine lv_iconst (v := 1) hx hb d_Mod_isLong_48 (by decide) ?_
      refine lv_goto (tgt := 53) hx hb d_Mod_isLong_49 (by decide) ?_
      exact fin_z (g := g) (ws := Sw shM g ad S) (v := 1) hx hb hr hlocks rfl (by decide +kernel) (by decide +kernel) hP hD hS ⟨_, rfl, (by unfold r_Mod_isLong; rw [if_neg hc1, if_pos hc2]), rfl⟩ d_Mod_isLong_53
    · refine lv_iload_n hx hb d_Mod_isLong_12 rfl (lv_at hl 0 rfl) ?_
      refine lv_bipush (v := 61) hx hb d_Mod_isLong_13 (by decide) ?_
      refine lv_icmp_eq (tgt := 48) hx hb d_Mod_isLong_15 (by decide) (fun hc3 => ?_) (fun hc3 => ?_)
      · refine lv_iconst (v := 1) hx hb d_Mod_isLong_48 (by decide) ?_
        refine lv_goto (tgt := 53) hx hb d_Mod_isLong_49 (by decide) ?_
        exact fin_z (g := g) (ws := Sw shM g ad S) (v := 1) hx hb hr hlocks rfl (by decide +kernel) (by decide +kernel) hP hD hS ⟨_, rfl, (by unfold r_Mod_isLong; rw [if_neg hc1, if_neg hc2, if_pos hc3]), rfl⟩ d_Mod_isLong_53
      · refine lv_iload_n hx hb d_Mod_isLong_18 rfl (lv_at hl 0 rfl) ?_
        refine lv_bipush (v := 62) hx hb d_Mod_isLong_19 (by decide) ?_
        refine lv_icmp_eq (tgt := 48) hx hb d_Mod_isLong_21 (by decide) (fun hc4 => ?_) (fun hc4 => ?_)
        · refine lv_iconst (v := 1) hx hb d_Mod_isLong_48 (by decide) ?_
          refine lv_goto (tgt := 53) hx hb d_Mod_isLong_49 (by decide) ?_
          exact fin_z (g := g) (ws := Sw shM g ad S) (v := 1) hx hb hr hlocks rfl (by decide +kernel) (by decide +kernel) hP hD hS ⟨_, rfl, (by unfold r_Mod_isLong; rw [if_neg hc1, if_neg hc2, if_neg hc3, if_pos hc4]), rfl⟩ d_Mod_isLong_53
        · refine lv_iload_n hx hb d_Mod_isLong_24 rfl (lv_at hl 0 rfl) ?_
          refine lv_bipush (v := 73) hx hb d_Mod_isLong_25 (by decide) ?_
          refine lv_icmp_eq (tgt := 48) hx hb d_Mod_isLong_27 (by decide) (fun hc5 => ?_) (fun hc5 => ?_)
          · refine lv_iconst (v := 1) hx hb d_Mod_isLong_48 (by decide) ?_
            show W _ _ _ _ _ _ _ _ _ _ _ _ _ _ _ (F0 _ 49 _ _)
            refine lv_goto (tgt := 53) hx hb d_Mod_isLong_49 (by decide) ?_
            exact fin_z (g := g) (ws := Sw shM g ad S) (v := 1) hx hb hr hlocks rfl (by decide +kernel) (by decide +kernel) hP hD hS ⟨_, rfl, (by unfold r_Mod_isLong; rw [if_neg hc1, if_neg hc2, if_neg hc3, if_neg hc4, if_pos hc5]), rfl⟩ d_Mod_isLong_53
          · refine lv_iload_n hx hb d_Mod_isLong_30 rfl (lv_at hl 0 rfl) ?_
            show W _ _ _ _ _ _ _ _ _ _ _ _ _ _ _ (F0 _ 31 _ _)
            refine lv_bipush (v := 74) hx hb d_Mod_isLong_31 (by decide) ?_
            refine lv_icmp_eq (tgt := 48) hx hb d_Mod_isLong_33 (by decide) (fun hc6 => ?_) (fun hc6 => ?_)
            · refine lv_iconst (v := 1) hx hb d_Mod_isLong_48 (by decide) ?_
              refine lv_goto (tgt := 53) hx hb d_Mod_isLong_49 (by decide) ?_
              exact fin_z (g := g) (ws := Sw shM g ad S) (v := 1) hx hb hr hlocks rfl (by decide +kernel) (by decide +kernel) hP hD hS ⟨_, rfl, (by unfold r_Mod_isLong; rw [if_neg hc1, if_neg hc2, if_neg hc3, if_neg hc4, if_neg hc5, if_pos hc6]), rfl⟩ d_Mod_isLong_53
            · refine lv_iload_n hx hb d_Mod_isLong_36 rfl (lv_at hl 0 rfl) ?_
              refine lv_bipush (v := 81) hx hb d_Mod_isLong_37 (by decide) ?_
              refine lv_icmp_eq (tgt := 48) hx hb d_Mod_isLong_39 (by decide) (fun hc7 => ?_) (fun hc7 => ?_)
              · refine lv_iconst (v := 1) hx hb d_Mod_isLong_48 (by decide) ?_
                refine lv_goto (tgt := 53) hx hb d_Mod_isLong_49 (by decide) ?_
                exact fin_z (g := g) (ws := Sw shM g ad S) (v := 1) hx hb hr hlocks rfl (by decide +kernel) (by decide +kernel) hP hD hS ⟨_, rfl, (by unfold r_Mod_isLong; rw [if_neg hc1, if_neg hc2, if_neg hc3, if_neg hc4, if_neg hc5, if_neg hc6, if_pos hc7]), rfl⟩ d_Mod_isLong_53
              · refine lv_iload_n hx hb d_Mod_isLong_42 rfl (lv_at hl 0 rfl) ?_
                refine lv_bipush (v := 82) hx hb d_Mod_isLong_43 (by decide) ?_
                refine lv_icmp_ne (tgt := 52) hx hb d_Mod_isLong_45 (by decide) (fun hc8 => ?_) (fun hc8 => ?_)
                · refine lv_iconst (v := 0) hx hb d_Mod_isLong_52 (by decide) ?_
                  exact fin_z (g := g) (ws := Sw shM g ad S) (v := 0) hx hb hr hlocks rfl (by decide +kernel) (by decide +kernel) hP hD hS ⟨_, rfl, (by unfold r_Mod_isLong; rw [if_neg hc1, if_neg hc2, if_neg hc3, if_neg hc4, if_neg hc5, if_neg hc6, if_neg hc7, if_neg hc8]), rfl⟩ d_Mod_isLong_53
                · refine lv_iconst (v := 1) hx hb d_Mod_isLong_48 (by decide) ?_
                  refine lv_goto (tgt := 53) hx hb d_Mod_isLong_49 (by decide) ?_
                  exact fin_z (g := g) (ws := Sw shM g ad S) (v := 1) hx hb hr hlocks rfl (by decide +kernel) (by decide +kernel) hP hD hS ⟨_, rfl, (by unfold r_Mod_isLong; rw [if_neg hc1, if_neg hc2, if_neg hc3, if_neg hc4, if_neg hc5, if_neg hc6, if_neg hc7, if_pos hc8]), rfl⟩ d_Mod_isLong_53
def r_Mod_cell (S : sS) (v1 : Int32) (v2 : Int32) (v3 : Int32) (v4 : Int32) (v5 : Int32) : Int32 := S.1 0 67
def s_Mod_cell (S : sS) (v1 : Int32) (v2 : Int32) (v3 : Int32) (v4 : Int32) (v5 : Int32) : sS := (putA (putA (putA (putA (putA (putA (putA (putI S 0 67 ((S.1 0 67) + (1 : Int32))) 27 (S.1 0 67 : Int32).toNatClampNeg v1) 28 (S.1 0 67 : Int32).toNatClampNeg v2) 29 (S.1 0 67 : Int32).toNatClampNeg v3) 30 (S.1 0 67 : Int32).toNatClampNeg 0) 31 (S.1 0 67 : Int32).toNatClampNeg (-1)) 32 (S.1 0 67 : Int32).toNatClampNeg (vp_nar .boolean v4)) 33 (S.1 0 67 : Int32).toNatClampNeg (vp_nar .boolean v5))
abbrev rm_a_Mod_cell : Room := { frames := 0, cells := 0, slots := 0, locals := 0 }
set_option maxHeartbeats 4000000 in
set_option maxRecDepth 100000 in
theorem a_Mod_cell (l : Launch) (g : gG) (sz : Nat) (ad : Nat → Nat) (S : sS) (v1 : Int32) (v2 : Int32) (v3 : Int32) (v4 : Int32) (v5 : Int32) (hb0 : vp_in (S.1 0 67) 260000) : Ci l y_Mod_cell b_Mod_cell 7 rm_a_Mod_cell g [.ref (ad 0), .int v1, .int v2, .int v3, .int v4, .int v5] (Sw shM g ad S) sz (fun r w => ∃ S' : sS, w = Sw shM g ad S' ∧ r = r_Mod_cell S v1 v2 v3 v4 v5 ∧ S' = s_Mod_cell S v1 v2 v3 v4 v5) := by
  refine startI (by decide) (Nat.le_of_ble_eq_true rfl) ?_
  intro p e s m below meth c A ls hx hb hr hml hlocks hmn hown htt hN hA hP hK hD hS hl
  have hown : s.vm.findClass "MacroMillModel" = some m.cls := hown
  have hl : lv_has ls 7 [(0, .ref (ad 0)), (1, .int v1), (2, .int v2), (3, .int v3), (4, .int v4), (5, .int v5)] := hl
  refine lv_aload_n hx hb d_Mod_cell_0 rfl (lv_at hl 0 rfl) ?_
  refine S_getI (h := shM) (C := "MacroMillModel") (T := F_Mod) hx hb htt in_Mod hown hK hP 0 67 rfl rfl rfl (by decide) (htt _ k_2303) (fun _ h9 => h9) d_Mod_cell_1 ?_
  refine lv_istore (lv' := [(6, .int (S.1 0 67)), (0, .ref (ad 0)), (1, .int v1), (2, .int v2), (3, .int v3), (4, .int v4), (5, .int v5)]) hx hb d_Mod_cell_4 hl (by decide) rfl (fun ls hl => ?_)
  refine lv_aload_n hx hb d_Mod_cell_6 rfl (lv_at hl 1 rfl) ?_
  refine lv_dup hx hb d_Mod_cell_7 rfl ?_
  refine S_getI (h := shM) (C := "MacroMillModel") (T := F_Mod) hx hb htt in_Mod hown hK hP 0 67 rfl rfl rfl (by decide) (htt _ k_2303) (fun _ h9 => h9) d_Mod_cell_8 ?_
  refine lv_iconst (v := 1) hx hb d_Mod_cell_11 (by decide) ?_
  refine lv_iadd hx hb d_Mod_cell_12 ?_
  refine S_put (h := shM) (C := "MacroMillModel") (T := F_Mod) (v := (S.1 0 67) + (1 : Int32)) hx hb htt in_Mod t_Mod t_Mod_ok n_Mod hown hK hP hD hS 0 67 rfl rfl rfl (by decide) (htt _ k_2303) (fun _ h9 => h9) rfl rfl rfl d_Mod_cell_13 (fun H locs hP hD hS => ?_)
  refine lv_aload_n hx hb d_Mod_cell_16 rfl (lv_at hl 1 rfl) ?_
  refine S_getR (h := shM) (C := "MacroMillModel") (T := F_Mod) hx hb htt in_Mod hown hK hP 0 68 rfl 28 rfl rfl (by decide) (htt _ k_2304) (fun _ h9 => h9) d_Mod_cell_17 ?_
  show W _ _ _ _ _ _ _ _ _ _ _ _ _ _ _ (F0 _ 20 _ _)
  refine lv_iload hx hb d_Mod_cell_20 (lv_at hl 0 rfl) ?_
  refine lv_iload_n hx hb d_Mod_cell_22 rfl (lv_at hl 2 rfl) ?_
  refine S_iast (h := shM) (i := S.1 0 67) (v := v1) hx hb hK hP hD hS 27 rfl hb0 d_Mod_cell_23 (fun H locs hP hD hS => ?_)
  refine lv_aload_n hx hb d_Mod_cell_24 rfl (lv_at hl 1 rfl) ?_
  refine S_getR (h := shM) (C := "MacroMillModel") (T := F_Mod) hx hb htt in_Mod hown hK hP 0 69 rfl 29 rfl rfl (by decide) (htt _ k_2305) (fun _ h9 => h9) d_Mod_cell_25 ?_
  refine lv_iload hx hb d_Mod_cell_28 (lv_at hl 0 rfl) ?_
  refine lv_iload_n hx hb d_Mod_cell_30 rfl (lv_at hl 3 rfl) ?_
  refine S_iast (h := shM) (i := S.1 0 67) (v := v2) hx hb hK hP hD hS 28 rfl hb0 d_Mod_cell_31 (fun H locs hP hD hS => ?_)
  refine lv_aload_n hx hb d_Mod_cell_32 rfl (lv_at hl 1 rfl) ?_
  refine S_getR (h := shM) (C := "MacroMillModel") (T := F_Mod) hx hb htt in_Mod hown hK hP 0 70 rfl 30 rfl rfl (by decide) (htt _ k_2306) (fun _ h9 => h9) d_Mod_cell_33 ?_
  refine lv_iload hx hb d_Mod_cell_36 (lv_at hl 0 rfl) ?_
  refine lv_iload_n hx hb d_Mod_cell_38 rfl (lv_at hl 4 rfl) ?_
  show W _ _ _ _ _ _ _ _ _ _ _ _ _ _ _ (F0 _ 39 _ _)
  refine S_iast (h := shM) (i := S.1 0 67) (v := v3) hx hb hK hP hD hS 29 rfl hb0 d_Mod_cell_39 (fun H locs hP hD hS => ?_)
  refine lv_aload_n hx hb d_Mod_cell_40 rfl (lv_at hl 1 rfl) ?_
  refine S_getR (h := shM) (C := "MacroMillModel") (T := F_Mod) hx hb htt in_Mod hown hK hP 0 71 rfl 31 rfl rfl (by decide) (htt _ k_2307) (fun _ h9 => h9) d_Mod_cell_41 ?_
  refine lv_iload hx hb d_Mod_cell_44 (lv_at hl 0 rfl) ?_
  refine lv_iconst (v := 0) hx hb d_Mod_cell_46 (by decide) ?_
  refine S_iast (h := shM) (i := S.1 0 67) (v := 0) hx hb hK hP hD hS 30 rfl hb0 d_Mod_cell_47 (fun H locs hP hD hS => ?_)
  refine lv_aload_n hx hb d_Mod_cell_48 rfl (lv_at hl 1 rfl) ?_
  refine S_getR (h := shM) (C := "MacroMillModel") (T := F_Mod) hx hb htt in_Mod hown hK hP 0 72 rfl 32 rfl rfl (by decide) (htt _ k_2308) (fun _ h9 => h9) d_Mod_cell_49 ?_
  refine lv_iload hx hb d_Mod_cell_52 (lv_at hl 0 rfl) ?_
  refine lv_iconst (v := (-1)) hx hb d_Mod_cell_54 (by decide) ?_
  refine S_iast (h := shM) (i := S.1 0 67) (v := (-1)) hx hb hK hP hD hS 31 rfl hb0 d_Mod_cell_55 (fun H locs hP hD hS => ?_)
  refine lv_aload_n hx hb d_Mod_cell_56 rfl (lv_at hl 1 rfl) ?_
  show W _ _ _ _ _ _ _ _ _ _ _ _ _ _ _ (F0 _ 57 _ _)
  refine S_getR (h := shM) (C := "MacroMillModel") (T := F_Mod) hx hb htt in_Mod hown hK hP 0 73 rfl 33 rfl rfl (by decide) (htt _ k_2309) (fun _ h9 => h9) d_Mod_cell_57 ?_
  refine lv_iload hx hb d_Mod_cell_60 (lv_at hl 0 rfl) ?_
  refine lv_iload hx hb d_Mod_cell_62 (lv_at hl 5 rfl) ?_
  refine S_zast (h := shM) (i := S.1 0 67) (v := v4) hx hb hK hP hD hS 32 rfl hb0 d_Mod_cell_64 (fun H locs hP hD hS => ?_)
  refine lv_aload_n hx hb d_Mod_cell_65 rfl (lv_at hl 1 rfl) ?_
  refine S_getR (h := shM) (C := "MacroMillModel") (T := F_Mod) hx hb htt in_Mod hown hK hP 0 74 rfl 34 rfl rfl (by decide) (htt _ k_2310) (fun _ h9 => h9) d_Mod_cell_66 ?_
  refine lv_iload hx hb d_Mod_cell_69 (lv_at hl 0 rfl) ?_
  refine lv_iload hx hb d_Mod_cell_71 (lv_at hl 6 rfl) ?_
  refine S_zast (h := shM) (i := S.1 0 67) (v := v5) hx hb hK hP hD hS 33 rfl hb0 d_Mod_cell_73 (fun H locs hP hD hS => ?_)
  refine lv_iload hx hb d_Mod_cell_74 (lv_at hl 0 rfl) ?_
  exact fin_i (g := g) (ws := Sw shM g ad (putA (putA (putA (putA (putA (putA (putA (putI S 0 67 ((S.1 0 67) + (1 : Int32))) 27 (S.1 0 67 : Int32).toNatClampNeg v1) 28 (S.1 0 67 : Int32).toNatClampNeg v2) 29 (S.1 0 67 : Int32).toNatClampNeg v3) 30 (S.1 0 67 : Int32).toNatClampNeg 0) 31 (S.1 0 67 : Int32).toNatClampNeg (-1)) 32 (S.1 0 67 : Int32).toNatClampNeg (vp_nar .boolean v4)) 33 (S.1 0 67 : Int32).toNatClampNeg (vp_nar .boolean v5))) (v := S.1 0 67) hx hb hr hlocks (by decide +kernel) (by decide +kernel) hP hD hS ⟨_, rfl, rfl, rfl⟩ d_Mod_cell_76
def r_Mod_copy (S : sS) (v1 : Int32) : Int32 := r_Mod_cell S (S.2.1 27 (v1 : Int32).toNatClampNeg) (S.2.1 28 (v1 : Int32).toNatClampNeg) (S.2.1 29 (v1 : Int32).toNatClampNeg) (S.2.1 32 (v1 : Int32).toNatClampNeg) (S.2.1 33 (v1 : Int32).toNatClampNeg)
def s_Mod_copy (S : sS) (v1 : Int32) : sS := (putA (s_Mod_cell S (S.2.1 27 (v1 : Int32).toNatClampNeg) (S.2.1 28 (v1 : Int32).toNatClampNeg) (S.2.1 29 (v1 : Int32).toNatClampNeg) (S.2.1 32 (v1 : Int32).toNatClampNeg) (S.2.1 33 (v1 : Int32).toNatClampNeg)) 30 (r_Mod_cell S (S.2.1 27 (v1 : Int32).toNatClampNeg) (S.2.1 28 (v1 : Int32).toNatClampNeg) (S.2.1 29 (v1 : Int32).toNatClampNeg) (S.2.1 32 (v1 : Int32).toNatClampNeg) (S.2.1 33 (v1 : Int32).toNatClampNeg) : Int32).toNatClampNeg ((s_Mod_cell S (S.2.1 27 (v1 : Int32).toNatClampNeg) (S.2.1 28 (v1 : Int32).toNatClampNeg) (S.2.1 29 (v1 : Int32).toNatClampNeg) (S.2.1 32 (v1 : Int32).toNatClampNeg) (S.2.1 33 (v1 : Int32).toNatClampNeg)).2.1 30 (v1 : Int32).toNatClampNeg))
abbrev rm_a_Mod_copy : Room := { frames := 1, cells := 0, slots := 0, locals := 26 }
set_option maxHeartbeats 4000000 in
set_option maxRecDepth 100000 in
theorem a_Mod_copy (l : Launch) (g : gG) (sz : Nat) (ad : Nat → Nat) (S : sS) (v1 : Int32) (hb0 : vp_in (v1) 260000) (hb1 : vp_in (S.1 0 67) 260000) (hb2 : vp_in (r_Mod_cell S (S.2.1 27 (v1 : Int32).toNatClampNeg) (S.2.1 28 (v1 : Int32).toNatClampNeg) (S.2.1 29 (v1 : Int32).toNatClampNeg) (S.2.1 32 (v1 : Int32).toNatClampNeg) (S.2.1 33 (v1 : Int32).toNatClampNeg)) 260000) : Ci l y_Mod_copy b_Mod_copy 3 rm_a_Mod_copy g [.ref (ad 0), .int v1] (Sw shM g ad S) sz (fun r w => ∃ S' : sS, w = Sw shM g ad S' ∧ r = r_Mod_copy S v1 ∧ S' = s_Mod_copy S v1) := by
  refine startI (by decide) (Nat.le_of_ble_eq_true rfl) ?_
  intro p e s m below meth c A ls hx hb hr hml hlocks hmn hown htt hN hA hP hK hD hS hl
  have hown : s.vm.findClass "MacroMillModel" = some m.cls := hown
  have hl : lv_has ls 3 [(0, .ref (ad 0)), (1, .int v1)] := hl
  refine lv_aload_n hx hb d_Mod_copy_0 rfl (lv_at hl 0 rfl) ?_
  refine lv_aload_n hx hb d_Mod_copy_1 rfl (lv_at hl 0 rfl) ?_
  refine S_getR (h := shM) (C := "MacroMillModel") (T := F_Mod) hx hb htt in_Mod hown hK hP 0 68 rfl 28 rfl rfl (by decide) (htt _ k_2304) (fun _ h9 => h9) d_Mod_copy_2 ?_
  refine lv_iload_n hx hb d_Mod_copy_5 rfl (lv_at hl 1 rfl) ?_
  refine S_iald (h := shM) (i := v1) hx hb hK hP 27 rfl hb0 d_Mod_copy_6 ?_
  refine lv_aload_n hx hb d_Mod_copy_7 rfl (lv_at hl 0 rfl) ?_
  refine S_getR (h := shM) (C := "MacroMillModel") (T := F_Mod) hx hb htt in_Mod hown hK hP 0 69 rfl 29 rfl rfl (by decide) (htt _ k_2305) (fun _ h9 => h9) d_Mod_copy_8 ?_
  refine lv_iload_n hx hb d_Mod_copy_11 rfl (lv_at hl 1 rfl) ?_
  refine S_iald (h := shM) (i := v1) hx hb hK hP 28 rfl hb0 d_Mod_copy_12 ?_
  refine lv_aload_n hx hb d_Mod_copy_13 rfl (lv_at hl 0 rfl) ?_
  refine S_getR (h := shM) (C := "MacroMillModel") (T := F_Mod) hx hb htt in_Mod hown hK hP 0 70 rfl 30 rfl rfl (by decide) (htt _ k_2306) (fun _ h9 => h9) d_Mod_copy_14 ?_
  show W _ _ _ _ _ _ _ _ _ _ _ _ _ _ _ (F0 _ 17 _ _)
  refine lv_iload_n hx hb d_Mod_copy_17 rfl (lv_at hl 1 rfl) ?_
  refine S_iald (h := shM) (i := v1) hx hb hK hP 29 rfl hb0 d_Mod_copy_18 ?_
  refine lv_aload_n hx hb d_Mod_copy_19 rfl (lv_at hl 0 rfl) ?_
  refine S_getR (h := shM) (C := "MacroMillModel") (T := F_Mod) hx hb htt in_Mod hown hK hP 0 73 rfl 33 rfl rfl (by decide) (htt _ k_2309) (fun _ h9 => h9) d_Mod_copy_20 ?_
  refine lv_iload_n hx hb d_Mod_copy_23 rfl (lv_at hl 1 rfl) ?_
  refine S_zald (h := shM) (i := v1) hx hb hK hP 32 rfl hb0 d_Mod_copy_24 ?_
  refine lv_aload_n hx hb d_Mod_copy_25 rfl (lv_at hl 0 rfl) ?_
  refine S_getR (h := shM) (C := "MacroMillModel") (T := F_Mod) hx hb htt in_Mod hown hK hP 0 74 rfl 34 rfl rfl (by decide) (htt _ k_2310) (fun _ h9 => h9) d_Mod_copy_26 ?_
  refine lv_iload_n hx hb d_Mod_copy_29 rfl (lv_at hl 1 rfl) ?_
  refine S_zald (h := shM) (i := v1) hx hb hK hP 33 rfl hb0 d_Mod_copy_30 ?_
  refine go_iS (As := [.ref (ad 0), .int (S.2.1 27 (v1 : Int32).toNatClampNeg), .int (S.2.1 28 (v1 : Int32).toNatClampNeg), .int (S.2.1 29 (v1 : Int32).toNatClampNeg), .int (S.2.1 32 (v1 : Int32).toNatClampNeg), .int (S.2.1 33 (v1 : Int32).toNatClampNeg)]) (g := g) (A := A) (h := shM) hP hK hD hS hA hN (fun hp => va_runV (As := [.int (S.2.1 27 (v1 : Int32).toNatClampNeg), .int (S.2.1 28 (v1 : Int32).toNatClampNeg), .int (S.2.1 29 (v1 : Int32).toNatClampNeg), .int (S.2.1 32 (v1 : Int32).toNatClampNeg), .int (S.2.1 33 (v1 : Int32).toNatClampNeg)]) (rest := []) ⟨hx, hb, hml, hown, htt⟩ (a_Mod_cell l g _ ad S (S.2.1 27 (v1 : Int32).toNatClampNeg) (S.2.1 28 (v1 : Int32).toNatClampNeg) (S.2.1 29 (v1 : Int32).toNatClampNeg) (S.2.1 32 (v1 : Int32).toNatClampNeg) (S.2.1 33 (v1 : Int32).toNatClampNeg) hb1) ⟨(cb_L htt k_3007 k_276 k_3004 hd_Mod_cell ⟨(by decide +kernel), (by decide +kernel)⟩), htt _ k_3006, htt _ k_191⟩ ⟨hp.1, S_recv hK hP 0 rfl rfl, hp.2⟩ rfl rfl hl.1 rfl (lv_room (Nat.le_of_ble_eq_true rfl)) d_Mod_copy_31 ⟨(by decide +kernel), (by decide +kernel)⟩) (fun r9 Sn H locs hw9 hP hD hS => ?_)
  obtain ⟨rfl, rfl⟩ := hw9
  refine W.widen (k := 0) (n := 0) (by decide +kernel) (by decide +kernel) ?_
  refine lv_istore_n (lv' := [(2, .int (r_Mod_cell S (S.2.1 27 (v1 : Int32).toNatClampNeg) (S.2.1 28 (v1 : Int32).toNatClampNeg) (S.2.1 29 (v1 : Int32).toNatClampNeg) (S.2.1 32 (v1 : Int32).toNatClampNeg) (S.2.1 33 (v1 : Int32).toNatClampNeg))), (0, .ref (ad 0)), (1, .int v1)]) hx hb d_Mod_copy_34 rfl hl (by decide) rfl (fun ls hl => ?_)
  show W _ _ _ _ _ _ _ _ _ _ _ _ _ _ _ (F0 _ 35 _ _)
  refine lv_aload_n hx hb d_Mod_copy_35 rfl (lv_at hl 1 rfl) ?_
  refine S_getR (h := shM) (C := "MacroMillModel") (T := F_Mod) hx hb htt in_Mod hown hK hP 0 71 rfl 31 rfl rfl (by decide) (htt _ k_2307) (fun _ h9 => h9) d_Mod_copy_36 ?_
  refine lv_iload_n hx hb d_Mod_copy_39 rfl (lv_at hl 0 rfl) ?_
  refine lv_aload_n hx hb d_Mod_copy_40 rfl (lv_at hl 1 rfl) ?_
  refine S_getR (h := shM) (C := "MacroMillModel") (T := F_Mod) hx hb htt in_Mod hown hK hP 0 71 rfl 31 rfl rfl (by decide) (htt _ k_2307) (fun _ h9 => h9) d_Mod_copy_41 ?_
  refine lv_iload_n hx hb d_Mod_copy_44 rfl (lv_at hl 2 rfl) ?_
  refine S_iald (h := shM) (i := v1) hx hb hK hP 30 rfl hb0 d_Mod_copy_45 ?_
  refine S_iast (h := shM) (i := r_Mod_cell S (S.2.1 27 (v1 : Int32).toNatClampNeg) (S.2.1 28 (v1 : Int32).toNatClampNeg) (S.2.1 29 (v1 : Int32).toNatClampNeg) (S.2.1 32 (v1 : Int32).toNatClampNeg) (S.2.1 33 (v1 : Int32).toNatClampNeg)) (v := (s_Mod_cell S (S.2.1 27 (v1 : Int32).toNatClampNeg) (S.2.1 28 (v1 : Int32).toNatClampNeg) (S.2.1 29 (v1 : Int32).toNatClampNeg) (S.2.1 32 (v1 : Int32).toNatClampNeg) (S.2.1 33 (v1 : Int32).toNatClampNeg)).2.1 30 (v1 : Int32).toNatClampNeg) hx hb hK hP hD hS 30 rfl hb2 d_Mod_copy_46 (fun H locs hP hD hS => ?_)
  refine lv_iload_n hx hb d_Mod_copy_47 rfl (lv_at hl 0 rfl) ?_
  exact fin_i (g := g) (ws := Sw shM g ad (putA (s_Mod_cell S (S.2.1 27 (v1 : Int32).toNatClampNeg) (S.2.1 28 (v1 : Int32).toNatClampNeg) (S.2.1 29 (v1 : Int32).toNatClampNeg) (S.2.1 32 (v1 : Int32).toNatClampNeg) (S.2.1 33 (v1 : Int32).toNatClampNeg)) 30 (r_Mod_cell S (S.2.1 27 (v1 : Int32).toNatClampNeg) (S.2.1 28 (v1 : Int32).toNatClampNeg) (S.2.1 29 (v1 : Int32).toNatClampNeg) (S.2.1 32 (v1 : Int32).toNatClampNeg) (S.2.1 33 (v1 : Int32).toNatClampNeg) : Int32).toNatClampNeg ((s_Mod_cell S (S.2.1 27 (v1 : Int32).toNatClampNeg) (S.2.1 28 (v1 : Int32).toNatClampNeg) (S.2.1 29 (v1 : Int32).toNatClampNeg) (S.2.1 32 (v1 : Int32).toNatClampNeg) (S.2.1 33 (v1 : Int32).toNatClampNeg)).2.1 30 (v1 : Int32).toNatClampNeg))) (v := r_Mod_cell S (S.2.1 27 (v1 : Int32).toNatClampNeg) (S.2.1 28 (v1 : Int32).toNatClampNeg) (S.2.1 29 (v1 : Int32).toNatClampNeg) (S.2.1 32 (v1 : Int32).toNatClampNeg) (S.2.1 33 (v1 : Int32).toNatClampNeg)) hx hb hr hlocks (by decide +kernel) (by decide +kernel) hP hD hS ⟨_, rfl, rfl, rfl⟩ d_Mod_copy_48
def r_Mod_byteOf (S : sS) (v1 : Int32) (v2 : Int32) : Int32 := (S.2.1 23 ((S.2.1 27 (v1 : Int32).toNatClampNeg) + v2 : Int32).toNatClampNeg) &&& (255 : Int32)
abbrev rm_a_Mod_byteOf : Room := { frames := 0, cells := 0, slots := 0, locals := 0 }
set_option maxHeartbeats 4000000 in
set_option maxRecDepth 100000 in
theorem a_Mod_byteOf (l : Launch) (g : gG) (sz : Nat) (ad : Nat → Nat) (S : sS) (v1 : Int32) (v2 : Int32) (hb0 : vp_in (v1) 260000) (hb1 : vp_in ((S.2.1 27 (v1 : Int32).toNatClampNeg) + v2) 125552) : Ci l y_Mod_byteOf b_Mod_byteOf 3 rm_a_Mod_byteOf g [.ref (ad 0), .int v1, .int v2] (Sw shM g ad S) sz (fun r w => ∃ S' : sS, w = Sw shM g ad S' ∧ r = r_Mod_byteOf S v1 v2 ∧ S' = S) := by
  refine startI (by decide) (Nat.le_of_ble_eq_true rfl) ?_
  intro p e s m below meth c A ls hx hb hr hml hlocks hmn hown htt hN hA hP hK hD hS hl
  have hown : s.vm.findClass "MacroMillModel" = some m.cls := hown
  have hl : lv_has ls 3 [(0, .ref (ad 0)), (1, .int v1), (2, .int v2)] := hl
  refine lv_aload_n hx hb d_Mod_byteOf_0 rfl (lv_at hl 0 rfl) ?_
  refine S_getR (h := shM) (C := "MacroMillModel") (T := F_Mod) hx hb htt in_Mod hown hK hP 0 60 rfl 24 rfl rfl (by decide) (htt _ k_2296) (fun _ h9 => h9) d_Mod_byteOf_1 ?_
  refine lv_aload_n hx hb d_Mod_byteOf_4 rfl (lv_at hl 0 rfl) ?_
  refine S_getR (h := shM) (C := "MacroMillModel") (T := F_Mod) hx hb htt in_Mod hown hK hP 0 68 rfl 28 rfl rfl (by decide) (htt _ k_2304) (fun _ h9 => h9) d_Mod_byteOf_5 ?_
  refine lv_iload_n hx hb d_Mod_byteOf_8 rfl (lv_at hl 1 rfl) ?_
  refine S_iald (h := shM) (i := v1) hx hb hK hP 27 rfl hb0 d_Mod_byteOf_9 ?_
  refine lv_iload_n hx hb d_Mod_byteOf_10 rfl (lv_at hl 2 rfl) ?_
  refine lv_iadd hx hb d_Mod_byteOf_11 ?_
  refine S_bald (h := shM) (i := (S.2.1 27 (v1 : Int32).toNatClampNeg) + v2) hx hb hK hP 23 rfl hb1 d_Mod_byteOf_12 ?_
  refine lv_sipush (v := 255) hx hb d_Mod_byteOf_13 (by decide) ?_
  refine lv_iand hx hb d_Mod_byteOf_16 ?_
  show W _ _ _ _ _ _ _ _ _ _ _ _ _ _ _ (F0 _ 17 _ _)
  exact fin_i (g := g) (ws := Sw shM g ad S) (v := (S.2.1 23 ((S.2.1 27 (v1 : Int32).toNatClampNeg) + v2 : Int32).toNatClampNeg) &&& (255 : Int32)) hx hb hr hlocks (by decide +kernel) (by decide +kernel) hP hD hS ⟨_, rfl, rfl, rfl⟩ d_Mod_byteOf_17
def r_Mod_kindOf (S : sS) (v1 : Int32) : Int32 := if (S.2.1 28 (v1 : Int32).toNatClampNeg) ≤ (1 : Int32) then (if (r_Mod_isLetter S (r_Mod_byteOf S (v1) (0 : Int32))) = (0 : Int32) then (if (r_Mod_isDigit S (r_Mod_byteOf S (v1) (0 : Int32))) = (0 : Int32) then (if (r_Mod_byteOf S (v1) (0 : Int32)) = (46 : Int32) then (if (r_Mod_isDigit S ((-1) : Int32)) = (0 : Int32) then 5 else 2) else 5) else 2) else 1) else (if (r_Mod_byteOf S (v1) (0 : Int32)) = (76 : Int32) then (if (r_Mod_byteOf S (v1) (1 : Int32)) = (34 : Int32) then 3 else (if (r_Mod_byteOf S (v1) (1 : Int32)) = (39 : Int32) then 4 else (if (r_Mod_byteOf S (v1) (1 : Int32)) < (0 : Int32) then (if (r_Mod_isLetter S (r_Mod_byteOf S (v1) (0 : Int32))) = (0 : Int32) then (if (r_Mod_isDigit S (r_Mod_byteOf S (v1) (0 : Int32))) = (0 : Int32) then (if (r_Mod_byteOf S (v1) (0 : Int32)) = (46 : Int32) then (if (r_Mod_isDigit S (r_Mod_byteOf S (v1) (1 : Int32))) = (0 : Int32) then 5 else 2) else 5) else 2) else 1) else (if (r_Mod_byteOf S (v1) (0 : Int32)) = (34 : Int32) then 3 else (if (r_Mod_byteOf S (v1) (0 : Int32)) = (39 : Int32) then 4 else (if (r_Mod_isLetter S (r_Mod_byteOf S (v1) (0 : Int32))) = (0 : Int32) then (if (r_Mod_isDigit S (r_Mod_byteOf S (v1) (0 : Int32))) = (0 : Int32) then (if (r_Mod_byteOf S (v1) (0 : Int32)) = (46 : Int32) then (if (r_Mod_isDigit S (r_Mod_byteOf S (v1) (1 : Int32))) = (0 : Int32) then 5 else 2) else 5) else 2) else 1)))))) else (if (r_Mod_byteOf S (v1) (1 : Int32)) < (0 : Int32) then (if (r_Mod_isLetter S (r_Mod_byteOf S (v1) (0 : Int32))) = (0 : Int32) then (if (r_Mod_isDigit S (r_Mod_byteOf S (v1) (0 : Int32))) = (0 : Int32) then (if (r_Mod_byteOf S (v1) (0 : Int32)) = (46 : Int32) then (if (r_Mod_isDigit S (r_Mod_byteOf S (v1) (1 : Int32))) = (0 : Int32) then 5 else 2) else 5) else 2) else 1) else (if (r_Mod_byteOf S (v1) (0 : Int32)) = (34 : Int32) then 3 else (if (r_Mod_byteOf S (v1) (0 : Int32)) = (39 : Int32) then 4 else (if (r_Mod_isLetter S (r_Mod_byteOf S (v1) (0 : Int32))) = (0 : Int32) then (if (r_Mod_isDigit S (r_Mod_byteOf S (v1) (0 : Int32))) = (0 : Int32) then (if (r_Mod_byteOf S (v1) (0 : Int32)) = (46 : Int32) then (if (r_Mod_isDigit S (r_Mod_byteOf S (v1) (1 : Int32))) = (0 : Int32) then 5 else 2) else 5) else 2) else 1)))))
abbrev rm_a_Mod_kindOf : Room := { frames := 1, cells := 0, slots := 0, locals := 22 }
set_option maxHeartbeats 4000000 in
set_option maxRecDepth 100000 in
theorem a_Mod_kindOf (l : Launch) (g : gG) (sz : Nat) (ad : Nat → Nat) (S : sS) (v1 : Int32) (hb0 : vp_in ((v1)) 260000) (hb1 : vp_in ((S.2.1 27 ((v1) : Int32).toNatClampNeg) + (0 : Int32)) 125552) (hb2 : vp_in (v1) 260000) (hb3 : ¬ ((S.2.1 28 (v1 : Int32).toNatClampNeg) ≤ (1 : Int32)) → vp_in ((v1)) 260000) (hb4 : ¬ ((S.2.1 28 (v1 : Int32).toNatClampNeg) ≤ (1 : Int32)) → vp_in ((S.2.1 27 ((v1) : Int32).toNatClampNeg) + (1 : Int32)) 125552) : Ci l y_Mod_kindOf b_Mod_kindOf 5 rm_a_Mod_kindOf g [.ref (ad 0), .int v1] (Sw shM g ad S) sz (fun r w => ∃ S' : sS, w = Sw shM g ad S' ∧ r = r_Mod_kindOf S v1 ∧ S' = S) := by
  refine startI (by decide) (Nat.le_of_ble_eq_true rfl) ?_
  intro p e s m below meth c A ls hx hb hr hml hlocks hmn hown htt hN hA hP hK hD hS hl
  have hown : s.vm.findClass "MacroMillModel" = some m.cls := hown
  have hl : lv_has ls 5 [(0, .ref (ad 0)), (1, .int v1)] := hl
  refine lv_aload_n hx hb d_Mod_kindOf_0 rfl (lv_at hl 0 rfl) ?_
  refine lv_iload_n hx hb d_Mod_kindOf_1 rfl (lv_at hl 1 rfl) ?_
  refine lv_iconst (v := 0) hx hb d_Mod_kindOf_2 (by decide) ?_
  refine go_iS (As := [.ref (ad 0), .int v1, .int 0]) (g := g) (A := A) (h := shM) hP hK hD hS hA hN (fun hp => va_runV (As := [.int v1, .int 0]) (rest := []) ⟨hx, hb, hml, hown, htt⟩ (a_Mod_byteOf l g _ ad S (v1) (0 : Int32) hb0 hb1) ⟨(cb_L htt k_3016 k_276 k_3013 hd_Mod_byteOf ⟨(by decide +kernel), (by decide +kernel)⟩), htt _ k_3015, htt _ k_193⟩ ⟨hp.1, S_recv hK hP 0 rfl rfl, hp.2⟩ rfl rfl hl.1 rfl (lv_room (Nat.le_of_ble_eq_true rfl)) d_Mod_kindOf_3 ⟨(by decide +kernel), (by decide +kernel)⟩) (fun r9 Sn H locs hw9 hP hD hS => ?_)
  obtain ⟨rfl, e9⟩ := hw9
  rw [e9] at hP hD
  refine W.widen (k := 0) (n := 0) (by decide +kernel) (by decide +kernel) ?_
  refine lv_istore_n (lv' := [(2, .int (r_Mod_byteOf S (v1) (0 : Int32))), (0, .ref (ad 0)), (1, .int v1)]) hx hb d_Mod_kindOf_6 rfl hl (by decide) rfl (fun ls hl => ?_)
  refine lv_aload_n hx hb d_Mod_kindOf_7 rfl (lv_at hl 1 rfl) ?_
  refine S_getR (h := shM) (C := "MacroMillModel") (T := F_Mod) hx hb htt in_Mod hown hK hP 0 69 rfl 29 rfl rfl (by decide) (htt _ k_2305) (fun _ h9 => h9) d_Mod_kindOf_8 ?_
  refine lv_iload_n hx hb d_Mod_kindOf_11 rfl (lv_at hl 2 rfl) ?_
  refine S_iald (h := shM) (i := v1) hx hb hK hP 28 rfl hb2 d_Mod_kindOf_12 ?_
  refine lv_iconst (v := 1) hx hb d_Mod_kindOf_13 (by decide) ?_
  refine lv_icmp_le (tgt := 26) hx hb d_Mod_kindOf_14 (by decide) (fun hc1 => ?_) (fun hc1 => ?_)
  · refine lv_iconst (v := (-1)) hx hb d_Mod_kindOf_26 (by decide) ?_
    show W _ _ _ _ _ _ _ _ _ _ _ _ _ _ _ (F0 _ 27 _ _)
    refine lv_istore_n (lv' := [(3, .int (-1)), (2, .int (r_Mod_byteOf S (v1) (0 : Int32))), (0, .ref (ad 0)), (1, .int v1)]) hx hb d_Mod_kindOf_27 rfl hl (by decide) rfl (fun ls hl => ?_)
    refine lv_iload_n hx hb d_Mod_kindOf_28 rfl (lv_at hl 1 rfl) ?_
    refine lv_bipush (v := 76) hx hb d_Mod_kindOf_29 (by decide) ?_
    refine lv_icmp_ne (tgt := 50) hx hb d_Mod_kindOf_31 (by decide) (fun hc2 => ?_) (fun hc2 => ?_)
    · refine lv_iload_n hx hb d_Mod_kindOf_50 rfl (lv_at hl 0 rfl) ?_
      refine lv_if_lt (tgt := 58) hx hb d_Mod_kindOf_51 (by decide) (fun _ => ?_) (fun h9 => absurd (by decide) h9)
      refine lv_iconst (v := (-1)) hx hb d_Mod_kindOf_58 (by decide) ?_
      refine lv_istore (lv' := [(4, .int (-1)), (3, .int (-1)), (2, .int (r_Mod_byteOf S (v1) (0 : Int32))), (0, .ref (ad 0)), (1, .int v1)]) hx hb d_Mod_kindOf_59 hl (by decide) rfl (fun ls hl => ?_)
      refine lv_iload hx hb d_Mod_kindOf_61 (lv_at hl 0 rfl) ?_
      refine lv_bipush (v := 34) hx hb d_Mod_kindOf_63 (by decide) ?_
      refine lv_icmp_eq (tgt := 75) hx hb d_Mod_kindOf_65 (by decide) (fun h9 => absurd h9 (by decide)) (fun _ => ?_)
      refine lv_iload hx hb d_Mod_kindOf_68 (lv_at hl 0 rfl) ?_
      refine lv_bipush (v := 39) hx hb d_Mod_kindOf_70 (by decide) ?_
      show W _ _ _ _ _ _ _ _ _ _ _ _ _ _ _ (F0 _ 72 _ _)
      refine lv_icmp_ne (tgt := 88) hx hb d_Mod_kindOf_72 (by decide) (fun _ => ?_) (fun h9 => absurd h9 (by decide))
      refine lv_iload_n hx hb d_Mod_kindOf_88 rfl (lv_at hl 2 rfl) ?_
      refine go_iS (As := [.int (r_Mod_byteOf S (v1) (0 : Int32))]) (g := g) (A := A) (h := shM) hP hK hD hS hA hN (fun hp => va_runS (As := [.int (r_Mod_byteOf S (v1) (0 : Int32))]) (rest := []) ⟨hx, hb, hml, hown, htt⟩ (a_Mod_isLetter l g _ ad S (r_Mod_byteOf S (v1) (0 : Int32))) ⟨(cb_L htt k_2774 k_276 k_2772 hd_Mod_isLetter ⟨(by decide +kernel), (by decide +kernel)⟩), htt _ k_2773⟩ hp rfl rfl hl.1 rfl (lv_room (Nat.le_of_ble_eq_true rfl)) d_Mod_kindOf_89 ⟨(by decide +kernel), (by decide +kernel)⟩) (fun r9 Sn_2 H locs hw9 hP hD hS => ?_)
      obtain ⟨rfl, e9⟩ := hw9
      rw [e9] at hP hD
      refine W.widen (k := 0) (n := 0) (by decide +kernel) (by decide +kernel) ?_
      refine lv_if_eq (tgt := 99) hx hb d_Mod_kindOf_92 (by decide) (fun hc3 => ?_) (fun hc3 => ?_)
      · refine lv_iload_n hx hb d_Mod_kindOf_99 rfl (lv_at hl 2 rfl) ?_
        refine go_iS (As := [.int (r_Mod_byteOf S (v1) (0 : Int32))]) (g := g) (A := A) (h := shM) hP hK hD hS hA hN (fun hp => va_runS (As := [.int (r_Mod_byteOf S (v1) (0 : Int32))]) (rest := []) ⟨hx, hb, hml, hown, htt⟩ (a_Mod_isDigit l g _ ad S (r_Mod_byteOf S (v1) (0 : Int32))) ⟨(cb_L htt k_2777 k_276 k_2775 hd_Mod_isDigit ⟨(by decide +kernel), (by decide +kernel)⟩), htt _ k_2776⟩ hp rfl rfl hl.1 rfl (lv_room (Nat.le_of_ble_eq_true rfl)) d_Mod_kindOf_100 ⟨(by decide +kernel), (by decide +kernel)⟩) (fun r9 Sn_3 H locs hw9 hP hD hS => ?_)
        obtain ⟨rfl, e9⟩ := hw9
        rw [e9] at hP hD
        refine W.widen (k := 0) (n := 0) (by decide +kernel) (by decide +kernel) ?_
        refine lv_if_ne (tgt := 119) hx hb d_Mod_kindOf_103 (by decide) (fun hc4 => ?_) (fun hc4 => ?_)
        · refine lv_iconst (v := 2) hx hb d_Mod_kindOf_119 (by decide) ?_
          refine lv_goto (tgt := 124) hx hb d_Mod_kindOf_120 (by decide) ?_
          exact fin_i (g := g) (ws := Sw shM g ad S) (v := 2) hx hb hr hlocks (by decide +kernel) (by decide +kernel) hP hD hS ⟨_, rfl, (by unfold r_Mod_kindOf; rw [if_pos hc1, if_pos hc3, if_neg hc4]), rfl⟩ d_Mod_kindOf_124
        · refine lv_iload_n hx hb d_Mod_kindOf_106 rfl (lv_at hl 2 rfl) ?_
          refine lv_bipush (v := 46) hx hb d_Mod_kindOf_107 (by decide) ?_
          refine lv_icmp_ne (tgt := 123) hx hb d_Mod_kindOf_109 (by decide) (fun hc5 => ?_) (fun hc5 => ?_)
          · refine lv_iconst (v := 5) hx hb d_Mod_kindOf_123 (by decide) ?_
            exact fin_i (g := g) (ws := Sw shM g ad S) (v := 5) hx hb hr hlocks (by decide +kernel) (by decide +kernel) hP hD hS ⟨_, rfl, (by unfold r_Mod_kindOf; rw [if_pos hc1, if_pos hc3, if_pos hc4, if_neg hc5]), rfl⟩ d_Mod_kindOf_124
          · refine lv_iload_n hx hb d_Mod_kindOf_112 rfl (lv_at hl 1 rfl) ?_
            refine go_iS (As := [.int (-1)]) (g := g) (A := A) (h := shM) hP hK hD hS hA hN (fun hp => va_runS (As := [.int (-1)]) (rest := []) ⟨hx, hb, hml, hown, htt⟩ (a_Mod_isDigit l g _ ad S ((-1) : Int32)) ⟨(cb_L htt k_2777 k_276 k_2775 hd_Mod_isDigit ⟨(by decide +kernel), (by decide +kernel)⟩), htt _ k_2776⟩ hp rfl rfl hl.1 rfl (lv_room (Nat.le_of_ble_eq_true rfl)) d_Mod_kindOf_113 ⟨(by decide +kernel), (by decide +kernel)⟩) (fun r9 Sn_4 H locs hw9 hP hD hS => ?_)
            obtain ⟨rfl, e9⟩ := hw9
            rw [e9] at hP hD
            refine W.widen (k := 0) (n := 0) (by decide +kernel) (by decide +kernel) ?_
            refine lv_if_eq (tgt := 123) hx hb d_Mod_kindOf_116 (by decide) (fun hc6 => ?_) (fun hc6 => ?_)
            · refine lv_iconst (v := 5) hx hb d_Mod_kindOf_123 (by decide) ?_
              exact fin_i (g := g) (ws := Sw shM g ad S) (v := 5) hx hb hr hlocks (by decide +kernel) (by decide +kernel) hP hD hS ⟨_, rfl, (by unfold r_Mod_kindOf; rw [if_pos hc1, if_pos hc3, if_pos hc4, if_pos hc5, if_pos hc6]), rfl⟩ d_Mod_kindOf_124
            · refine lv_iconst (v := 2) hx hb d_Mod_kindOf_119 (by decide) ?_
              refine lv_goto (tgt := 124) hx hb d_Mod_kindOf_120 (by decide) ?_
              exact fin_i (g := g) (ws := Sw shM g ad S) (v := 2) hx hb hr hlocks (by decide +kernel) (by decide +kernel) hP hD hS ⟨_, rfl, (by unfold r_Mod_kindOf; rw [if_pos hc1, if_pos hc3, if_pos hc4, if_pos hc5, if_neg hc6]), rfl⟩ d_Mod_kindOf_124
      · refine lv_iconst (v := 1) hx hb d_Mod_kindOf_95 (by decide) ?_
        refine lv_goto (tgt := 124) hx hb d_Mod_kindOf_96 (by decide) ?_
        exact fin_i (g := g) (ws := Sw shM g ad S) (v := 1) hx hb hr hlocks (by decide +kernel) (by decide +kernel) hP hD hS ⟨_, rfl, (by unfold r_Mod_kindOf; rw [if_pos hc1, if_neg hc3]), rfl⟩ d_Mod_kindOf_124
    · refine lv_iload_n hx hb d_Mod_kindOf_34 rfl (lv_at hl 0 rfl) ?_
      refine lv_bipush (v := 34) hx hb d_Mod_kindOf_35 (by decide) ?_
      refine lv_icmp_eq (tgt := 46) hx hb d_Mod_kindOf_37 (by decide) (fun h9 => absurd h9 (by decide)) (fun _ => ?_)
      refine lv_iload_n hx hb d_Mod_kindOf_40 rfl (lv_at hl 0 rfl) ?_
      refine lv_bipush (v := 39) hx hb d_Mod_kindOf_41 (by decide) ?_
      refine lv_icmp_ne (tgt := 50) hx hb d_Mod_kindOf_43 (by decide) (fun _ => ?_) (fun h9 => absurd h9 (by decide))
      refine lv_iload_n hx hb d_Mod_kindOf_50 rfl (lv_at hl 0 rfl) ?_
      refine lv_if_lt (tgt := 58) hx hb d_Mod_kindOf_51 (by decide) (fun _ => ?_) (fun h9 => absurd (by decide) h9)
      refine lv_iconst (v := (-1)) hx hb d_Mod_kindOf_58 (by decide) ?_
      show W _ _ _ _ _ _ _ _ _ _ _ _ _ _ _ (F0 _ 59 _ _)
      refine lv_istore (lv' := [(4, .int (-1)), (3, .int (-1)), (2, .int (r_Mod_byteOf S (v1) (0 : Int32))), (0, .ref (ad 0)), (1, .int v1)]) hx hb d_Mod_kindOf_59 hl (by decide) rfl (fun ls hl => ?_)
      refine lv_iload hx hb d_Mod_kindOf_61 (lv_at hl 0 rfl) ?_
      refine lv_bipush (v := 34) hx hb d_Mod_kindOf_63 (by decide) ?_
      refine lv_icmp_eq (tgt := 75) hx hb d_Mod_kindOf_65 (by decide) (fun h9 => absurd h9 (by decide)) (fun _ => ?_)
      refine lv_iload hx hb d_Mod_kindOf_68 (lv_at hl 0 rfl) ?_
      refine lv_bipush (v := 39) hx hb d_Mod_kindOf_70 (by decide) ?_
      refine lv_icmp_ne (tgt := 88) hx hb d_Mod_kindOf_72 (by decide) (fun _ => ?_) (fun h9 => absurd h9 (by decide))
      refine lv_iload_n hx hb d_Mod_kindOf_88 rfl (lv_at hl 2 rfl) ?_
      refine go_iS (As := [.int (r_Mod_byteOf S (v1) (0 : Int32))]) (g := g) (A := A) (h := shM) hP hK hD hS hA hN (fun hp => va_runS (As := [.int (r_Mod_byteOf S (v1) (0 : Int32))]) (rest := []) ⟨hx, hb, hml, hown, htt⟩ (a_Mod_isLetter l g _ ad S (r_Mod_byteOf S (v1) (0 : Int32))) ⟨(cb_L htt k_2774 k_276 k_2772 hd_Mod_isLetter ⟨(by decide +kernel), (by decide +kernel)⟩), htt _ k_2773⟩ hp rfl rfl hl.1 rfl (lv_room (Nat.le_of_ble_eq_true rfl)) d_Mod_kindOf_89 ⟨(by decide +kernel), (by decide +kernel)⟩) (fun r9 Sn_5 H locs hw9 hP hD hS => ?_)
      obtain ⟨rfl, e9⟩ := hw9
      rw [e9] at hP hD
      refine W.widen (k := 0) (n := 0) (by decide +kernel) (by decide +kernel) ?_
      refine lv_if_eq (tgt := 99) hx hb d_Mod_kindOf_92 (by decide) (fun hc7 => ?_) (fun hc7 => ?_)
      · refine lv_iload_n hx hb d_Mod_kindOf_99 rfl (lv_at hl 2 rfl) ?_
        refine go_iS (As := [.int (r_Mod_byteOf S (v1) (0 : Int32))]) (g := g) (A := A) (h := shM) hP hK hD hS hA hN (fun hp => va_runS (As := [.int (r_Mod_byteOf S (v1) (0 : Int32))]) (rest := []) ⟨hx, hb, hml, hown, htt⟩ (a_Mod_isDigit l g _ ad S (r_Mod_byteOf S (v1) (0 : Int32))) ⟨(cb_L htt k_2777 k_276 k_2775 hd_Mod_isDigit ⟨(by decide +kernel), (by decide +kernel)⟩), htt _ k_2776⟩ hp rfl rfl hl.1 rfl (lv_room (Nat.le_of_ble_eq_true rfl)) d_Mod_kindOf_100 ⟨(by decide +kernel), (by decide +kernel)⟩) (fun r9 Sn_6 H locs hw9 hP hD hS => ?_)
        obtain ⟨rfl, e9⟩ := hw9
        rw [e9] at hP hD
        refine W.widen (k := 0) (n := 0) (by decide +kernel) (by decide +kernel) ?_
        refine lv_if_ne (tgt := 119) hx hb d_Mod_kindOf_103 (by decide) (fun hc8 => ?_) (fun hc8 => ?_)
        · refine lv_iconst (v := 2) hx hb d_Mod_kindOf_119 (by decide) ?_
          show W _ _ _ _ _ _ _ _ _ _ _ _ _ _ _ (F0 _ 120 _ _)
          refine lv_goto (tgt := 124) hx hb d_Mod_kindOf_120 (by decide) ?_
          exact fin_i (g := g) (ws := Sw shM g ad S) (v := 2) hx hb hr hlocks (by decide +kernel) (by decide +kernel) hP hD hS ⟨_, rfl, (by unfold r_Mod_kindOf; rw [if_pos hc1, if_pos hc7, if_neg hc8]), rfl⟩ d_Mod_kindOf_124
        · refine lv_iload_n hx hb d_Mod_kindOf_106 rfl (lv_at hl 2 rfl) ?_
          show W _ _ _ _ _ _ _ _ _ _ _ _ _ _ _ (F0 _ 107 _ _)
          refine lv_bipush (v := 46) hx hb d_Mod_kindOf_107 (by decide) ?_
          refine lv_icmp_ne (tgt := 123) hx hb d_Mod_kindOf_109 (by decide) (fun hc9 => ?_) (fun hc9 => ?_)
          · refine lv_iconst (v := 5) hx hb d_Mod_kindOf_123 (by decide) ?_
            exact fin_i (g := g) (ws := Sw shM g ad S) (v := 5) hx hb hr hlocks (by decide +kernel) (by decide +kernel) hP hD hS ⟨_, rfl, (by unfold r_Mod_kindOf; rw [if_pos hc1, if_pos hc7, if_pos hc8, if_neg hc9]), rfl⟩ d_Mod_kindOf_124
          · refine lv_iload_n hx hb d_Mod_kindOf_112 rfl (lv_at hl 1 rfl) ?_
            refine go_iS (As := [.int (-1)]) (g := g) (A := A) (h := shM) hP hK hD hS hA hN (fun hp => va_runS (As := [.int (-1)]) (rest := []) ⟨hx, hb, hml, hown, htt⟩ (a_Mod_isDigit l g _ ad S ((-1) : Int32)) ⟨(cb_L htt k_2777 k_276 k_2775 hd_Mod_isDigit ⟨(by decide +kernel), (by decide +kernel)⟩), htt _ k_2776⟩ hp rfl rfl hl.1 rfl (lv_room (Nat.le_of_ble_eq_true rfl)) d_Mod_kindOf_113 ⟨(by decide +kernel), (by decide +kernel)⟩) (fun r9 Sn_7 H locs hw9 hP hD hS => ?_)
            obtain ⟨rfl, e9⟩ := hw9
            rw [e9] at hP hD
            refine W.widen (k := 0) (n := 0) (by decide +kernel) (by decide +kernel) ?_
            refine lv_if_eq (tgt := 123) hx hb d_Mod_kindOf_116 (by decide) (fun hc10 => ?_) (fun hc10 => ?_)
            · refine lv_iconst (v := 5) hx hb d_Mod_kindOf_123 (by decide) ?_
              exact fin_i (g := g) (ws := Sw shM g ad S) (v := 5) hx hb hr hlocks (by decide +kernel) (by decide +kernel) hP hD hS ⟨_, rfl, (by unfold r_Mod_kindOf; rw [if_pos hc1, if_pos hc7, if_pos hc8, if_pos hc9, if_pos hc10]), rfl⟩ d_Mod_kindOf_124
            · refine lv_iconst (v := 2) hx hb d_Mod_kindOf_119 (by decide) ?_
              refine lv_goto (tgt := 124) hx hb d_Mod_kindOf_120 (by decide) ?_
              exact fin_i (g := g) (ws := Sw shM g ad S) (v := 2) hx hb hr hlocks (by decide +kernel) (by decide +kernel) hP hD hS ⟨_, rfl, (by unfold r_Mod_kindOf; rw [if_pos hc1, if_pos hc7, if_pos hc8, if_pos hc9, if_neg hc10]), rfl⟩ d_Mod_kindOf_124
      · refine lv_iconst (v := 1) hx hb d_Mod_kindOf_95 (by decide) ?_
        refine lv_goto (tgt := 124) hx hb d_Mod_kindOf_96 (by decide) ?_
        exact fin_i (g := g) (ws := Sw shM g ad S) (v := 1) hx hb hr hlocks (by decide +kernel) (by decide +kernel) hP hD hS ⟨_, rfl, (by unfold r_Mod_kindOf; rw [if_pos hc1, if_neg hc7]), rfl⟩ d_Mod_kindOf_124
  · refine lv_aload_n hx hb d_Mod_kindOf_17 rfl (lv_at hl 1 rfl) ?_
    show W _ _ _ _ _ _ _ _ _ _ _ _ _ _ _ (F0 _ 18 _ _)
    refine lv_iload_n hx hb d_Mod_kindOf_18 rfl (lv_at hl 2 rfl) ?_
    refine lv_iconst (v := 1) hx hb d_Mod_kindOf_19 (by decide) ?_
    refine go_iS (As := [.ref (ad 0), .int v1, .int 1]) (g := g) (A := A) (h := shM) hP hK hD hS hA hN (fun hp => va_runV (As := [.int v1, .int 1]) (rest := []) ⟨hx, hb, hml, hown, htt⟩ (a_Mod_byteOf l g _ ad S (v1) (1 : Int32) (hb3 hc1) (hb4 hc1)) ⟨(cb_L htt k_3016 k_276 k_3013 hd_Mod_byteOf ⟨(by decide +kernel), (by decide +kernel)⟩), htt _ k_3015, htt _ k_193⟩ ⟨hp.1, S_recv hK hP 0 rfl rfl, hp.2⟩ rfl rfl hl.1 rfl (lv_room (Nat.le_of_ble_eq_true rfl)) d_Mod_kindOf_20 ⟨(by decide +kernel), (by decide +kernel)⟩) (fun r9 Sn_8 H locs hw9 hP hD hS => ?_)
    obtain ⟨rfl, e9⟩ := hw9
    rw [e9] at hP hD
    refine W.widen (k := 0) (n := 0) (by decide +kernel) (by decide +kernel) ?_
    refine lv_goto (tgt := 27) hx hb d_Mod_kindOf_23 (by decide) ?_
    refine lv_istore_n (lv' := [(3, .int (r_Mod_byteOf S (v1) (1 : Int32))), (2, .int (r_Mod_byteOf S (v1) (0 : Int32))), (0, .ref (ad 0)), (1, .int v1)]) hx hb d_Mod_kindOf_27 rfl hl (by decide) rfl (fun ls hl => ?_)
    refine lv_iload_n hx hb d_Mod_kindOf_28 rfl (lv_at hl 1 rfl) ?_
    refine lv_bipush (v := 76) hx hb d_Mod_kindOf_29 (by decide) ?_
    refine lv_icmp_ne (tgt := 50) hx hb d_Mod_kindOf_31 (by decide) (fun hc11 => ?_) (fun hc11 => ?_)
    · refine lv_iload_n hx hb d_Mod_kindOf_50 rfl (lv_at hl 0 rfl) ?_
      refine lv_if_lt (tgt := 58) hx hb d_Mod_kindOf_51 (by decide) (fun hc12 => ?_) (fun hc12 => ?_)
      · refine lv_iconst (v := (-1)) hx hb d_Mod_kindOf_58 (by decide) ?_
        refine lv_istore (lv' := [(4, .int (-1)), (3, .int (r_Mod_byteOf S (v1) (1 : Int32))), (2, .int (r_Mod_byteOf S (v1) (0 : Int32))), (0, .ref (ad 0)), (1, .int v1)]) hx hb d_Mod_kindOf_59 hl (by decide) rfl (fun ls hl => ?_)
        refine lv_iload hx hb d_Mod_kindOf_61 (lv_at hl 0 rfl) ?_
        refine lv_bipush (v := 34) hx hb d_Mod_kindOf_63 (by decide) ?_
        show W _ _ _ _ _ _ _ _ _ _ _ _ _ _ _ (F0 _ 65 _ _)
        refine lv_icmp_eq (tgt := 75) hx hb d_Mod_kindOf_65 (by decide) (fun h9 => absurd h9 (by decide)) (fun _ => ?_)
        refine lv_iload hx hb d_Mod_kindOf_68 (lv_at hl 0 rfl) ?_
        refine lv_bipush (v := 39) hx hb d_Mod_kindOf_70 (by decide) ?_
        refine lv_icmp_ne (tgt := 88) hx hb d_Mod_kindOf_72 (by decide) (fun _ => ?_) (fun h9 => absurd h9 (by decide))
        refine lv_iload_n hx hb d_Mod_kindOf_88 rfl (lv_at hl 2 rfl) ?_
        refine go_iS (As := [.int (r_Mod_byteOf S (v1) (0 : Int32))]) (g := g) (A := A) (h := shM) hP hK hD hS hA hN (fun hp => va_runS (As := [.int (r_Mod_byteOf S (v1) (0 : Int32))]) (rest := []) ⟨hx, hb, hml, hown, htt⟩ (a_Mod_isLetter l g _ ad S (r_Mod_byteOf S (v1) (0 : Int32))) ⟨(cb_L htt k_2774 k_276 k_2772 hd_Mod_isLetter ⟨(by decide +kernel), (by decide +kernel)⟩), htt _ k_2773⟩ hp rfl rfl hl.1 rfl (lv_room (Nat.le_of_ble_eq_true rfl)) d_Mod_kindOf_89 ⟨(by decide +kernel), (by decide +kernel)⟩) (fun r9 Sn_9 H locs hw9 hP hD hS => ?_)
        obtain ⟨rfl, e9⟩ := hw9
        rw [e9] at hP hD
        refine W.widen (k := 0) (n := 0) (by decide +kernel) (by decide +kernel) ?_
        refine lv_if_eq (tgt := 99) hx hb d_Mod_kindOf_92 (by decide) (fun hc13 => ?_) (fun hc13 => ?_)
        · refine lv_iload_n hx hb d_Mod_kindOf_99 rfl (lv_at hl 2 rfl) ?_
          refine go_iS (As := [.int (r_Mod_byteOf S (v1) (0 : Int32))]) (g := g) (A := A) (h := shM) hP hK hD hS hA hN (fun hp => va_runS (As := [.int (r_Mod_byteOf S (v1) (0 : Int32))]) (rest := []) ⟨hx, hb, hml, hown, htt⟩ (a_Mod_isDigit l g _ ad S (r_Mod_byteOf S (v1) (0 : Int32))) ⟨(cb_L htt k_2777 k_276 k_2775 hd_Mod_isDigit ⟨(by decide +kernel), (by decide +kernel)⟩), htt _ k_2776⟩ hp rfl rfl hl.1 rfl (lv_room (Nat.le_of_ble_eq_true rfl)) d_Mod_kindOf_100 ⟨(by decide +kernel), (by decide +kernel)⟩) (fun r9 Sn_10 H locs hw9 hP hD hS => ?_)
          obtain ⟨rfl, e9⟩ := hw9
          rw [e9] at hP hD
          refine W.widen (k := 0) (n := 0) (by decide +kernel) (by decide +kernel) ?_
          refine lv_if_ne (tgt := 119) hx hb d_Mod_kindOf_103 (by decide) (fun hc14 => ?_) (fun hc14 => ?_)
          · refine lv_iconst (v := 2) hx hb d_Mod_kindOf_119 (by decide) ?_
            refine lv_goto (tgt := 124) hx hb d_Mod_kindOf_120 (by decide) ?_
            exact fin_i (g := g) (ws := Sw shM g ad S) (v := 2) hx hb hr hlocks (by decide +kernel) (by decide +kernel) hP hD hS ⟨_, rfl, (by unfold r_Mod_kindOf; rw [if_neg hc1, if_neg hc11, if_pos hc12, if_pos hc13, if_neg hc14]), rfl⟩ d_Mod_kindOf_124
          · refine lv_iload_n hx hb d_Mod_kindOf_106 rfl (lv_at hl 2 rfl) ?_
            refine lv_bipush (v := 46) hx hb d_Mod_kindOf_107 (by decide) ?_
            refine lv_icmp_ne (tgt := 123) hx hb d_Mod_kindOf_109 (by decide) (fun hc15 => ?_) (fun hc15 => ?_)
            · refine lv_iconst (v := 5) hx hb d_Mod_kindOf_123 (by decide) ?_
              exact fin_i (g := g) (ws := Sw shM g ad S) (v := 5) hx hb hr hlocks (by decide +kernel) (by decide +kernel) hP hD hS ⟨_, rfl, (by unfold r_Mod_kindOf; rw [if_neg hc1, if_neg hc11, if_pos hc12, if_pos hc13, if_pos hc14, if_neg hc15]), rfl⟩ d_Mod_kindOf_124
            · refine lv_iload_n hx hb d_Mod_kindOf_112 rfl (lv_at hl 1 rfl) ?_
              refine go_iS (As := [.int (r_Mod_byteOf S (v1) (1 : Int32))]) (g := g) (A := A) (h := shM) hP hK hD hS hA hN (fun hp => va_runS (As := [.int (r_Mod_byteOf S (v1) (1 : Int32))]) (rest := []) ⟨hx, hb, hml, hown, htt⟩ (a_Mod_isDigit l g _ ad S (r_Mod_byteOf S (v1) (1 : Int32))) ⟨(cb_L htt k_2777 k_276 k_2775 hd_Mod_isDigit ⟨(by decide +kernel), (by decide +kernel)⟩), htt _ k_2776⟩ hp rfl rfl hl.1 rfl (lv_room (Nat.le_of_ble_eq_true rfl)) d_Mod_kindOf_113 ⟨(by decide +kernel), (by decide +kernel)⟩) (fun r9 Sn_11 H locs hw9 hP hD hS => ?_)
              obtain ⟨rfl, e9⟩ := hw9
              rw [e9] at hP hD
              refine W.widen (k := 0) (n := 0) (by decide +kernel) (by decide +kernel) ?_
              refine lv_if_eq (tgt := 123) hx hb d_Mod_kindOf_116 (by decide) (fun hc16 => ?_) (fun hc16 => ?_)
              · show W _ _ _ _ _ _ _ _ _ _ _ _ _ _ _ (F0 _ 123 _ _)
                refine lv_iconst (v := 5) hx hb d_Mod_kindOf_123 (by decide) ?_
                exact fin_i (g := g) (ws := Sw shM g ad S) (v := 5) hx hb hr hlocks (by decide +kernel) (by decide +kernel) hP hD hS ⟨_, rfl, (by unfold r_Mod_kindOf; rw [if_neg hc1, if_neg hc11, if_pos hc12, if_pos hc13, if_pos hc14, if_pos hc15, if_pos hc16]), rfl⟩ d_Mod_kindOf_124
              · show W _ _ _ _ _ _ _ _ _ _ _ _ _ _ _ (F0 _ 119 _ _)
                refine lv_iconst (v := 2) hx hb d_Mod_kindOf_119 (by decide) ?_
                refine lv_goto (tgt := 124) hx hb d_Mod_kindOf_120 (by decide) ?_
                exact fin_i (g := g) (ws := Sw shM g ad S) (v := 2) hx hb hr hlocks (by decide +kernel) (by decide +kernel) hP hD hS ⟨_, rfl, (by unfold r_Mod_kindOf; rw [if_neg hc1, if_neg hc11, if_pos hc12, if_pos hc13, if_pos hc14, if_pos hc15, if_neg hc16]), rfl⟩ d_Mod_kindOf_124
        · refine lv_iconst (v := 1) hx hb d_Mod_kindOf_95 (by decide) ?_
          refine lv_goto (tgt := 124) hx hb d_Mod_kindOf_96 (by decide) ?_
          exact fin_i (g := g) (ws := Sw shM g ad S) (v := 1) hx hb hr hlocks (by decide +kernel) (by decide +kernel) hP hD hS ⟨_, rfl, (by unfold r_Mod_kindOf; rw [if_neg hc1, if_neg hc11, if_pos hc12, if_neg hc13]), rfl⟩ d_Mod_kindOf_124
      · refine lv_iload_n hx hb d_Mod_kindOf_54 rfl (lv_at hl 1 rfl) ?_
        refine lv_goto (tgt := 59) hx hb d_Mod_kindOf_55 (by decide) ?_
        refine lv_istore (lv' := [(4, .int (r_Mod_byteOf S (v1) (0 : Int32))), (3, .int (r_Mod_byteOf S (v1) (1 : Int32))), (2, .int (r_Mod_byteOf S (v1) (0 : Int32))), (0, .ref (ad 0)), (1, .int v1)]) hx hb d_Mod_kindOf_59 hl (by decide) rfl (fun ls hl => ?_)
        refine lv_iload hx hb d_Mod_kindOf_61 (lv_at hl 0 rfl) ?_
        show W _ _ _ _ _ _ _ _ _ _ _ _ _ _ _ (F0 _ 63 _ _)
        refine lv_bipush (v := 34) hx hb d_Mod_kindOf_63 (by decide) ?_
        refine lv_icmp_eq (tgt := 75) hx hb d_Mod_kindOf_65 (by decide) (fun hc17 => ?_) (fun hc17 => ?_)
        · refine lv_iload hx hb d_Mod_kindOf_75 (lv_at hl 0 rfl) ?_
          refine lv_bipush (v := 34) hx hb d_Mod_kindOf_77 (by decide) ?_
          refine lv_icmp_ne (tgt := 86) hx hb d_Mod_kindOf_79 (by decide) (fun h9 => absurd hc17 h9) (fun _ => ?_)
          refine lv_iconst (v := 3) hx hb d_Mod_kindOf_82 (by decide) ?_
          refine lv_goto (tgt := 87) hx hb d_Mod_kindOf_83 (by decide) ?_
          exact fin_i (g := g) (ws := Sw shM g ad S) (v := 3) hx hb hr hlocks (by decide +kernel) (by decide +kernel) hP hD hS ⟨_, rfl, (by unfold r_Mod_kindOf; rw [if_neg hc1, if_neg hc11, if_neg hc12, if_pos hc17]), rfl⟩ d_Mod_kindOf_87
        · refine lv_iload hx hb d_Mod_kindOf_68 (lv_at hl 0 rfl) ?_
          refine lv_bipush (v := 39) hx hb d_Mod_kindOf_70 (by decide) ?_
          refine lv_icmp_ne (tgt := 88) hx hb d_Mod_kindOf_72 (by decide) (fun hc18 => ?_) (fun hc18 => ?_)
          · refine lv_iload_n hx hb d_Mod_kindOf_88 rfl (lv_at hl 2 rfl) ?_
            refine go_iS (As := [.int (r_Mod_byteOf S (v1) (0 : Int32))]) (g := g) (A := A) (h := shM) hP hK hD hS hA hN (fun hp => va_runS (As := [.int (r_Mod_byteOf S (v1) (0 : Int32))]) (rest := []) ⟨hx, hb, hml, hown, htt⟩ (a_Mod_isLetter l g _ ad S (r_Mod_byteOf S (v1) (0 : Int32))) ⟨(cb_L htt k_2774 k_276 k_2772 hd_Mod_isLetter ⟨(by decide +kernel), (by decide +kernel)⟩), htt _ k_2773⟩ hp rfl rfl hl.1 rfl (lv_room (Nat.le_of_ble_eq_true rfl)) d_Mod_kindOf_89 ⟨(by decide +kernel), (by decide +kernel)⟩) (fun r9 Sn_12 H locs hw9 hP hD hS => ?_)
            obtain ⟨rfl, e9⟩ := hw9
            rw [e9] at hP hD
            refine W.widen (k := 0) (n := 0) (by decide +kernel) (by decide +kernel) ?_
            refine lv_if_eq (tgt := 99) hx hb d_Mod_kindOf_92 (by decide) (fun hc19 => ?_) (fun hc19 => ?_)
            · refine lv_iload_n hx hb d_Mod_kindOf_99 rfl (lv_at hl 2 rfl) ?_
              refine go_iS (As := [.int (r_Mod_byteOf S (v1) (0 : Int32))]) (g := g) (A := A) (h := shM) hP hK hD hS hA hN (fun hp => va_runS (As := [.int (r_Mod_byteOf S (v1) (0 : Int32))]) (rest := []) ⟨hx, hb, hml, hown, htt⟩ (a_Mod_isDigit l g _ ad S (r_Mod_byteOf S (v1) (0 : Int32))) ⟨(cb_L htt k_2777 k_276 k_2775 hd_Mod_isDigit ⟨(by decide +kernel), (by decide +kernel)⟩), htt _ k_2776⟩ hp rfl rfl hl.1 rfl (lv_room (Nat.le_of_ble_eq_true rfl)) d_Mod_kindOf_100 ⟨(by decide +kernel), (by decide +kernel)⟩) (fun r9 Sn_13 H locs hw9 hP hD hS => ?_)
              obtain ⟨rfl, e9⟩ := hw9
              rw [e9] at hP hD
              refine W.widen (k := 0) (n := 0) (by decide +kernel) (by decide +kernel) ?_
              refine lv_if_ne (tgt := 119) hx hb d_Mod_kindOf_103 (by decide) (fun hc20 => ?_) (fun hc20 => ?_)
              · refine lv_iconst (v := 2) hx hb d_Mod_kindOf_119 (by decide) ?_
                refine lv_goto (tgt := 124) hx hb d_Mod_kindOf_120 (by decide) ?_
                exact fin_i (g := g) (ws := Sw shM g ad S) (v := 2) hx hb hr hlocks (by decide +kernel) (by decide +kernel) hP hD hS ⟨_, rfl, (by unfold r_Mod_kindOf; rw [if_neg hc1, if_neg hc11, if_neg hc12, if_neg hc17, if_neg hc18, if_pos hc19, if_neg hc20]), rfl⟩ d_Mod_kindOf_124
              · refine lv_iload_n hx hb d_Mod_kindOf_106 rfl (lv_at hl 2 rfl) ?_
                refine lv_bipush (v := 46) hx hb d_Mod_kindOf_107 (by decide) ?_
                refine lv_icmp_ne (tgt := 123) hx hb d_Mod_kindOf_109 (by decide) (fun hc21 => ?_) (fun hc21 => ?_)
                · refine lv_iconst (v := 5) hx hb d_Mod_kindOf_123 (by decide) ?_
                  exact fin_i (g := g) (ws := Sw shM g ad S) (v := 5) hx hb hr hlocks (by decide +kernel) (by decide +kernel) hP hD hS ⟨_, rfl, (by unfold r_Mod_kindOf; rw [if_neg hc1, if_neg hc11, if_neg hc12, if_neg hc17, if_neg hc18, if_pos hc19, if_pos hc20, if_neg hc21]), rfl⟩ d_Mod_kindOf_124
                · refine lv_iload_n hx hb d_Mod_kindOf_112 rfl (lv_at hl 1 rfl) ?_
                  refine go_iS (As := [.int (r_Mod_byteOf S (v1) (1 : Int32))]) (g := g) (A := A) (h := shM) hP hK hD hS hA hN (fun hp => va_runS (As := [.int (r_Mod_byteOf S (v1) (1 : Int32))]) (rest := []) ⟨hx, hb, hml, hown, htt⟩ (a_Mod_isDigit l g _ ad S (r_Mod_byteOf S (v1) (1 : Int32))) ⟨(cb_L htt k_2777 k_276 k_2775 hd_Mod_isDigit ⟨(by decide +kernel), (by decide +kernel)⟩), htt _ k_2776⟩ hp rfl rfl hl.1 rfl (lv_room (Nat.le_of_ble_eq_true rfl)) d_Mod_kindOf_113 ⟨(by decide +kernel), (by decide +kernel)⟩) (fun r9 Sn_14 H locs hw9 hP hD hS => ?_)
                  obtain ⟨rfl, e9⟩ := hw9
                  rw [e9] at hP hD
                  refine W.widen (k := 0) (n := 0) (by decide +kernel) (by decide +kernel) ?_
                  refine lv_if_eq (tgt := 123) hx hb d_Mod_kindOf_116 (by decide) (fun hc22 => ?_) (fun hc22 => ?_)
                  · refine lv_iconst (v := 5) hx hb d_Mod_kindOf_123 (by decide) ?_
                    show W _ _ _ _ _ _ _ _ _ _ _ _ _ _ _ (F0 _ 124 _ _)
                    exact fin_i (g := g) (ws := Sw shM g ad S) (v := 5) hx hb hr hlocks (by decide +kernel) (by decide +kernel) hP hD hS ⟨_, rfl, (by unfold r_Mod_kindOf; rw [if_neg hc1, if_neg hc11, if_neg hc12, if_neg hc17, if_neg hc18, if_pos hc19, if_pos hc20, if_pos hc21, if_pos hc22]), rfl⟩ d_Mod_kindOf_124
                  · refine lv_iconst (v := 2) hx hb d_Mod_kindOf_119 (by decide) ?_
                    show W _ _ _ _ _ _ _ _ _ _ _ _ _ _ _ (F0 _ 120 _ _)
                    refine lv_goto (tgt := 124) hx hb d_Mod_kindOf_120 (by decide) ?_
                    exact fin_i (g := g) (ws := Sw shM g ad S) (v := 2) hx hb hr hlocks (by decide +kernel) (by decide +kernel) hP hD hS ⟨_, rfl, (by unfold r_Mod_kindOf; rw [if_neg hc1, if_neg hc11, if_neg hc12, if_neg hc17, if_neg hc18, if_pos hc19, if_pos hc20, if_pos hc21, if_neg hc22]), rfl⟩ d_Mod_kindOf_124
            · refine lv_iconst (v := 1) hx hb d_Mod_kindOf_95 (by decide) ?_
              refine lv_goto (tgt := 124) hx hb d_Mod_kindOf_96 (by decide) ?_
              exact fin_i (g := g) (ws := Sw shM g ad S) (v := 1) hx hb hr hlocks (by decide +kernel) (by decide +kernel) hP hD hS ⟨_, rfl, (by unfold r_Mod_kindOf; rw [if_neg hc1, if_neg hc11, if_neg hc12, if_neg hc17, if_neg hc18, if_neg hc19]), rfl⟩ d_Mod_kindOf_124
          · refine lv_iload hx hb d_Mod_kindOf_75 (lv_at hl 0 rfl) ?_
            refine lv_bipush (v := 34) hx hb d_Mod_kindOf_77 (by decide) ?_
            refine lv_icmp_ne (tgt := 86) hx hb d_Mod_kindOf_79 (by decide) (fun _ => ?_) (fun h9 => absurd h9 hc17)
            refine lv_iconst (v := 4) hx hb d_Mod_kindOf_86 (by decide) ?_
            exact fin_i (g := g) (ws := Sw shM g ad S) (v := 4) hx hb hr hlocks (by decide +kernel) (by decide +kernel) hP hD hS ⟨_, rfl, (by unfold r_Mod_kindOf; rw [if_neg hc1, if_neg hc11, if_neg hc12, if_neg hc17, if_pos hc18]), rfl⟩ d_Mod_kindOf_87
    · refine lv_iload_n hx hb d_Mod_kindOf_34 rfl (lv_at hl 0 rfl) ?_
      refine lv_bipush (v := 34) hx hb d_Mod_kindOf_35 (by decide) ?_
      refine lv_icmp_eq (tgt := 46) hx hb d_Mod_kindOf_37 (by decide) (fun hc23 => ?_) (fun hc23 => ?_)
      · refine lv_iload_n hx hb d_Mod_kindOf_46 rfl (lv_at hl 0 rfl) ?_
        refine lv_goto (tgt := 59) hx hb d_Mod_kindOf_47 (by decide) ?_
        refine lv_istore (lv' := [(4, .int (r_Mod_byteOf S (v1) (1 : Int32))), (3, .int (r_Mod_byteOf S (v1) (1 : Int32))), (2, .int (r_Mod_byteOf S (v1) (0 : Int32))), (0, .ref (ad 0)), (1, .int v1)]) hx hb d_Mod_kindOf_59 hl (by decide) rfl (fun ls hl => ?_)
        show W _ _ _ _ _ _ _ _ _ _ _ _ _ _ _ (F0 _ 61 _ _)
        refine lv_iload hx hb d_Mod_kindOf_61 (lv_at hl 0 rfl) ?_
        refine lv_bipush (v := 34) hx hb d_Mod_kindOf_63 (by decide) ?_
        refine lv_icmp_eq (tgt := 75) hx hb d_Mod_kindOf_65 (by decide) (fun _ => ?_) (fun h9 => absurd hc23 h9)
        refine lv_iload hx hb d_Mod_kindOf_75 (lv_at hl 0 rfl) ?_
        refine lv_bipush (v := 34) hx hb d_Mod_kindOf_77 (by decide) ?_
        refine lv_icmp_ne (tgt := 86) hx hb d_Mod_kindOf_79 (by decide) (fun h9 => absurd hc23 h9) (fun _ => ?_)
        refine lv_iconst (v := 3) hx hb d_Mod_kindOf_82 (by decide) ?_
        refine lv_goto (tgt := 87) hx hb d_Mod_kindOf_83 (by decide) ?_
        exact fin_i (g := g) (ws := Sw shM g ad S) (v := 3) hx hb hr hlocks (by decide +kernel) (by decide +kernel) hP hD hS ⟨_, rfl, (by unfold r_Mod_kindOf; rw [if_neg hc1, if_pos hc11, if_pos hc23]), rfl⟩ d_Mod_kindOf_87
      · refine lv_iload_n hx hb d_Mod_kindOf_40 rfl (lv_at hl 0 rfl) ?_
        refine lv_bipush (v := 39) hx hb d_Mod_kindOf_41 (by decide) ?_
        refine lv_icmp_ne (tgt := 50) hx hb d_Mod_kindOf_43 (by decide) (fun hc24 => ?_) (fun hc24 => ?_)
        · refine lv_iload_n hx hb d_Mod_kindOf_50 rfl (lv_at hl 0 rfl) ?_
          refine lv_if_lt (tgt := 58) hx hb d_Mod_kindOf_51 (by decide) (fun hc25 => ?_) (fun hc25 => ?_)
          · show W _ _ _ _ _ _ _ _ _ _ _ _ _ _ _ (F0 _ 58 _ _)
            refine lv_iconst (v := (-1)) hx hb d_Mod_kindOf_58 (by decide) ?_
            refine lv_istore (lv' := [(4, .int (-1)), (3, .int (r_Mod_byteOf S (v1) (1 : Int32))), (2, .int (r_Mod_byteOf S (v1) (0 : Int32))), (0, .ref (ad 0)), (1, .int v1)]) hx hb d_Mod_kindOf_59 hl (by decide) rfl (fun ls hl => ?_)
            refine lv_iload hx hb d_Mod_kindOf_61 (lv_at hl 0 rfl) ?_
            refine lv_bipush (v := 34) hx hb d_Mod_kindOf_63 (by decide) ?_
            refine lv_icmp_eq (tgt := 75) hx hb d_Mod_kindOf_65 (by decide) (fun h9 => absurd h9 (by decide)) (fun _ => ?_)
            refine lv_iload hx hb d_Mod_kindOf_68 (lv_at hl 0 rfl) ?_
            refine lv_bipush (v := 39) hx hb d_Mod_kindOf_70 (by decide) ?_
            refine lv_icmp_ne (tgt := 88) hx hb d_Mod_kindOf_72 (by decide) (fun _ => ?_) (fun h9 => absurd h9 (by decide))
            refine lv_iload_n hx hb d_Mod_kindOf_88 rfl (lv_at hl 2 rfl) ?_
            refine go_iS (As := [.int (r_Mod_byteOf S (v1) (0 : Int32))]) (g := g) (A := A) (h := shM) hP hK hD hS hA hN (fun hp => va_runS (As := [.int (r_Mod_byteOf S (v1) (0 : Int32))]) (rest := []) ⟨hx, hb, hml, hown, htt⟩ (a_Mod_isLetter l g _ ad S (r_Mod_byteOf S (v1) (0 : Int32))) ⟨(cb_L htt k_2774 k_276 k_2772 hd_Mod_isLetter ⟨(by decide +kernel), (by decide +kernel)⟩), htt _ k_2773⟩ hp rfl rfl hl.1 rfl (lv_room (Nat.le_of_ble_eq_true rfl)) d_Mod_kindOf_89 ⟨(by decide +kernel), (by decide +kernel)⟩) (fun r9 Sn_15 H locs hw9 hP hD hS => ?_)
            obtain ⟨rfl, e9⟩ := hw9
            rw [e9] at hP hD
            refine W.widen (k := 0) (n := 0) (by decide +kernel) (by decide +kernel) ?_
            refine lv_if_eq (tgt := 99) hx hb d_Mod_kindOf_92 (by decide) (fun hc26 => ?_) (fun hc26 => ?_)
            · refine lv_iload_n hx hb d_Mod_kindOf_99 rfl (lv_at hl 2 rfl) ?_
              refine go_iS (As := [.int (r_Mod_byteOf S (v1) (0 : Int32))]) (g := g) (A := A) (h := shM) hP hK hD hS hA hN (fun hp => va_runS (As := [.int (r_Mod_byteOf S (v1) (0 : Int32))]) (rest := []) ⟨hx, hb, hml, hown, htt⟩ (a_Mod_isDigit l g _ ad S (r_Mod_byteOf S (v1) (0 : Int32))) ⟨(cb_L htt k_2777 k_276 k_2775 hd_Mod_isDigit ⟨(by decide +kernel), (by decide +kernel)⟩), htt _ k_2776⟩ hp rfl rfl hl.1 rfl (lv_room (Nat.le_of_ble_eq_true rfl)) d_Mod_kindOf_100 ⟨(by decide +kernel), (by decide +kernel)⟩) (fun r9 Sn_16 H locs hw9 hP hD hS => ?_)
              obtain ⟨rfl, e9⟩ := hw9
              rw [e9] at hP hD
              refine W.widen (k := 0) (n := 0) (by decide +kernel) (by decide +kernel) ?_
              refine lv_if_ne (tgt := 119) hx hb d_Mod_kindOf_103 (by decide) (fun hc27 => ?_) (fun hc27 => ?_)
              · show W _ _ _ _ _ _ _ _ _ _ _ _ _ _ _ (F0 _ 119 _ _)
                refine lv_iconst (v := 2) hx hb d_Mod_kindOf_119 (by decide) ?_
                refine lv_goto (tgt := 124) hx hb d_Mod_kindOf_120 (by decide) ?_
                exact fin_i (g := g) (ws := Sw shM g ad S) (v := 2) hx hb hr hlocks (by decide +kernel) (by decide +kernel) hP hD hS ⟨_, rfl, (by unfold r_Mod_kindOf; rw [if_neg hc1, if_pos hc11, if_neg hc23, if_neg hc24, if_pos hc25, if_pos hc26, if_neg hc27]), rfl⟩ d_Mod_kindOf_124
              · show W _ _ _ _ _ _ _ _ _ _ _ _ _ _ _ (F0 _ 106 _ _)
                refine lv_iload_n hx hb d_Mod_kindOf_106 rfl (lv_at hl 2 rfl) ?_
                refine lv_bipush (v := 46) hx hb d_Mod_kindOf_107 (by decide) ?_
                refine lv_icmp_ne (tgt := 123) hx hb d_Mod_kindOf_109 (by decide) (fun hc28 => ?_) (fun hc28 => ?_)
                · refine lv_iconst (v := 5) hx hb d_Mod_kindOf_123 (by decide) ?_
                  exact fin_i (g := g) (ws := Sw shM g ad S) (v := 5) hx hb hr hlocks (by decide +kernel) (by decide +kernel) hP hD hS ⟨_, rfl, (by unfold r_Mod_kindOf; rw [if_neg hc1, if_pos hc11, if_neg hc23, if_neg hc24, if_pos hc25, if_pos hc26, if_pos hc27, if_neg hc28]), rfl⟩ d_Mod_kindOf_124
                · refine lv_iload_n hx hb d_Mod_kindOf_112 rfl (lv_at hl 1 rfl) ?_
                  refine go_iS (As := [.int (r_Mod_byteOf S (v1) (1 : Int32))]) (g := g) (A := A) (h := shM) hP hK hD hS hA hN (fun hp => va_runS (As := [.int (r_Mod_byteOf S (v1) (1 : Int32))]) (rest := []) ⟨hx, hb, hml, hown, htt⟩ (a_Mod_isDigit l g _ ad S (r_Mod_byteOf S (v1) (1 : Int32))) ⟨(cb_L htt k_2777 k_276 k_2775 hd_Mod_isDigit ⟨(by decide +kernel), (by decide +kernel)⟩), htt _ k_2776⟩ hp rfl rfl hl.1 rfl (lv_room (Nat.le_of_ble_eq_true rfl)) d_Mod_kindOf_113 ⟨(by decide +kernel), (by decide +kernel)⟩) (fun r9 Sn_17 H locs hw9 hP hD hS => ?_)
                  obtain ⟨rfl, e9⟩ := hw9
                  rw [e9] at hP hD
                  refine W.widen (k := 0) (n := 0) (by decide +kernel) (by decide +kernel) ?_
                  refine lv_if_eq (tgt := 123) hx hb d_Mod_kindOf_116 (by decide) (fun hc29 => ?_) (fun hc29 => ?_)
                  · refine lv_iconst (v := 5) hx hb d_Mod_kindOf_123 (by decide) ?_
                    exact fin_i (g := g) (ws := Sw shM g ad S) (v := 5) hx hb hr hlocks (by decide +kernel) (by decide +kernel) hP hD hS ⟨_, rfl, (by unfold r_Mod_kindOf; rw [if_neg hc1, if_pos hc11, if_neg hc23, if_neg hc24, if_pos hc25, if_pos hc26, if_pos hc27, if_pos hc28, if_pos hc29]), rfl⟩ d_Mod_kindOf_124
                  · refine lv_iconst (v := 2) hx hb d_Mod_kindOf_119 (by decide) ?_
                    refine lv_goto (tgt := 124) hx hb d_Mod_kindOf_120 (by decide) ?_
                    exact fin_i (g := g) (ws := Sw shM g ad S) (v := 2) hx hb hr hlocks (by decide +kernel) (by decide +kernel) hP hD hS ⟨_, rfl, (by unfold r_Mod_kindOf; rw [if_neg hc1, if_pos hc11, if_neg hc23, if_neg hc24, if_pos hc25, if_pos hc26, if_pos hc27, if_pos hc28, if_neg hc29]), rfl⟩ d_Mod_kindOf_124
            · refine lv_iconst (v := 1) hx hb d_Mod_kindOf_95 (by decide) ?_
              refine lv_goto (tgt := 124) hx hb d_Mod_kindOf_96 (by decide) ?_
              show W _ _ _ _ _ _ _ _ _ _ _ _ _ _ _ (F0 _ 124 _ _)
              exact fin_i (g := g) (ws := Sw shM g ad S) (v := 1) hx hb hr hlocks (by decide +kernel) (by decide +kernel) hP hD hS ⟨_, rfl, (by unfold r_Mod_kindOf; rw [if_neg hc1, if_pos hc11, if_neg hc23, if_neg hc24, if_pos hc25, if_neg hc26]), rfl⟩ d_Mod_kindOf_124
          · show W _ _ _ _ _ _ _ _ _ _ _ _ _ _ _ (F0 _ 54 _ _)
            refine lv_iload_n hx hb d_Mod_kindOf_54 rfl (lv_at hl 1 rfl) ?_
            refine lv_goto (tgt := 59) hx hb d_Mod_kindOf_55 (by decide) ?_
            refine lv_istore (lv' := [(4, .int (r_Mod_byteOf S (v1) (0 : Int32))), (3, .int (r_Mod_byteOf S (v1) (1 : Int32))), (2, .int (r_Mod_byteOf S (v1) (0 : Int32))), (0, .ref (ad 0)), (1, .int v1)]) hx hb d_Mod_kindOf_59 hl (by decide) rfl (fun ls hl => ?_)
            refine lv_iload hx hb d_Mod_kindOf_61 (lv_at hl 0 rfl) ?_
            refine lv_bipush (v := 34) hx hb d_Mod_kindOf_63 (by decide) ?_
            refine lv_icmp_eq (tgt := 75) hx hb d_Mod_kindOf_65 (by decide) (fun hc30 => ?_) (fun hc30 => ?_)
            · refine lv_iload hx hb d_Mod_kindOf_75 (lv_at hl 0 rfl) ?_
              refine lv_bipush (v := 34) hx hb d_Mod_kindOf_77 (by decide) ?_
              refine lv_icmp_ne (tgt := 86) hx hb d_Mod_kindOf_79 (by decide) (fun h9 => absurd hc30 h9) (fun _ => ?_)
              refine lv_iconst (v := 3) hx hb d_Mod_kindOf_82 (by decide) ?_
              refine lv_goto (tgt := 87) hx hb d_Mod_kindOf_83 (by decide) ?_
              exact fin_i (g := g) (ws := Sw shM g ad S) (v := 3) hx hb hr hlocks (by decide +kernel) (by decide +kernel) hP hD hS ⟨_, rfl, (by unfold r_Mod_kindOf; rw [if_neg hc1, if_pos hc11, if_neg hc23, if_neg hc24, if_neg hc25, if_pos hc30]), rfl⟩ d_Mod_kindOf_87
            · refine lv_iload hx hb d_Mod_kindOf_68 (lv_at hl 0 rfl) ?_
              refine lv_bipush (v := 39) hx hb d_Mod_kindOf_70 (by decide) ?_
              refine lv_icmp_ne (tgt := 88) hx hb d_Mod_kindOf_72 (by decide) (fun hc31 => ?_) (fun hc31 => ?_)
              · refine lv_iload_n hx hb d_Mod_kindOf_88 rfl (lv_at hl 2 rfl) ?_
                refine go_iS (As := [.int (r_Mod_byteOf S (v1) (0 : Int32))]) (g := g) (A := A) (h := shM) hP hK hD hS hA hN (fun hp => va_runS (As := [.int (r_Mod_byteOf S (v1) (0 : Int32))]) (rest := []) ⟨hx, hb, hml, hown, htt⟩ (a_Mod_isLetter l g _ ad S (r_Mod_byteOf S (v1) (0 : Int32))) ⟨(cb_L htt k_2774 k_276 k_2772 hd_Mod_isLetter ⟨(by decide +kernel), (by decide +kernel)⟩), htt _ k_2773⟩ hp rfl rfl hl.1 rfl (lv_room (Nat.le_of_ble_eq_true rfl)) d_Mod_kindOf_89 ⟨(by decide +kernel), (by decide +kernel)⟩) (fun r9 Sn_18 H locs hw9 hP hD hS => ?_)
                obtain ⟨rfl, e9⟩ := hw9
                rw [e9] at hP hD
                refine W.widen (k := 0) (n := 0) (by decide +kernel) (by decide +kernel) ?_
                refine lv_if_eq (tgt := 99) hx hb d_Mod_kindOf_92 (by decide) (fun hc32 => ?_) (fun hc32 => ?_)
                · refine lv_iload_n hx hb d_Mod_kindOf_99 rfl (lv_at hl 2 rfl) ?_
                  refine go_iS (As := [.int (r_Mod_byteOf S (v1) (0 : Int32))]) (g := g) (A := A) (h := shM) hP hK hD hS hA hN (fun hp => va_runS (As := [.int (r_Mod_byteOf S (v1) (0 : Int32))]) (rest := []) ⟨hx, hb, hml, hown, htt⟩ (a_Mod_isDigit l g _ ad S (r_Mod_byteOf S (v1) (0 : Int32))) ⟨(cb_L htt k_2777 k_276 k_2775 hd_Mod_isDigit ⟨(by decide +kernel), (by decide +kernel)⟩), htt _ k_2776⟩ hp rfl rfl hl.1 rfl (lv_room (Nat.le_of_ble_eq_true rfl)) d_Mod_kindOf_100 ⟨(by decide +kernel), (by decide +kernel)⟩) (fun r9 Sn_19 H locs hw9 hP hD hS => ?_)
                  obtain ⟨rfl, e9⟩ := hw9
                  rw [e9] at hP hD
                  refine W.widen (k := 0) (n := 0) (by decide +kernel) (by decide +kernel) ?_
                  refine lv_if_ne (tgt := 119) hx hb d_Mod_kindOf_103 (by decide) (fun hc33 => ?_) (fun hc33 => ?_)
                  · refine lv_iconst (v := 2) hx hb d_Mod_kindOf_119 (by decide) ?_
                    show W _ _ _ _ _ _ _ _ _ _ _ _ _ _ _ (F0 _ 120 _ _)
                    refine lv_goto (tgt := 124) hx hb d_Mod_kindOf_120 (by decide) ?_
                    exact fin_i (g := g) (ws := Sw shM g ad S) (v := 2) hx hb hr hlocks (by decide +kernel) (by decide +kernel) hP hD hS ⟨_, rfl, (by unfold r_Mod_kindOf; rw [if_neg hc1, if_pos hc11, if_neg hc23, if_neg hc24, if_neg hc25, if_neg hc30, if_neg hc31, if_pos hc32, if_neg hc33]), rfl⟩ d_Mod_kindOf_124
                  · refine lv_iload_n hx hb d_Mod_kindOf_106 rfl (lv_at hl 2 rfl) ?_
                    show W _ _ _ _ _ _ _ _ _ _ _ _ _ _ _ (F0 _ 107 _ _)
                    refine lv_bipush (v := 46) hx hb d_Mod_kindOf_107 (by decide) ?_
                    refine lv_icmp_ne (tgt := 123) hx hb d_Mod_kindOf_109 (by decide) (fun hc34 => ?_) (fun hc34 => ?_)
                    · refine lv_iconst (v := 5) hx hb d_Mod_kindOf_123 (by decide) ?_
                      exact fin_i (g := g) (ws := Sw shM g ad S) (v := 5) hx hb hr hlocks (by decide +kernel) (by decide +kernel) hP hD hS ⟨_, rfl, (by unfold r_Mod_kindOf; rw [if_neg hc1, if_pos hc11, if_neg hc23, if_neg hc24, if_neg hc25, if_neg hc30, if_neg hc31, if_pos hc32, if_pos hc33, if_neg hc34]), rfl⟩ d_Mod_kindOf_124
                    · refine lv_iload_n hx hb d_Mod_kindOf_112 rfl (lv_at hl 1 rfl) ?_
                      refine go_iS (As := [.int (r_Mod_byteOf S (v1) (1 : Int32))]) (g := g) (A := A) (h := shM) hP hK hD hS hA hN (fun hp => va_runS (As := [.int (r_Mod_byteOf S (v1) (1 : Int32))]) (rest := []) ⟨hx, hb, hml, hown, htt⟩ (a_Mod_isDigit l g _ ad S (r_Mod_byteOf S (v1) (1 : Int32))) ⟨(cb_L htt k_2777 k_276 k_2775 hd_Mod_isDigit ⟨(by decide +kernel), (by decide +kernel)⟩), htt _ k_2776⟩ hp rfl rfl hl.1 rfl (lv_room (Nat.le_of_ble_eq_true rfl)) d_Mod_kindOf_113 ⟨(by decide +kernel), (by decide +kernel)⟩) (fun r9 Sn_20 H locs hw9 hP hD hS => ?_)
                      obtain ⟨rfl, e9⟩ := hw9
                      rw [e9] at hP hD
                      refine W.widen (k := 0) (n := 0) (by decide +kernel) (by decide +kernel) ?_
                      refine lv_if_eq (tgt := 123) hx hb d_Mod_kindOf_116 (by decide) (fun hc35 => ?_) (fun hc35 => ?_)
                      · refine lv_iconst (v := 5) hx hb d_Mod_kindOf_123 (by decide) ?_
                        exact fin_i (g := g) (ws := Sw shM g ad S) (v := 5) hx hb hr hlocks (by decide +kernel) (by decide +kernel) hP hD hS ⟨_, rfl, (by unfold r_Mod_kindOf; rw [if_neg hc1, if_pos hc11, if_neg hc23, if_neg hc24, if_neg hc25, if_neg hc30, if_neg hc31, if_pos hc32, if_pos hc33, if_pos hc34, if_pos hc35]), rfl⟩ d_Mod_kindOf_124
                      · refine lv_iconst (v := 2) hx hb d_Mod_kindOf_119 (by decide) ?_
                        refine lv_goto (tgt := 124) hx hb d_Mod_kindOf_120 (by decide) ?_
                        exact fin_i (g := g) (ws := Sw shM g ad S) (v := 2) hx hb hr hlocks (by decide +kernel) (by decide +kernel) hP hD hS ⟨_, rfl, (by unfold r_Mod_kindOf; rw [if_neg hc1, if_pos hc11, if_neg hc23, if_neg hc24, if_neg hc25, if_neg hc30, if_neg hc31, if_pos hc32, if_pos hc33, if_pos hc34, if_neg hc35]), rfl⟩ d_Mod_kindOf_124
                · refine lv_iconst (v := 1) hx hb d_Mod_kindOf_95 (by decide) ?_
                  refine lv_goto (tgt := 124) hx hb d_Mod_kindOf_96 (by decide) ?_
                  exact fin_i (g := g) (ws := Sw shM g ad S) (v := 1) hx hb hr hlocks (by decide +kernel) (by decide +kernel) hP hD hS ⟨_, rfl, (by unfold r_Mod_kindOf; rw [if_neg hc1, if_pos hc11, if_neg hc23, if_neg hc24, if_neg hc25, if_neg hc30, if_neg hc31, if_neg hc32]), rfl⟩ d_Mod_kindOf_124
              · refine lv_iload hx hb d_Mod_kindOf_75 (lv_at hl 0 rfl) ?_
                refine lv_bipush (v := 34) hx hb d_Mod_kindOf_77 (by decide) ?_
                refine lv_icmp_ne (tgt := 86) hx hb d_Mod_kindOf_79 (by decide) (fun _ => ?_) (fun h9 => absurd h9 hc30)
                refine lv_iconst (v := 4) hx hb d_Mod_kindOf_86 (by decide) ?_
                exact fin_i (g := g) (ws := Sw shM g ad S) (v := 4) hx hb hr hlocks (by decide +kernel) (by decide +kernel) hP hD hS ⟨_, rfl, (by unfold r_Mod_kindOf; rw [if_neg hc1, if_pos hc11, if_neg hc23, if_neg hc24, if_neg hc25, if_neg hc30, if_pos hc31]), rfl⟩ d_Mod_kindOf_87
        · refine lv_iload_n hx hb d_Mod_kindOf_46 rfl (lv_at hl 0 rfl) ?_
          show W _ _ _ _ _ _ _ _ _ _ _ _ _ _ _ (F0 _ 47 _ _)
          refine lv_goto (tgt := 59) hx hb d_Mod_kindOf_47 (by decide) ?_
          refine lv_istore (lv' := [(4, .int (r_Mod_byteOf S (v1) (1 : Int32))), (3, .int (r_Mod_byteOf S (v1) (1 : Int32))), (2, .int (r_Mod_byteOf S (v1) (0 : Int32))), (0, .ref (ad 0)), (1, .int v1)]) hx hb d_Mod_kindOf_59 hl (by decide) rfl (fun ls hl => ?_)
          refine lv_iload hx hb d_Mod_kindOf_61 (lv_at hl 0 rfl) ?_
          refine lv_bipush (v := 34) hx hb d_Mod_kindOf_63 (by decide) ?_
          refine lv_icmp_eq (tgt := 75) hx hb d_Mod_kindOf_65 (by decide) (fun h9 => absurd h9 hc23) (fun _ => ?_)
          refine lv_iload hx hb d_Mod_kindOf_68 (lv_at hl 0 rfl) ?_
          refine lv_bipush (v := 39) hx hb d_Mod_kindOf_70 (by decide) ?_
          refine lv_icmp_ne (tgt := 88) hx hb d_Mod_kindOf_72 (by decide) (fun h9 => absurd hc24 h9) (fun _ => ?_)
          refine lv_iload hx hb d_Mod_kindOf_75 (lv_at hl 0 rfl) ?_
          refine lv_bipush (v := 34) hx hb d_Mod_kindOf_77 (by decide) ?_
          refine lv_icmp_ne (tgt := 86) hx hb d_Mod_kindOf_79 (by decide) (fun _ => ?_) (fun h9 => absurd h9 hc23)
          refine lv_iconst (v := 4) hx hb d_Mod_kindOf_86 (by decide) ?_
          exact fin_i (g := g) (ws := Sw shM g ad S) (v := 4) hx hb hr hlocks (by decide +kernel) (by decide +kernel) hP hD hS ⟨_, rfl, (by unfold r_Mod_kindOf; rw [if_neg hc1, if_pos hc11, if_neg hc23, if_pos hc24]), rfl⟩ d_Mod_kindOf_87
def r_Mod_isName (S : sS) (v1 : Int32) : Int32 := if v1 < (0 : Int32) then 0 else (if (r_Mod_kindOf S (v1)) = (1 : Int32) then 1 else 0)
abbrev rm_a_Mod_isName : Room := { frames := 2, cells := 0, slots := 0, locals := 46 }
set_option maxHeartbeats 4000000 in
set_option maxRecDepth 100000 in
theorem a_Mod_isName (l : Launch) (g : gG) (sz : Nat) (ad : Nat → Nat) (S : sS) (v1 : Int32) (hb0 : ¬ (v1 < (0 : Int32)) → vp_in (((v1))) 260000) (hb1 : ¬ (v1 < (0 : Int32)) → vp_in ((S.2.1 27 (((v1)) : Int32).toNatClampNeg) + (0 : Int32)) 125552) (hb2 : ¬ (v1 < (0 : Int32)) → vp_in ((v1)) 260000) (hb3 : ¬ (v1 < (0 : Int32)) → ¬ ((S.2.1 28 ((v1) : Int32).toNatClampNeg) ≤ (1 : Int32)) → vp_in (((v1))) 260000) (hb4 : ¬ (v1 < (0 : Int32)) → ¬ ((S.2.1 28 ((v1) : Int32).toNatClampNeg) ≤ (1 : Int32)) → vp_in ((S.2.1 27 (((v1)) : Int32).toNatClampNeg) + (1 : Int32)) 125552) : Cz l y_Mod_isName b_Mod_isName 2 rm_a_Mod_isName g [.ref (ad 0), .int v1] (Sw shM g ad S) sz (fun r w => ∃ S' : sS, w = Sw shM g ad S' ∧ r = r_Mod_isName S v1 ∧ S' = S) := by
  refine startZ (by decide) (Nat.le_of_ble_eq_true rfl) ?_
  intro p e s m below meth c A ls hx hb hr hml hlocks hmn hown htt hN hA hP hK hD hS hl
  have hown : s.vm.findClass "MacroMillModel" = some m.cls := hown
  have hl : lv_has ls 2 [(0, .ref (ad 0)), (1, .int v1)] := hl
  refine lv_iload_n hx hb d_Mod_isName_0 rfl (lv_at hl 1 rfl) ?_
  refine lv_if_lt (tgt := 17) hx hb d_Mod_isName_1 (by decide) (fun hc1 => ?_) (fun hc1 => ?_)
  · refine lv_iconst (v := 0) hx hb d_Mod_isName_17 (by decide) ?_
    exact fin_z (g := g) (ws := Sw shM g ad S) (v := 0) hx hb hr hlocks rfl (by decide +kernel) (by decide +kernel) hP hD hS ⟨_, rfl, (by unfold r_Mod_isName; rw [if_pos hc1]), rfl⟩ d_Mod_isName_18
  · refine lv_aload_n hx hb d_Mod_isName_4 rfl (lv_at hl 0 rfl) ?_
    refine lv_iload_n hx hb d_Mod_isName_5 rfl (lv_at hl 1 rfl) ?_
    refine go_iS (As := [.ref (ad 0), .int v1]) (g := g) (A := A) (h := shM) hP hK hD hS hA hN (fun hp => va_runV (As := [.int v1]) (rest := []) ⟨hx, hb, hml, hown, htt⟩ (a_Mod_kindOf l g _ ad S (v1) (hb0 hc1) (hb1 hc1) (hb2 hc1) (hb3 hc1) (hb4 hc1)) ⟨(cb_L htt k_3036 k_276 k_3033 hd_Mod_kindOf ⟨(by decide +kernel), (by decide +kernel)⟩), htt _ k_3035, htt _ k_198⟩ ⟨hp.1, S_recv hK hP 0 rfl rfl, hp.2⟩ rfl rfl hl.1 rfl (lv_room (Nat.le_of_ble_eq_true rfl)) d_Mod_isName_6 ⟨(by decide +kernel), (by decide +kernel)⟩) (fun r9 Sn H locs hw9 hP hD hS => ?_)
    obtain ⟨rfl, e9⟩ := hw9
    rw [e9] at hP hD
    refine W.widen (k := 0) (n := 0) (by decide +kernel) (by decide +kernel) ?_
    refine lv_iconst (v := 1) hx hb d_Mod_isName_9 (by decide) ?_
    refine lv_icmp_ne (tgt := 17) hx hb d_Mod_isName_10 (by decide) (fun hc2 => ?_) (fun hc2 => ?_)
    · refine lv_iconst (v := 0) hx hb d_Mod_isName_17 (by decide) ?_
      exact fin_z (g := g) (ws := Sw shM g ad S) (v := 0) hx hb hr hlocks rfl (by decide +kernel) (by decide +kernel) hP hD hS ⟨_, rfl, (by unfold r_Mod_isName; rw [if_neg hc1, if_neg hc2]), rfl⟩ d_Mod_isName_18
    · refine lv_iconst (v := 1) hx hb d_Mod_isName_13 (by decide) ?_
      refine lv_goto (tgt := 18) hx hb d_Mod_isName_14 (by decide) ?_
      exact fin_z (g := g) (ws := Sw shM g ad S) (v := 1) hx hb hr hlocks rfl (by decide +kernel) (by decide +kernel) hP hD hS ⟨_, rfl, (by unfold r_Mod_isName; rw [if_neg hc1, if_pos hc2]), rfl⟩ d_Mod_isName_18
def r_Mod_byteAt (S : sS) (x1 : Nat) (nx1 : Nat) (v2 : Int32) (v3 : Int32) : Int32 := if v3 ≤ v2 then ((-1)) else ((S.2.1 x1 (v2 : Int32).toNatClampNeg) &&& (255 : Int32))
abbrev rm_a_Mod_byteAt : Room := { frames := 0, cells := 0, slots := 0, locals := 0 }
set_option maxHeartbeats 4000000 in
set_option maxRecDepth 100000 in
theorem a_Mod_byteAt (l : Launch) (g : gG) (sz : Nat) (ad : Nat → Nat) (S : sS) (x1 : Nat) (nx1 : Nat) (v2 : Int32) (v3 : Int32) (hx1 : shM.2[x1]? = some (0, nx1)) (hb0 : ¬ (v3 ≤ v2) → vp_in (v2) nx1) : Ci l y_Mod_byteAt b_Mod_byteAt 3 rm_a_Mod_byteAt g [.ref (ad (shM.1.length + x1)), .int v2, .int v3] (Sw shM g ad S) sz (fun r w => ∃ S' : sS, w = Sw shM g ad S' ∧ r = r_Mod_byteAt S x1 nx1 v2 v3 ∧ S' = S) := by
  refine startI (by decide) (Nat.le_of_ble_eq_true rfl) ?_
  intro p e s m below meth c A ls hx hb hr hml hlocks hmn hown htt hN hA hP hK hD hS hl
  have hown : s.vm.findClass "MacroMillModel" = some m.cls := hown
  have hl : lv_has ls 3 [(0, .ref (ad (shM.1.length + x1))), (1, .int v2), (2, .int v3)] := hl
  refine lv_iload_n hx hb d_Mod_byteAt_0 rfl (lv_at hl 1 rfl) ?_
  refine lv_iload_n hx hb d_Mod_byteAt_1 rfl (lv_at hl 2 rfl) ?_
  refine lv_icmp_ge (tgt := 15) hx hb d_Mod_byteAt_2 (by decide) (fun hc1 => ?_) (fun hc1 => ?_)
  · refine lv_iconst (v := (-1)) hx hb d_Mod_byteAt_15 (by decide) ?_
    exact fin_i (g := g) (ws := Sw shM g ad S) (v := (-1)) hx hb hr hlocks (by decide +kernel) (by decide +kernel) hP hD hS ⟨_, rfl, (by unfold r_Mod_byteAt; rw [if_pos hc1]), rfl⟩ d_Mod_byteAt_16
  · refine lv_aload_n hx hb d_Mod_byteAt_5 rfl (lv_at hl 0 rfl) ?_
    refine lv_iload_n hx hb d_Mod_byteAt_6 rfl (lv_at hl 1 rfl) ?_
    refine S_bald (h := shM) (i := v2) hx hb hK hP x1 hx1 (hb0 hc1) d_Mod_byteAt_7 ?_
    refine lv_sipush (v := 255) hx hb d_Mod_byteAt_8 (by decide) ?_
    refine lv_iand hx hb d_Mod_byteAt_11 ?_
    refine lv_goto (tgt := 16) hx hb d_Mod_byteAt_12 (by decide) ?_
    exact fin_i (g := g) (ws := Sw shM g ad S) (v := (S.2.1 x1 (v2 : Int32).toNatClampNeg) &&& (255 : Int32)) hx hb hr hlocks (by decide +kernel) (by decide +kernel) hP hD hS ⟨_, rfl, (by unfold r_Mod_byteAt; rw [if_neg hc1]), rfl⟩ d_Mod_byteAt_16
def r_Mod_hides (S : sS) (v1 : Int32) (v2 : Int32) : Int32 := if (lg_cmp (((S.2.2 46 (((7 : Int32) * v1) + (v2 / (64 : Int32)) : Int32).toNatClampNeg) >>> ((v2 - v2 / (64 : Int32) * (64 : Int32) : Int32).toInt64 &&& 63)) &&& (1 : Int64)) (1 : Int64)) = (0 : Int32) then 1 else 0
abbrev rm_a_Mod_hides : Room := { frames := 0, cells := 0, slots := 0, locals := 0 }
set_option maxHeartbeats 4000000 in
set_option maxRecDepth 100000 in
theorem a_Mod_hides (l : Launch) (g : gG) (sz : Nat) (ad : Nat → Nat) (S : sS) (v1 : Int32) (v2 : Int32) (hb0 : vp_in (((7 : Int32) * v1) + (v2 / (64 : Int32))) 7007) : Cz l y_Mod_hides b_Mod_hides 3 rm_a_Mod_hides g [.ref (ad 0), .int v1, .int v2] (Sw shM g ad S) sz (fun r w => ∃ S' : sS, w = Sw shM g ad S' ∧ r = r_Mod_hides S v1 v2 ∧ S' = S) := by
  refine startZ (by decide) (Nat.le_of_ble_eq_true rfl) ?_
  intro p e s m below meth c A ls hx hb hr hml hlocks hmn hown htt hN hA hP hK hD hS hl
  have hown : s.vm.findClass "MacroMillModel" = some m.cls := hown
  have hl : lv_has ls 3 [(0, .ref (ad 0)), (1, .int v1), (2, .int v2)] := hl
  refine lv_aload_n hx hb d_Mod_hides_0 rfl (lv_at hl 0 rfl) ?_
  refine S_getR (h := shM) (C := "MacroMillModel") (T := F_Mod) hx hb htt in_Mod hown hK hP 0 90 rfl 47 rfl rfl (by decide) (htt _ k_2326) (fun _ h9 => h9) d_Mod_hides_1 ?_
  refine lv_bipush (v := 7) hx hb d_Mod_hides_4 (by decide) ?_
  refine lv_iload_n hx hb d_Mod_hides_6 rfl (lv_at hl 1 rfl) ?_
  refine lv_imul hx hb d_Mod_hides_7 ?_
  refine lv_iload_n hx hb d_Mod_hides_8 rfl (lv_at hl 2 rfl) ?_
  refine lv_bipush (v := 64) hx hb d_Mod_hides_9 (by decide) ?_
  refine lv_idiv hx hb d_Mod_hides_11 (by decide) ?_
  refine lv_iadd hx hb d_Mod_hides_12 ?_
  refine S_lald (h := shM) (i := ((7 : Int32) * v1) + (v2 / (64 : Int32))) hx hb hK hP 46 rfl hb0 d_Mod_hides_13 ?_
  refine lv_iload_n hx hb d_Mod_hides_14 rfl (lv_at hl 2 rfl) ?_
  show W _ _ _ _ _ _ _ _ _ _ _ _ _ _ _ (F0 _ 15 _ _)
  refine lv_bipush (v := 64) hx hb d_Mod_hides_15 (by decide) ?_
  refine lv_irem hx hb d_Mod_hides_17 (by decide) ?_
  refine lv_lshr (v := (S.2.2 46 (((7 : Int32) * v1) + (v2 / (64 : Int32)) : Int32).toNatClampNeg) >>> ((v2 - v2 / (64 : Int32) * (64 : Int32) : Int32).toInt64 &&& 63)) hx hb d_Mod_hides_18 rfl ?_
  refine lv_lconst (v := 1) hx hb d_Mod_hides_19 (by decide) ?_
  refine lv_land hx hb d_Mod_hides_20 ?_
  refine lv_lconst (v := 1) hx hb d_Mod_hides_21 (by decide) ?_
  refine W.lcmp hx hb d_Mod_hides_22 ?_
  refine lv_if_ne (tgt := 30) hx hb d_Mod_hides_23 (by decide) (fun hc1 => ?_) (fun hc1 => ?_)
  · refine lv_iconst (v := 0) hx hb d_Mod_hides_30 (by decide) ?_
    exact fin_z (g := g) (ws := Sw shM g ad S) (v := 0) hx hb hr hlocks rfl (by decide +kernel) (by decide +kernel) hP hD hS ⟨_, rfl, (by unfold r_Mod_hides; rw [if_neg hc1]), rfl⟩ d_Mod_hides_31
  · refine lv_iconst (v := 1) hx hb d_Mod_hides_26 (by decide) ?_
    refine lv_goto (tgt := 31) hx hb d_Mod_hides_27 (by decide) ?_
    exact fin_z (g := g) (ws := Sw shM g ad S) (v := 1) hx hb hr hlocks rfl (by decide +kernel) (by decide +kernel) hP hD hS ⟨_, rfl, (by unfold r_Mod_hides; rw [if_pos hc1]), rfl⟩ d_Mod_hides_31
def s_Mod_fail2 (S : sS) (v1 : Int32) (v2 : Int32) : sS := (s_Mod_fail S (v1) (S.2.1 48 (S.1 0 92 : Int32).toNatClampNeg) (v2))
abbrev rm_a_Mod_fail2 : Room := { frames := 1, cells := 0, slots := 0, locals := 23 }
set_option maxHeartbeats 4000000 in
set_option maxRecDepth 100000 in
theorem a_Mod_fail2 (l : Launch) (g : gG) (sz : Nat) (ad : Nat → Nat) (S : sS) (v1 : Int32) (v2 : Int32) (hb0 : vp_in (S.1 0 92) 22) : Cv l y_Mod_fail2 b_Mod_fail2 3 rm_a_Mod_fail2 g [.ref (ad 0), .int v1, .int v2] (Sw shM g ad S) sz (fun w => ∃ S' : sS, w = Sw shM g ad S' ∧ S' = s_Mod_fail2 S v1 v2) := by
  refine startV (by decide) (Nat.le_of_ble_eq_true rfl) ?_
  intro p e s m below meth c A ls hx hb hr hml hlocks hmn hown htt hN hA hP hK hD hS hl
  have hown : s.vm.findClass "MacroMillModel" = some m.cls := hown
  have hl : lv_has ls 3 [(0, .ref (ad 0)), (1, .int v1), (2, .int v2)] := hl
  refine lv_aload_n hx hb d_Mod_fail2_0 rfl (lv_at hl 0 rfl) ?_
  refine lv_iload_n hx hb d_Mod_fail2_1 rfl (lv_at hl 1 rfl) ?_
  refine lv_aload_n hx hb d_Mod_fail2_2 rfl (lv_at hl 0 rfl) ?_
  refine S_getR (h := shM) (C := "MacroMillModel") (T := F_Mod) hx hb htt in_Mod hown hK hP 0 94 rfl 49 rfl rfl (by decide) (htt _ k_2330) (fun _ h9 => h9) d_Mod_fail2_3 ?_
  refine lv_aload_n hx hb d_Mod_fail2_6 rfl (lv_at hl 0 rfl) ?_
  refine S_getI (h := shM) (C := "MacroMillModel") (T := F_Mod) hx hb htt in_Mod hown hK hP 0 92 rfl rfl rfl (by decide) (htt _ k_2328) (fun _ h9 => h9) d_Mod_fail2_7 ?_
  refine S_iald (h := shM) (i := S.1 0 92) hx hb hK hP 48 rfl hb0 d_Mod_fail2_10 ?_
  refine lv_iload_n hx hb d_Mod_fail2_11 rfl (lv_at hl 2 rfl) ?_
  refine go_vS (As := [.ref (ad 0), .int v1, .int (S.2.1 48 (S.1 0 92 : Int32).toNatClampNeg), .int v2]) (g := g) (A := A) (h := shM) hP hK hD hS hA hN (fun hp => va_runV (As := [.int v1, .int (S.2.1 48 (S.1 0 92 : Int32).toNatClampNeg), .int v2]) (rest := []) ⟨hx, hb, hml, hown, htt⟩ (a_Mod_fail l g _ ad S (v1) (S.2.1 48 (S.1 0 92 : Int32).toNatClampNeg) (v2)) ⟨(cb_L htt k_2771 k_276 k_2768 hd_Mod_fail ⟨(by decide +kernel), (by decide +kernel)⟩), htt _ k_2770, htt _ k_139⟩ ⟨hp.1, S_recv hK hP 0 rfl rfl, hp.2⟩ rfl rfl hl.1 rfl (lv_room (Nat.le_of_ble_eq_true rfl)) d_Mod_fail2_12 ⟨(by decide +kernel), (by decide +kernel)⟩) (fun Sn H locs hw9 hP hD hS => ?_)
  obtain rfl := hw9
  refine W.widen (k := 0) (n := 0) (by decide +kernel) (by decide +kernel) ?_
  exact fin_v (g := g) (ws := Sw shM g ad (s_Mod_fail S (v1) (S.2.1 48 (S.1 0 92 : Int32).toNatClampNeg) (v2))) hx hb hr hlocks (by decide +kernel) (by decide +kernel) hP hD hS ⟨_, rfl, rfl⟩ d_Mod_fail2_15
def r_Mod_spend (S : sS) (v1 : Int32) (v2 : Int32) : Int32 := if ((S.1 0 66) + v1) ≤ (60000 : Int32) then (if (S.1 0 10) = (0 : Int32) then 1 else 0) else (if ((s_Mod_fail2 (putI S 0 66 ((S.1 0 66) + v1)) (21 : Int32) (v2)).1 0 10) = (0 : Int32) then 1 else 0)
def s_Mod_spend (S : sS) (v1 : Int32) (v2 : Int32) : sS := if ((S.1 0 66) + v1) ≤ (60000 : Int32) then ((putI S 0 66 ((S.1 0 66) + v1))) else ((s_Mod_fail2 (putI S 0 66 ((S.1 0 66) + v1)) (21 : Int32) (v2)))
abbrev rm_a_Mod_spend : Room := { frames := 2, cells := 0, slots := 0, locals := 45 }
set_option maxHeartbeats 4000000 in
set_option maxRecDepth 100000 in
theorem a_Mod_spend (l : Launch) (g : gG) (sz : Nat) (ad : Nat → Nat) (S : sS) (v1 : Int32) (v2 : Int32) (hb0 : ¬ (((S.1 0 66) + v1) ≤ (60000 : Int32)) → vp_in ((putI S 0 66 ((S.1 0 66) + v1)).1 0 92) 22) : Cz l y_Mod_spend b_Mod_spend 3 rm_a_Mod_spend g [.ref (ad 0), .int v1, .int v2] (Sw shM g ad S) sz (fun r w => ∃ S' : sS, w = Sw shM g ad S' ∧ r = r_Mod_spend S v1 v2 ∧ S' = s_Mod_spend S v1 v2) := by
  refine startZ (by decide) (Nat.le_of_ble_eq_true rfl) ?_
  intro p e s m below meth c A ls hx hb hr hml hlocks hmn hown htt hN hA hP hK hD hS hl
  have hown : s.vm.findClass "MacroMillModel" = some m.cls := hown
  have hl : lv_has ls 3 [(0, .ref (ad 0)), (1, .int v1), (2, .int v2)] := hl
  refine lv_aload_n hx hb d_Mod_spend_0 rfl (lv_at hl 0 rfl) ?_
  refine lv_aload_n hx hb d_Mod_spend_1 rfl (lv_at hl 0 rfl) ?_
  refine S_getI (h := shM) (C := "MacroMillModel") (T := F_Mod) hx hb htt in_Mod hown hK hP 0 66 rfl rfl rfl (by decide) (htt _ k_2302) (fun _ h9 => h9) d_Mod_spend_2 ?_
  refine lv_iload_n hx hb d_Mod_spend_5 rfl (lv_at hl 1 rfl) ?_
  refine lv_iadd hx hb d_Mod_spend_6 ?_
  refine S_put (h := shM) (C := "MacroMillModel") (T := F_Mod) (v := (S.1 0 66) + v1) hx hb htt in_Mod t_Mod t_Mod_ok n_Mod hown hK hP hD hS 0 66 rfl rfl rfl (by decide) (htt _ k_2302) (fun _ h9 => h9) rfl rfl rfl d_Mod_spend_7 (fun H locs hP hD hS => ?_)
  refine lv_aload_n hx hb d_Mod_spend_10 rfl (lv_at hl 0 rfl) ?_
  refine S_getI (h := shM) (C := "MacroMillModel") (T := F_Mod) hx hb htt in_Mod hown hK hP 0 66 rfl rfl rfl (by decide) (htt _ k_2302) (fun _ h9 => h9) d_Mod_spend_11 ?_
  refine toI (y := (S.1 0 66) + v1) rfl ?_
  refine lv_ldcw (v := 60000) hx hb hown (htt _ k_3064) d_Mod_spend_14 ?_
  refine lv_icmp_le (tgt := 27) hx hb d_Mod_spend_17 (by decide) (fun hc1 => ?_) (fun hc1 => ?_)
  · refine lv_aload_n hx hb d_Mod_spend_27 rfl (lv_at hl 0 rfl) ?_
    refine S_getI (h := shM) (C := "MacroMillModel") (T := F_Mod) hx hb htt in_Mod hown hK hP 0 10 rfl rfl rfl (by decide) (htt _ k_2246) (fun _ h9 => h9) d_Mod_spend_28 ?_
    refine toI (y := S.1 0 10) rfl ?_
    refine lv_if_ne (tgt := 38) hx hb d_Mod_spend_31 (by decide) (fun hc2 => ?_) (fun hc2 => ?_)
    · show W _ _ _ _ _ _ _ _ _ _ _ _ _ _ _ (F0 _ 38 _ _)
      refine lv_iconst (v := 0) hx hb d_Mod_spend_38 (by decide) ?_
      exact fin_z (g := g) (ws := Sw shM g ad (putI S 0 66 ((S.1 0 66) + v1))) (v := 0) hx hb hr hlocks rfl (by decide +kernel) (by decide +kernel) hP hD hS ⟨_, rfl, (by unfold r_Mod_spend; rw [if_pos hc1, if_neg hc2]), (by unfold s_Mod_spend; rw [if_pos hc1])⟩ d_Mod_spend_39
    · show W _ _ _ _ _ _ _ _ _ _ _ _ _ _ _ (F0 _ 34 _ _)
      refine lv_iconst (v := 1) hx hb d_Mod_spend_34 (by decide) ?_
      refine lv_goto (tgt := 39) hx hb d_Mod_spend_35 (by decide) ?_
      exact fin_z (g := g) (ws := Sw shM g ad (putI S 0 66 ((S.1 0 66) + v1))) (v := 1) hx hb hr hlocks rfl (by decide +kernel) (by decide +kernel) hP hD hS ⟨_, rfl, (by unfold r_Mod_spend; rw [if_pos hc1, if_pos hc2]), (by unfold s_Mod_spend; rw [if_pos hc1])⟩ d_Mod_spend_39
  · refine lv_aload_n hx hb d_Mod_spend_20 rfl (lv_at hl 0 rfl) ?_
    refine lv_bipush (v := 21) hx hb d_Mod_spend_21 (by decide) ?_
    show W _ _ _ _ _ _ _ _ _ _ _ _ _ _ _ (F0 _ 23 _ _)
    refine lv_iload_n hx hb d_Mod_spend_23 rfl (lv_at hl 2 rfl) ?_
    refine go_vS (As := [.ref (ad 0), .int 21, .int v2]) (g := g) (A := A) (h := shM) hP hK hD hS hA hN (fun hp => va_runV (As := [.int 21, .int v2]) (rest := []) ⟨hx, hb, hml, hown, htt⟩ (a_Mod_fail2 l g _ ad (putI S 0 66 ((S.1 0 66) + v1)) (21 : Int32) (v2) (hb0 hc1)) ⟨(cb_L htt k_2985 k_276 k_2982 hd_Mod_fail2 ⟨(by decide +kernel), (by decide +kernel)⟩), htt _ k_2984, htt _ k_187⟩ ⟨hp.1, S_recv hK hP 0 rfl rfl, hp.2⟩ rfl rfl hl.1 rfl (lv_room (Nat.le_of_ble_eq_true rfl)) d_Mod_spend_24 ⟨(by decide +kernel), (by decide +kernel)⟩) (fun Sn H locs hw9 hP hD hS => ?_)
    obtain rfl := hw9
    refine W.widen (k := 0) (n := 0) (by decide +kernel) (by decide +kernel) ?_
    refine lv_aload_n hx hb d_Mod_spend_27 rfl (lv_at hl 0 rfl) ?_
    refine S_getI (h := shM) (C := "MacroMillModel") (T := F_Mod) hx hb htt in_Mod hown hK hP 0 10 rfl rfl rfl (by decide) (htt _ k_2246) (fun _ h9 => h9) d_Mod_spend_28 ?_
    refine lv_if_ne (tgt := 38) hx hb d_Mod_spend_31 (by decide) (fun hc3 => ?_) (fun hc3 => ?_)
    · refine lv_iconst (v := 0) hx hb d_Mod_spend_38 (by decide) ?_
      exact fin_z (g := g) (ws := Sw shM g ad (s_Mod_fail2 (putI S 0 66 ((S.1 0 66) + v1)) (21 : Int32) (v2))) (v := 0) hx hb hr hlocks rfl (by decide +kernel) (by decide +kernel) hP hD hS ⟨_, rfl, (by unfold r_Mod_spend; rw [if_neg hc1, if_neg hc3]), (by unfold s_Mod_spend; rw [if_neg hc1])⟩ d_Mod_spend_39
    · refine lv_iconst (v := 1) hx hb d_Mod_spend_34 (by decide) ?_
      refine lv_goto (tgt := 39) hx hb d_Mod_spend_35 (by decide) ?_
      exact fin_z (g := g) (ws := Sw shM g ad (s_Mod_fail2 (putI S 0 66 ((S.1 0 66) + v1)) (21 : Int32) (v2))) (v := 1) hx hb hr hlocks rfl (by decide +kernel) (by decide +kernel) hP hD hS ⟨_, rfl, (by unfold r_Mod_spend; rw [if_neg hc1, if_pos hc3]), (by unfold s_Mod_spend; rw [if_neg hc1])⟩ d_Mod_spend_39
def s_Mod_spell (S : sS) (v1 : Int32) : sS := (putI (putA S 23 ((65536 : Int32) + (S.1 0 65) : Int32).toNatClampNeg (vp_nar .byte v1.toInt8.toInt32)) 0 65 ((S.1 0 65) + (1 : Int32)))
abbrev rm_a_Mod_spell : Room := { frames := 0, cells := 0, slots := 0, locals := 0 }
set_option maxHeartbeats 4000000 in
set_option maxRecDepth 100000 in
theorem a_Mod_spell (l : Launch) (g : gG) (sz : Nat) (ad : Nat → Nat) (S : sS) (v1 : Int32) (hb0 : vp_in ((65536 : Int32) + (S.1 0 65)) 125552) : Cv l y_Mod_spell b_Mod_spell 2 rm_a_Mod_spell g [.ref (ad 0), .int v1] (Sw shM g ad S) sz (fun w => ∃ S' : sS, w = Sw shM g ad S' ∧ S' = s_Mod_spell S v1) := by
  refine startV (by decide) (Nat.le_of_ble_eq_true rfl) ?_
  intro p e s m below meth c A ls hx hb hr hml hlocks hmn hown htt hN hA hP hK hD hS hl
  have hown : s.vm.findClass "MacroMillModel" = some m.cls := hown
  have hl : lv_has ls 2 [(0, .ref (ad 0)), (1, .int v1)] := hl
  refine lv_aload_n hx hb d_Mod_spell_0 rfl (lv_at hl 0 rfl) ?_
  refine S_getR (h := shM) (C := "MacroMillModel") (T := F_Mod) hx hb htt in_Mod hown hK hP 0 60 rfl 24 rfl rfl (by decide) (htt _ k_2296) (fun _ h9 => h9) d_Mod_spell_1 ?_
  refine lv_ldcw (v := 65536) hx hb hown (htt _ k_3055) d_Mod_spell_4 ?_
  refine lv_aload_n hx hb d_Mod_spell_7 rfl (lv_at hl 0 rfl) ?_
  refine S_getI (h := shM) (C := "MacroMillModel") (T := F_Mod) hx hb htt in_Mod hown hK hP 0 65 rfl rfl rfl (by decide) (htt _ k_2301) (fun _ h9 => h9) d_Mod_spell_8 ?_
  refine lv_iadd hx hb d_Mod_spell_11 ?_
  refine lv_iload_n hx hb d_Mod_spell_12 rfl (lv_at hl 1 rfl) ?_
  refine lv_i2b (v := v1.toInt8.toInt32) hx hb d_Mod_spell_13 rfl ?_
  refine S_bast (h := shM) (i := (65536 : Int32) + (S.1 0 65)) (v := v1.toInt8.toInt32) hx hb hK hP hD hS 23 rfl hb0 d_Mod_spell_14 (fun H locs hP hD hS => ?_)
  refine lv_aload_n hx hb d_Mod_spell_15 rfl (lv_at hl 0 rfl) ?_
  refine lv_dup hx hb d_Mod_spell_16 rfl ?_
  show W _ _ _ _ _ _ _ _ _ _ _ _ _ _ _ (F0 _ 17 _ _)
  refine S_getI (h := shM) (C := "MacroMillModel") (T := F_Mod) hx hb htt in_Mod hown hK hP 0 65 rfl rfl rfl (by decide) (htt _ k_2301) (fun _ h9 => h9) d_Mod_spell_17 ?_
  refine toI (y := S.1 0 65) rfl ?_
  refine lv_iconst (v := 1) hx hb d_Mod_spell_20 (by decide) ?_
  refine lv_iadd hx hb d_Mod_spell_21 ?_
  refine S_put (h := shM) (C := "MacroMillModel") (T := F_Mod) (v := (S.1 0 65) + (1 : Int32)) hx hb htt in_Mod t_Mod t_Mod_ok n_Mod hown hK hP hD hS 0 65 rfl rfl rfl (by decide) (htt _ k_2301) (fun _ h9 => h9) rfl rfl rfl d_Mod_spell_22 (fun H locs hP hD hS => ?_)
  exact fin_v (g := g) (ws := Sw shM g ad (putI (putA S 23 ((65536 : Int32) + (S.1 0 65) : Int32).toNatClampNeg (vp_nar .byte v1.toInt8.toInt32)) 0 65 ((S.1 0 65) + (1 : Int32)))) hx hb hr hlocks (by decide +kernel) (by decide +kernel) hP hD hS ⟨_, rfl, rfl⟩ d_Mod_spell_25
def r_Mod_lineNumber (S : sS) (v1 : Int32) : Int32 := v1 + (S.2.1 49 (S.1 0 92 : Int32).toNatClampNeg)
abbrev rm_a_Mod_lineNumber : Room := { frames := 0, cells := 0, slots := 0, locals := 0 }
set_option maxHeartbeats 4000000 in
set_option maxRecDepth 100000 in
theorem a_Mod_lineNumber (l : Launch) (g : gG) (sz : Nat) (ad : Nat → Nat) (S : sS) (v1 : Int32) (hb0 : vp_in (S.1 0 92) 22) : Ci l y_Mod_lineNumber b_Mod_lineNumber 2 rm_a_Mod_lineNumber g [.ref (ad 0), .int v1] (Sw shM g ad S) sz (fun r w => ∃ S' : sS, w = Sw shM g ad S' ∧ r = r_Mod_lineNumber S v1 ∧ S' = S) := by
  refine startI (by decide) (Nat.le_of_ble_eq_true rfl) ?_
  intro p e s m below meth c A ls hx hb hr hml hlocks hmn hown htt hN hA hP hK hD hS hl
  have hown : s.vm.findClass "MacroMillModel" = some m.cls := hown
  have hl : lv_has ls 2 [(0, .ref (ad 0)), (1, .int v1)] := hl
  refine lv_iload_n hx hb d_Mod_lineNumber_0 rfl (lv_at hl 1 rfl) ?_
  refine lv_aload_n hx hb d_Mod_lineNumber_1 rfl (lv_at hl 0 rfl) ?_
  refine S_getR (h := shM) (C := "MacroMillModel") (T := F_Mod) hx hb htt in_Mod hown hK hP 0 95 rfl 50 rfl rfl (by decide) (htt _ k_2331) (fun _ h9 => h9) d_Mod_lineNumber_2 ?_
  refine lv_aload_n hx hb d_Mod_lineNumber_5 rfl (lv_at hl 0 rfl) ?_
  refine S_getI (h := shM) (C := "MacroMillModel") (T := F_Mod) hx hb htt in_Mod hown hK hP 0 92 rfl rfl rfl (by decide) (htt _ k_2328) (fun _ h9 => h9) d_Mod_lineNumber_6 ?_
  refine S_iald (h := shM) (i := S.1 0 92) hx hb hK hP 49 rfl hb0 d_Mod_lineNumber_9 ?_
  refine lv_iadd hx hb d_Mod_lineNumber_10 ?_
  exact fin_i (g := g) (ws := Sw shM g ad S) (v := v1 + (S.2.1 49 (S.1 0 92 : Int32).toNatClampNeg)) hx hb hr hlocks (by decide +kernel) (by decide +kernel) hP hD hS ⟨_, rfl, rfl, rfl⟩ d_Mod_lineNumber_11
def r_Mod_titleByte (S : sS) (v1 : Int32) : Int32 := if (0 : Int32) ≤ (S.2.1 50 (S.1 0 92 : Int32).toNatClampNeg) then ((S.2.1 23 ((S.2.1 50 (S.1 0 92 : Int32).toNatClampNeg) + v1 : Int32).toNatClampNeg) &&& (255 : Int32)) else ((S.2.1 1 (((64 : Int32) * (((-1) : Int32) - (S.2.1 50 (S.1 0 92 : Int32).toNatClampNeg))) + v1 : Int32).toNatClampNeg) &&& (255 : Int32))
abbrev rm_a_Mod_titleByte : Room := { frames := 0, cells := 0, slots := 0, locals := 0 }
set_option maxHeartbeats 4000000 in
set_option maxRecDepth 100000 in
theorem a_Mod_titleByte (l : Launch) (g : gG) (sz : Nat) (ad : Nat → Nat) (S : sS) (v1 : Int32) (hb0 : vp_in (S.1 0 92) 22) (hb1 : (0 : Int32) ≤ (S.2.1 50 (S.1 0 92 : Int32).toNatClampNeg) → vp_in (S.1 0 92) 22) (hb2 : (0 : Int32) ≤ (S.2.1 50 (S.1 0 92 : Int32).toNatClampNeg) → vp_in ((S.2.1 50 (S.1 0 92 : Int32).toNatClampNeg) + v1) 125552) (hb3 : ¬ ((0 : Int32) ≤ (S.2.1 50 (S.1 0 92 : Int32).toNatClampNeg)) → vp_in (S.1 0 92) 22) (hb4 : ¬ ((0 : Int32) ≤ (S.2.1 50 (S.1 0 92 : Int32).toNatClampNeg)) → vp_in (((64 : Int32) * (((-1) : Int32) - (S.2.1 50 (S.1 0 92 : Int32).toNatClampNeg))) + v1) 2048) : Ci l y_Mod_titleByte b_Mod_titleByte 2 rm_a_Mod_titleByte g [.ref (ad 0), .int v1] (Sw shM g ad S) sz (fun r w => ∃ S' : sS, w = Sw shM g ad S' ∧ r = r_Mod_titleByte S v1 ∧ S' = S) := by
  refine startI (by decide) (Nat.le_of_ble_eq_true rfl) ?_
  intro p e s m below meth c A ls hx hb hr hml hlocks hmn hown htt hN hA hP hK hD hS hl
  have hown : s.vm.findClass "MacroMillModel" = some m.cls := hown
  have hl : lv_has ls 2 [(0, .ref (ad 0)), (1, .int v1)] := hl
  refine lv_aload_n hx hb d_Mod_titleByte_0 rfl (lv_at hl 0 rfl) ?_
  refine S_getR (h := shM) (C := "MacroMillModel") (T := F_Mod) hx hb htt in_Mod hown hK hP 0 96 rfl 51 rfl rfl (by decide) (htt _ k_2332) (fun _ h9 => h9) d_Mod_titleByte_1 ?_
  refine lv_aload_n hx hb d_Mod_titleByte_4 rfl (lv_at hl 0 rfl) ?_
  refine S_getI (h := shM) (C := "MacroMillModel") (T := F_Mod) hx hb htt in_Mod hown hK hP 0 92 rfl rfl rfl (by decide) (htt _ k_2328) (fun _ h9 => h9) d_Mod_titleByte_5 ?_
  refine S_iald (h := shM) (i := S.1 0 92) hx hb hK hP 50 rfl hb0 d_Mod_titleByte_8 ?_
  refine lv_if_ge (tgt := 40) hx hb d_Mod_titleByte_9 (by decide) (fun hc1 => ?_) (fun hc1 => ?_)
  · refine lv_aload_n hx hb d_Mod_titleByte_40 rfl (lv_at hl 0 rfl) ?_
    refine S_getR (h := shM) (C := "MacroMillModel") (T := F_Mod) hx hb htt in_Mod hown hK hP 0 60 rfl 24 rfl rfl (by decide) (htt _ k_2296) (fun _ h9 => h9) d_Mod_titleByte_41 ?_
    refine lv_aload_n hx hb d_Mod_titleByte_44 rfl (lv_at hl 0 rfl) ?_
    refine S_getR (h := shM) (C := "MacroMillModel") (T := F_Mod) hx hb htt in_Mod hown hK hP 0 96 rfl 51 rfl rfl (by decide) (htt _ k_2332) (fun _ h9 => h9) d_Mod_titleByte_45 ?_
    refine lv_aload_n hx hb d_Mod_titleByte_48 rfl (lv_at hl 0 rfl) ?_
    refine S_getI (h := shM) (C := "MacroMillModel") (T := F_Mod) hx hb htt in_Mod hown hK hP 0 92 rfl rfl rfl (by decide) (htt _ k_2328) (fun _ h9 => h9) d_Mod_titleByte_49 ?_
    show W _ _ _ _ _ _ _ _ _ _ _ _ _ _ _ (F0 _ 52 _ _)
    refine S_iald (h := shM) (i := S.1 0 92) hx hb hK hP 50 rfl (hb1 hc1) d_Mod_titleByte_52 ?_
    refine lv_iload_n hx hb d_Mod_titleByte_53 rfl (lv_at hl 1 rfl) ?_
    refine lv_iadd hx hb d_Mod_titleByte_54 ?_
    refine S_bald (h := shM) (i := (S.2.1 50 (S.1 0 92 : Int32).toNatClampNeg) + v1) hx hb hK hP 23 rfl (hb2 hc1) d_Mod_titleByte_55 ?_
    refine lv_sipush (v := 255) hx hb d_Mod_titleByte_56 (by decide) ?_
    refine lv_iand hx hb d_Mod_titleByte_59 ?_
    exact fin_i (g := g) (ws := Sw shM g ad S) (v := (S.2.1 23 ((S.2.1 50 (S.1 0 92 : Int32).toNatClampNeg) + v1 : Int32).toNatClampNeg) &&& (255 : Int32)) hx hb hr hlocks (by decide +kernel) (by decide +kernel) hP hD hS ⟨_, rfl, (by unfold r_Mod_titleByte; rw [if_pos hc1]), rfl⟩ d_Mod_titleByte_60
  · refine lv_aload_n hx hb d_Mod_titleByte_12 rfl (lv_at hl 0 rfl) ?_
    refine S_getR (h := shM) (C := "MacroMillModel") (T := F_Mod) hx hb htt in_Mod hown hK hP 0 4 rfl 2 rfl rfl (by decide) (htt _ k_2240) (fun _ h9 => h9) d_Mod_titleByte_13 ?_
    refine lv_bipush (v := 64) hx hb d_Mod_titleByte_16 (by decide) ?_
    refine lv_iconst (v := (-1)) hx hb d_Mod_titleByte_18 (by decide) ?_
    refine lv_aload_n hx hb d_Mod_titleByte_19 rfl (lv_at hl 0 rfl) ?_
    refine S_getR (h := shM) (C := "MacroMillModel") (T := F_Mod) hx hb htt in_Mod hown hK hP 0 96 rfl 51 rfl rfl (by decide) (htt _ k_2332) (fun _ h9 => h9) d_Mod_titleByte_20 ?_
    show W _ _ _ _ _ _ _ _ _ _ _ _ _ _ _ (F0 _ 23 _ _)
    refine lv_aload_n hx hb d_Mod_titleByte_23 rfl (lv_at hl 0 rfl) ?_
    refine S_getI (h := shM) (C := "MacroMillModel") (T := F_Mod) hx hb htt in_Mod hown hK hP 0 92 rfl rfl rfl (by decide) (htt _ k_2328) (fun _ h9 => h9) d_Mod_titleByte_24 ?_
    refine S_iald (h := shM) (i := S.1 0 92) hx hb hK hP 50 rfl (hb3 hc1) d_Mod_titleByte_27 ?_
    refine lv_isub hx hb d_Mod_titleByte_28 ?_
    refine lv_imul hx hb d_Mod_titleByte_29 ?_
    refine lv_iload_n hx hb d_Mod_titleByte_30 rfl (lv_at hl 1 rfl) ?_
    refine lv_iadd hx hb d_Mod_titleByte_31 ?_
    refine S_bald (h := shM) (i := ((64 : Int32) * (((-1) : Int32) - (S.2.1 50 (S.1 0 92 : Int32).toNatClampNeg))) + v1) hx hb hK hP 1 rfl (hb4 hc1) d_Mod_titleByte_32 ?_
    refine lv_sipush (v := 255) hx hb d_Mod_titleByte_33 (by decide) ?_
    refine lv_iand hx hb d_Mod_titleByte_36 ?_
    refine lv_goto (tgt := 60) hx hb d_Mod_titleByte_37 (by decide) ?_
    exact fin_i (g := g) (ws := Sw shM g ad S) (v := (S.2.1 1 (((64 : Int32) * (((-1) : Int32) - (S.2.1 50 (S.1 0 92 : Int32).toNatClampNeg))) + v1 : Int32).toNatClampNeg) &&& (255 : Int32)) hx hb hr hlocks (by decide +kernel) (by decide +kernel) hP hD hS ⟨_, rfl, (by unfold r_Mod_titleByte; rw [if_neg hc1]), rfl⟩ d_Mod_titleByte_60
def s_Mod_put (S : sS) (v1 : Int32) (v2 : Int32) (v3 : Int32) : sS := if (S.1 0 15) = (40000 : Int32) then ((s_Mod_fail2 S (21 : Int32) (v3))) else (if (0 : Int32) ≤ ((putA (putA (putI S 0 15 ((S.1 0 15) + (1 : Int32))) 31 (v1 : Int32).toNatClampNeg (-1)) 33 (v1 : Int32).toNatClampNeg (vp_nar .boolean 0)).2.1 57 (v2 : Int32).toNatClampNeg) then ((putA (putA (putA (putA (putI S 0 15 ((S.1 0 15) + (1 : Int32))) 31 (v1 : Int32).toNatClampNeg (-1)) 33 (v1 : Int32).toNatClampNeg (vp_nar .boolean 0)) 31 ((putA (putA (putI S 0 15 ((S.1 0 15) + (1 : Int32))) 31 (v1 : Int32).toNatClampNeg (-1)) 33 (v1 : Int32).toNatClampNeg (vp_nar .boolean 0)).2.1 58 (v2 : Int32).toNatClampNeg : Int32).toNatClampNeg v1) 58 (v2 : Int32).toNatClampNeg v1)) else ((putA (putA (putA (putA (putI S 0 15 ((S.1 0 15) + (1 : Int32))) 31 (v1 : Int32).toNatClampNeg (-1)) 33 (v1 : Int32).toNatClampNeg (vp_nar .boolean 0)) 57 (v2 : Int32).toNatClampNeg v1) 58 (v2 : Int32).toNatClampNeg v1)))
abbrev rm_a_Mod_put : Room := { frames := 2, cells := 0, slots := 0, locals := 45 }
set_option maxHeartbeats 4000000 in
set_option maxRecDepth 100000 in
theorem a_Mod_put (l : Launch) (g : gG) (sz : Nat) (ad : Nat → Nat) (S : sS) (v1 : Int32) (v2 : Int32) (v3 : Int32) (hb0 : ¬ ((S.1 0 15) = (40000 : Int32)) → vp_in (v1) 260000) (hb1 : ¬ ((S.1 0 15) = (40000 : Int32)) → vp_in (v2) 62) (hb2 : ¬ ((S.1 0 15) = (40000 : Int32)) → (0 : Int32) ≤ ((putA (putA (putI S 0 15 ((S.1 0 15) + (1 : Int32))) 31 (v1 : Int32).toNatClampNeg (-1)) 33 (v1 : Int32).toNatClampNeg (vp_nar .boolean 0)).2.1 57 (v2 : Int32).toNatClampNeg) → vp_in (v2) 62) (hb3 : ¬ ((S.1 0 15) = (40000 : Int32)) → (0 : Int32) ≤ ((putA (putA (putI S 0 15 ((S.1 0 15) + (1 : Int32))) 31 (v1 : Int32).toNatClampNeg (-1)) 33 (v1 : Int32).toNatClampNeg (vp_nar .boolean 0)).2.1 57 (v2 : Int32).toNatClampNeg) → vp_in ((putA (putA (putI S 0 15 ((S.1 0 15) + (1 : Int32))) 31 (v1 : Int32).toNatClampNeg (-1)) 33 (v1 : Int32).toNatClampNeg (vp_nar .boolean 0)).2.1 58 (v2 : Int32).toNatClampNeg) 260000) (hb4 : ¬ ((S.1 0 15) = (40000 : Int32)) → ¬ ((0 : Int32) ≤ ((putA (putA (putI S 0 15 ((S.1 0 15) + (1 : Int32))) 31 (v1 : Int32).toNatClampNeg (-1)) 33 (v1 : Int32).toNatClampNeg (vp_nar .boolean 0)).2.1 57 (v2 : Int32).toNatClampNeg)) → vp_in (v2) 62) (hb5 : (S.1 0 15) = (40000 : Int32) → vp_in (S.1 0 92) 22) : Cv l y_Mod_put b_Mod_put 4 rm_a_Mod_put g [.ref (ad 0), .int v1, .int v2, .int v3] (Sw shM g ad S) sz (fun w => ∃ S' : sS, w = Sw shM g ad S' ∧ S' = s_Mod_put S v1 v2 v3) := by
  refine startV (by decide) (Nat.le_of_ble_eq_true rfl) ?_
  intro p e s m below meth c A ls hx hb hr hml hlocks hmn hown htt hN hA hP hK hD hS hl
  have hown : s.vm.findClass "MacroMillModel" = some m.cls := hown
  have hl : lv_has ls 4 [(0, .ref (ad 0)), (1, .int v1), (2, .int v2), (3, .int v3)] := hl
  refine lv_aload_n hx hb d_Mod_put_0 rfl (lv_at hl 0 rfl) ?_
  refine S_getI (h := shM) (C := "MacroMillModel") (T := F_Mod) hx hb htt in_Mod hown hK hP 0 15 rfl rfl rfl (by decide) (htt _ k_2251) (fun _ h9 => h9) d_Mod_put_1 ?_
  refine lv_ldcw (v := 40000) hx hb hown (htt _ k_3116) d_Mod_put_4 ?_
  refine lv_icmp_ne (tgt := 18) hx hb d_Mod_put_7 (by decide) (fun hc1 => ?_) (fun hc1 => ?_)
  · refine lv_aload_n hx hb d_Mod_put_18 rfl (lv_at hl 0 rfl) ?_
    refine lv_dup hx hb d_Mod_put_19 rfl ?_
    refine S_getI (h := shM) (C := "MacroMillModel") (T := F_Mod) hx hb htt in_Mod hown hK hP 0 15 rfl rfl rfl (by decide) (htt _ k_2251) (fun _ h9 => h9) d_Mod_put_20 ?_
    refine lv_iconst (v := 1) hx hb d_Mod_put_23 (by decide) ?_
    refine lv_iadd hx hb d_Mod_put_24 ?_
    refine S_put (h := shM) (C := "MacroMillModel") (T := F_Mod) (v := (S.1 0 15) + (1 : Int32)) hx hb htt in_Mod t_Mod t_Mod_ok n_Mod hown hK hP hD hS 0 15 rfl rfl rfl (by decide) (htt _ k_2251) (fun _ h9 => h9) rfl rfl rfl d_Mod_put_25 (fun H locs hP hD hS => ?_)
    refine lv_aload_n hx hb d_Mod_put_28 rfl (lv_at hl 0 rfl) ?_
    refine S_getR (h := shM) (C := "MacroMillModel") (T := F_Mod) hx hb htt in_Mod hown hK hP 0 72 rfl 32 rfl rfl (by decide) (htt _ k_2308) (fun _ h9 => h9) d_Mod_put_29 ?_
    show W _ _ _ _ _ _ _ _ _ _ _ _ _ _ _ (F0 _ 32 _ _)
    refine lv_iload_n hx hb d_Mod_put_32 rfl (lv_at hl 1 rfl) ?_
    refine lv_iconst (v := (-1)) hx hb d_Mod_put_33 (by decide) ?_
    refine S_iast (h := shM) (i := v1) (v := (-1)) hx hb hK hP hD hS 31 rfl (hb0 hc1) d_Mod_put_34 (fun H locs hP hD hS => ?_)
    refine lv_aload_n hx hb d_Mod_put_35 rfl (lv_at hl 0 rfl) ?_
    refine S_getR (h := shM) (C := "MacroMillModel") (T := F_Mod) hx hb htt in_Mod hown hK hP 0 74 rfl 34 rfl rfl (by decide) (htt _ k_2310) (fun _ h9 => h9) d_Mod_put_36 ?_
    refine lv_iload_n hx hb d_Mod_put_39 rfl (lv_at hl 1 rfl) ?_
    refine lv_iconst (v := 0) hx hb d_Mod_put_40 (by decide) ?_
    refine S_zast (h := shM) (i := v1) (v := 0) hx hb hK hP hD hS 33 rfl (hb0 hc1) d_Mod_put_41 (fun H locs hP hD hS => ?_)
    refine lv_aload_n hx hb d_Mod_put_42 rfl (lv_at hl 0 rfl) ?_
    refine S_getR (h := shM) (C := "MacroMillModel") (T := F_Mod) hx hb htt in_Mod hown hK hP 0 105 rfl 58 rfl rfl (by decide) (htt _ k_2341) (fun _ h9 => h9) d_Mod_put_43 ?_
    refine lv_iload_n hx hb d_Mod_put_46 rfl (lv_at hl 2 rfl) ?_
    refine S_iald (h := shM) (i := v2) hx hb hK hP 57 rfl (hb1 hc1) d_Mod_put_47 ?_
    refine lv_if_ge (tgt := 61) hx hb d_Mod_put_48 (by decide) (fun hc2 => ?_) (fun hc2 => ?_)
    · show W _ _ _ _ _ _ _ _ _ _ _ _ _ _ _ (F0 _ 61 _ _)
      refine lv_aload_n hx hb d_Mod_put_61 rfl (lv_at hl 0 rfl) ?_
      refine S_getR (h := shM) (C := "MacroMillModel") (T := F_Mod) hx hb htt in_Mod hown hK hP 0 72 rfl 32 rfl rfl (by decide) (htt _ k_2308) (fun _ h9 => h9) d_Mod_put_62 ?_
      refine lv_aload_n hx hb d_Mod_put_65 rfl (lv_at hl 0 rfl) ?_
      refine S_getR (h := shM) (C := "MacroMillModel") (T := F_Mod) hx hb htt in_Mod hown hK hP 0 106 rfl 59 rfl rfl (by decide) (htt _ k_2342) (fun _ h9 => h9) d_Mod_put_66 ?_
      refine lv_iload_n hx hb d_Mod_put_69 rfl (lv_at hl 2 rfl) ?_
      refine S_iald (h := shM) (i := v2) hx hb hK hP 58 rfl (hb2 hc1 hc2) d_Mod_put_70 ?_
      refine lv_iload_n hx hb d_Mod_put_71 rfl (lv_at hl 1 rfl) ?_
      refine S_iast (h := shM) (i := (putA (putA (putI S 0 15 ((S.1 0 15) + (1 : Int32))) 31 (v1 : Int32).toNatClampNeg (-1)) 33 (v1 : Int32).toNatClampNeg (vp_nar .boolean 0)).2.1 58 (v2 : Int32).toNatClampNeg) (v := v1) hx hb hK hP hD hS 31 rfl (hb3 hc1 hc2) d_Mod_put_72 (fun H locs hP hD hS => ?_)
      refine lv_aload_n hx hb d_Mod_put_73 rfl (lv_at hl 0 rfl) ?_
      refine S_getR (h := shM) (C := "MacroMillModel") (T := F_Mod) hx hb htt in_Mod hown hK hP 0 106 rfl 59 rfl rfl (by decide) (htt _ k_2342) (fun _ h9 => h9) d_Mod_put_74 ?_
      refine lv_iload_n hx hb d_Mod_put_77 rfl (lv_at hl 2 rfl) ?_
      refine lv_iload_n hx hb d_Mod_put_78 rfl (lv_at hl 1 rfl) ?_
      show W _ _ _ _ _ _ _ _ _ _ _ _ _ _ _ (F0 _ 79 _ _)
      refine S_iast (h := shM) (i := v2) (v := v1) hx hb hK hP hD hS 58 rfl (hb2 hc1 hc2) d_Mod_put_79 (fun H locs hP hD hS => ?_)
      exact fin_v (g := g) (ws := Sw shM g ad (putA (putA (putA (putA (putI S 0 15 ((S.1 0 15) + (1 : Int32))) 31 (v1 : Int32).toNatClampNeg (-1)) 33 (v1 : Int32).toNatClampNeg (vp_nar .boolean 0)) 31 ((putA (putA (putI S 0 15 ((S.1 0 15) + (1 : Int32))) 31 (v1 : Int32).toNatClampNeg (-1)) 33 (v1 : Int32).toNatClampNeg (vp_nar .boolean 0)).2.1 58 (v2 : Int32).toNatClampNeg : Int32).toNatClampNeg v1) 58 (v2 : Int32).toNatClampNeg v1)) hx hb hr hlocks (by decide +kernel) (by decide +kernel) hP hD hS ⟨_, rfl, (by unfold s_Mod_put; rw [if_neg hc1, if_pos hc2])⟩ d_Mod_put_80
    · show W _ _ _ _ _ _ _ _ _ _ _ _ _ _ _ (F0 _ 51 _ _)
      refine lv_aload_n hx hb d_Mod_put_51 rfl (lv_at hl 0 rfl) ?_
      refine S_getR (h := shM) (C := "MacroMillModel") (T := F_Mod) hx hb htt in_Mod hown hK hP 0 105 rfl 58 rfl rfl (by decide) (htt _ k_2341) (fun _ h9 => h9) d_Mod_put_52 ?_
      refine lv_iload_n hx hb d_Mod_put_55 rfl (lv_at hl 2 rfl) ?_
      refine lv_iload_n hx hb d_Mod_put_56 rfl (lv_at hl 1 rfl) ?_
      refine S_iast (h := shM) (i := v2) (v := v1) hx hb hK hP hD hS 57 rfl (hb4 hc1 hc2) d_Mod_put_57 (fun H locs hP hD hS => ?_)
      refine lv_goto (tgt := 73) hx hb d_Mod_put_58 (by decide) ?_
      refine lv_aload_n hx hb d_Mod_put_73 rfl (lv_at hl 0 rfl) ?_
      refine S_getR (h := shM) (C := "MacroMillModel") (T := F_Mod) hx hb htt in_Mod hown hK hP 0 106 rfl 59 rfl rfl (by decide) (htt _ k_2342) (fun _ h9 => h9) d_Mod_put_74 ?_
      refine lv_iload_n hx hb d_Mod_put_77 rfl (lv_at hl 2 rfl) ?_
      refine lv_iload_n hx hb d_Mod_put_78 rfl (lv_at hl 1 rfl) ?_
      refine S_iast (h := shM) (i := v2) (v := v1) hx hb hK hP hD hS 58 rfl (hb4 hc1 hc2) d_Mod_put_79 (fun H locs hP hD hS => ?_)
      exact fin_v (g := g) (ws := Sw shM g ad (putA (putA (putA (putA (putI S 0 15 ((S.1 0 15) + (1 : Int32))) 31 (v1 : Int32).toNatClampNeg (-1)) 33 (v1 : Int32).toNatClampNeg (vp_nar .boolean 0)) 57 (v2 : Int32).toNatClampNeg v1) 58 (v2 : Int32).toNatClampNeg v1)) hx hb hr hlocks (by decide +kernel) (by decide +kernel) hP hD hS ⟨_, rfl, (by unfold s_Mod_put; rw [if_neg hc1, if_neg hc2])⟩ d_Mod_put_80
  · refine lv_aload_n hx hb d_Mod_put_10 rfl (lv_at hl 0 rfl) ?_
    refine lv_bipush (v := 21) hx hb d_Mod_put_11 (by decide) ?_
    refine lv_iload_n hx hb d_Mod_put_13 rfl (lv_at hl 3 rfl) ?_
    refine go_vS (As := [.ref (ad 0), .int 21, .int v3]) (g := g) (A := A) (h := shM) hP hK hD hS hA hN (fun hp => va_runV (As := [.int 21, .int v3]) (rest := []) ⟨hx, hb, hml, hown, htt⟩ (a_Mod_fail2 l g _ ad S (21 : Int32) (v3) (hb5 hc1)) ⟨(cb_L htt k_2985 k_276 k_2982 hd_Mod_fail2 ⟨(by decide +kernel), (by decide +kernel)⟩), htt _ k_2984, htt _ k_187⟩ ⟨hp.1, S_recv hK hP 0 rfl rfl, hp.2⟩ rfl rfl hl.1 rfl (lv_room (Nat.le_of_ble_eq_true rfl)) d_Mod_put_14 ⟨(by decide +kernel), (by decide +kernel)⟩) (fun Sn H locs hw9 hP hD hS => ?_)
    obtain rfl := hw9
    refine W.widen (k := 0) (n := 0) (by decide +kernel) (by decide +kernel) ?_
    exact fin_v (g := g) (ws := Sw shM g ad (s_Mod_fail2 S (21 : Int32) (v3))) hx hb hr hlocks (by decide +kernel) (by decide +kernel) hP hD hS ⟨_, rfl, (by unfold s_Mod_put; rw [if_pos hc1])⟩ d_Mod_put_17
def r_Mod_bodyCell (S : sS) (v1 : Int32) (v2 : Int32) : Int32 := r_Mod_cell S (S.2.1 41 (v1 : Int32).toNatClampNeg) (S.2.1 42 (v1 : Int32).toNatClampNeg) (v2) (S.2.1 43 (v1 : Int32).toNatClampNeg) (0 : Int32)
def s_Mod_bodyCell (S : sS) (v1 : Int32) (v2 : Int32) : sS := (s_Mod_cell S (S.2.1 41 (v1 : Int32).toNatClampNeg) (S.2.1 42 (v1 : Int32).toNatClampNeg) (v2) (S.2.1 43 (v1 : Int32).toNatClampNeg) (0 : Int32))
abbrev rm_a_Mod_bodyCell : Room := { frames := 1, cells := 0, slots := 0, locals := 26 }
set_option maxHeartbeats 4000000 in
set_option maxRecDepth 100000 in
theorem a_Mod_bodyCell (l : Launch) (g : gG) (sz : Nat) (ad : Nat → Nat) (S : sS) (v1 : Int32) (v2 : Int32) (hb0 : vp_in (v1) 8000) (hb1 : vp_in (S.1 0 67) 260000) : Ci l y_Mod_bodyCell b_Mod_bodyCell 3 rm_a_Mod_bodyCell g [.ref (ad 0), .int v1, .int v2] (Sw shM g ad S) sz (fun r w => ∃ S' : sS, w = Sw shM g ad S' ∧ r = r_Mod_bodyCell S v1 v2 ∧ S' = s_Mod_bodyCell S v1 v2) := by
  refine startI (by decide) (Nat.le_of_ble_eq_true rfl) ?_
  intro p e s m below meth c A ls hx hb hr hml hlocks hmn hown htt hN hA hP hK hD hS hl
  have hown : s.vm.findClass "MacroMillModel" = some m.cls := hown
  have hl : lv_has ls 3 [(0, .ref (ad 0)), (1, .int v1), (2, .int v2)] := hl
  refine lv_aload_n hx hb d_Mod_bodyCell_0 rfl (lv_at hl 0 rfl) ?_
  refine lv_aload_n hx hb d_Mod_bodyCell_1 rfl (lv_at hl 0 rfl) ?_
  refine S_getR (h := shM) (C := "MacroMillModel") (T := F_Mod) hx hb htt in_Mod hown hK hP 0 84 rfl 42 rfl rfl (by decide) (htt _ k_2320) (fun _ h9 => h9) d_Mod_bodyCell_2 ?_
  refine lv_iload_n hx hb d_Mod_bodyCell_5 rfl (lv_at hl 1 rfl) ?_
  refine S_iald (h := shM) (i := v1) hx hb hK hP 41 rfl hb0 d_Mod_bodyCell_6 ?_
  refine lv_aload_n hx hb d_Mod_bodyCell_7 rfl (lv_at hl 0 rfl) ?_
  refine S_getR (h := shM) (C := "MacroMillModel") (T := F_Mod) hx hb htt in_Mod hown hK hP 0 85 rfl 43 rfl rfl (by decide) (htt _ k_2321) (fun _ h9 => h9) d_Mod_bodyCell_8 ?_
  refine lv_iload_n hx hb d_Mod_bodyCell_11 rfl (lv_at hl 1 rfl) ?_
  refine S_iald (h := shM) (i := v1) hx hb hK hP 42 rfl hb0 d_Mod_bodyCell_12 ?_
  refine lv_iload_n hx hb d_Mod_bodyCell_13 rfl (lv_at hl 2 rfl) ?_
  refine lv_aload_n hx hb d_Mod_bodyCell_14 rfl (lv_at hl 0 rfl) ?_
  show W _ _ _ _ _ _ _ _ _ _ _ _ _ _ _ (F0 _ 15 _ _)
  refine S_getR (h := shM) (C := "MacroMillModel") (T := F_Mod) hx hb htt in_Mod hown hK hP 0 86 rfl 44 rfl rfl (by decide) (htt _ k_2322) (fun _ h9 => h9) d_Mod_bodyCell_15 ?_
  refine lv_iload_n hx hb d_Mod_bodyCell_18 rfl (lv_at hl 1 rfl) ?_
  refine S_zald (h := shM) (i := v1) hx hb hK hP 43 rfl hb0 d_Mod_bodyCell_19 ?_
  refine lv_iconst (v := 0) hx hb d_Mod_bodyCell_20 (by decide) ?_
  refine go_iS (As := [.ref (ad 0), .int (S.2.1 41 (v1 : Int32).toNatClampNeg), .int (S.2.1 42 (v1 : Int32).toNatClampNeg), .int v2, .int (S.2.1 43 (v1 : Int32).toNatClampNeg), .int 0]) (g := g) (A := A) (h := shM) hP hK hD hS hA hN (fun hp => va_runV (As := [.int (S.2.1 41 (v1 : Int32).toNatClampNeg), .int (S.2.1 42 (v1 : Int32).toNatClampNeg), .int v2, .int (S.2.1 43 (v1 : Int32).toNatClampNeg), .int 0]) (rest := []) ⟨hx, hb, hml, hown, htt⟩ (a_Mod_cell l g _ ad S (S.2.1 41 (v1 : Int32).toNatClampNeg) (S.2.1 42 (v1 : Int32).toNatClampNeg) (v2) (S.2.1 43 (v1 : Int32).toNatClampNeg) (0 : Int32) hb1) ⟨(cb_L htt k_3007 k_276 k_3004 hd_Mod_cell ⟨(by decide +kernel), (by decide +kernel)⟩), htt _ k_3006, htt _ k_191⟩ ⟨hp.1, S_recv hK hP 0 rfl rfl, hp.2⟩ rfl rfl hl.1 rfl (lv_room (Nat.le_of_ble_eq_true rfl)) d_Mod_bodyCell_21 ⟨(by decide +kernel), (by decide +kernel)⟩) (fun r9 Sn H locs hw9 hP hD hS => ?_)
  obtain ⟨rfl, rfl⟩ := hw9
  refine W.widen (k := 0) (n := 0) (by decide +kernel) (by decide +kernel) ?_
  exact fin_i (g := g) (ws := Sw shM g ad (s_Mod_cell S (S.2.1 41 (v1 : Int32).toNatClampNeg) (S.2.1 42 (v1 : Int32).toNatClampNeg) (v2) (S.2.1 43 (v1 : Int32).toNatClampNeg) (0 : Int32))) (v := r_Mod_cell S (S.2.1 41 (v1 : Int32).toNatClampNeg) (S.2.1 42 (v1 : Int32).toNatClampNeg) (v2) (S.2.1 43 (v1 : Int32).toNatClampNeg) (0 : Int32)) hx hb hr hlocks (by decide +kernel) (by decide +kernel) hP hD hS ⟨_, rfl, rfl, rfl⟩ d_Mod_bodyCell_24
def r_Mod_isMarked (S : sS) (v1 : Int32) (v2 : Int32) : Int32 := if (r_Mod_kindOf S (v1)) = (3 : Int32) then (if (r_Mod_byteOf S (v1) (v2)) = (34 : Int32) then 1 else (if (r_Mod_byteOf S (v1) (v2)) = (92 : Int32) then 1 else 0)) else (if (r_Mod_kindOf S (v1)) = (4 : Int32) then (if (r_Mod_byteOf S (v1) (v2)) = (34 : Int32) then 1 else (if (r_Mod_byteOf S (v1) (v2)) = (92 : Int32) then 1 else 0)) else 0)
abbrev rm_a_Mod_isMarked : Room := { frames := 2, cells := 0, slots := 0, locals := 46 }
set_option maxHeartbeats 4000000 in
set_option maxRecDepth 100000 in
theorem a_Mod_isMarked (l : Launch) (g : gG) (sz : Nat) (ad : Nat → Nat) (S : sS) (v1 : Int32) (v2 : Int32) (hb0 : vp_in (((v1))) 260000) (hb1 : vp_in ((S.2.1 27 (((v1)) : Int32).toNatClampNeg) + (0 : Int32)) 125552) (hb2 : vp_in ((v1)) 260000) (hb3 : ¬ ((S.2.1 28 ((v1) : Int32).toNatClampNeg) ≤ (1 : Int32)) → vp_in (((v1))) 260000) (hb4 : ¬ ((S.2.1 28 ((v1) : Int32).toNatClampNeg) ≤ (1 : Int32)) → vp_in ((S.2.1 27 (((v1)) : Int32).toNatClampNeg) + (1 : Int32)) 125552) (hb5 : (r_Mod_kindOf S (v1)) = (3 : Int32) → vp_in ((v1)) 260000) (hb6 : (r_Mod_kindOf S (v1)) = (3 : Int32) → vp_in ((S.2.1 27 ((v1) : Int32).toNatClampNeg) + (v2)) 125552) (hb7 : (r_Mod_kindOf S (v1)) = (3 : Int32) → ¬ ((r_Mod_byteOf S (v1) (v2)) = (34 : Int32)) → vp_in ((v1)) 260000) (hb8 : (r_Mod_kindOf S (v1)) = (3 : Int32) → ¬ ((r_Mod_byteOf S (v1) (v2)) = (34 : Int32)) → vp_in ((S.2.1 27 ((v1) : Int32).toNatClampNeg) + (v2)) 125552) (hb9 : ¬ ((r_Mod_kindOf S (v1)) = (3 : Int32)) → (r_Mod_kindOf S (v1)) = (4 : Int32) → vp_in ((v1)) 260000) (hb10 : ¬ ((r_Mod_kindOf S (v1)) = (3 : Int32)) → (r_Mod_kindOf S (v1)) = (4 : Int32) → vp_in ((S.2.1 27 ((v1) : Int32).toNatClampNeg) + (v2)) 125552) (hb11 : ¬ ((r_Mod_kindOf S (v1)) = (3 : Int32)) → (r_Mod_kindOf S (v1)) = (4 : Int32) → ¬ ((r_Mod_byteOf S (v1) (v2)) = (34 : Int32)) → vp_in ((v1)) 260000) (hb12 : ¬ ((r_Mod_kindOf S (v1)) = (3 : Int32)) → (r_Mod_kindOf S (v1)) = (4 : Int32) → ¬ ((r_Mod_byteOf S (v1) (v2)) = (34 : Int32)) → vp_in ((S.2.1 27 ((v1) : Int32).toNatClampNeg) + (v2)) 125552) : Cz l y_Mod_isMarked b_Mod_isMarked 4 rm_a_Mod_isMarked g [.ref (ad 0), .int v1, .int v2] (Sw shM g ad S) sz (fun r w => ∃ S' : sS, w = Sw shM g ad S' ∧ r = r_Mod_isMarked S v1 v2 ∧ S' = S) := by
  refine startZ (by decide) (Nat.le_of_ble_eq_true rfl) ?_
  intro p e s m below meth c A ls hx hb hr hml hlocks hmn hown htt hN hA hP hK hD hS hl
  have hown : s.vm.findClass "MacroMillModel" = some m.cls := hown
  have hl : lv_has ls 4 [(0, .ref (ad 0)), (1, .int v1), (2, .int v2)] := hl
  refine lv_aload_n hx hb d_Mod_isMarked_0 rfl (lv_at hl 0 rfl) ?_
  refine lv_iload_n hx hb d_Mod_isMarked_1 rfl (lv_at hl 1 rfl) ?_
  refine go_iS (As := [.ref (ad 0), .int v1]) (g := g) (A := A) (h := shM) hP hK hD hS hA hN (fun hp => va_runV (As := [.int v1]) (rest := []) ⟨hx, hb, hml, hown, htt⟩ (a_Mod_kindOf l g _ ad S (v1) hb0 hb1 hb2 hb3 hb4) ⟨(cb_L htt k_3036 k_276 k_3033 hd_Mod_kindOf ⟨(by decide +kernel), (by decide +kernel)⟩), htt _ k_3035, htt _ k_198⟩ ⟨hp.1, S_recv hK hP 0 rfl rfl, hp.2⟩ rfl rfl hl.1 rfl (lv_room (Nat.le_of_ble_eq_true rfl)) d_Mod_isMarked_2 ⟨(by decide +kernel), (by decide +kernel)⟩) (fun r9 Sn H locs hw9 hP hD hS => ?_)
  obtain ⟨rfl, e9⟩ := hw9
  rw [e9] at hP hD
  refine W.widen (k := 0) (n := 0) (by decide +kernel) (by decide +kernel) ?_
  refine lv_istore_n (lv' := [(3, .int (r_Mod_kindOf S (v1))), (0, .ref (ad 0)), (1, .int v1), (2, .int v2)]) hx hb d_Mod_isMarked_5 rfl hl (by decide) rfl (fun ls hl => ?_)
  refine lv_iload_n hx hb d_Mod_isMarked_6 rfl (lv_at hl 0 rfl) ?_
  refine lv_iconst (v := 3) hx hb d_Mod_isMarked_7 (by decide) ?_
  refine lv_icmp_eq (tgt := 16) hx hb d_Mod_isMarked_8 (by decide) (fun hc1 => ?_) (fun hc1 => ?_)
  · refine lv_aload_n hx hb d_Mod_isMarked_16 rfl (lv_at hl 1 rfl) ?_
    refine lv_iload_n hx hb d_Mod_isMarked_17 rfl (lv_at hl 2 rfl) ?_
    refine lv_iload_n hx hb d_Mod_isMarked_18 rfl (lv_at hl 3 rfl) ?_
    refine go_iS (As := [.ref (ad 0), .int v1, .int v2]) (g := g) (A := A) (h := shM) hP hK hD hS hA hN (fun hp => va_runV (As := [.int v1, .int v2]) (rest := []) ⟨hx, hb, hml, hown, htt⟩ (a_Mod_byteOf l g _ ad S (v1) (v2) (hb5 hc1) (hb6 hc1)) ⟨(cb_L htt k_3016 k_276 k_3013 hd_Mod_byteOf ⟨(by decide +kernel), (by decide +kernel)⟩), htt _ k_3015, htt _ k_193⟩ ⟨hp.1, S_recv hK hP 0 rfl rfl, hp.2⟩ rfl rfl hl.1 rfl (lv_room (Nat.le_of_ble_eq_true rfl)) d_Mod_isMarked_19 ⟨(by decide +kernel), (by decide +kernel)⟩) (fun r9 Sn_2 H locs hw9 hP hD hS => ?_)
    obtain ⟨rfl, e9⟩ := hw9
    rw [e9] at hP hD
    refine W.widen (k := 0) (n := 0) (by decide +kernel) (by decide +kernel) ?_
    refine lv_bipush (v := 34) hx hb d_Mod_isMarked_22 (by decide) ?_
    refine lv_icmp_eq (tgt := 38) hx hb d_Mod_isMarked_24 (by decide) (fun hc2 => ?_) (fun hc2 => ?_)
    · show W _ _ _ _ _ _ _ _ _ _ _ _ _ _ _ (F0 _ 38 _ _)
      refine lv_iconst (v := 1) hx hb d_Mod_isMarked_38 (by decide) ?_
      refine lv_goto (tgt := 43) hx hb d_Mod_isMarked_39 (by decide) ?_
      exact fin_z (g := g) (ws := Sw shM g ad S) (v := 1) hx hb hr hlocks rfl (by decide +kernel) (by decide +kernel) hP hD hS ⟨_, rfl, (by unfold r_Mod_isMarked; rw [if_pos hc1, if_pos hc2]), rfl⟩ d_Mod_isMarked_43
    · show W _ _ _ _ _ _ _ _ _ _ _ _ _ _ _ (F0 _ 27 _ _)
      refine lv_aload_n hx hb d_Mod_isMarked_27 rfl (lv_at hl 1 rfl) ?_
      refine lv_iload_n hx hb d_Mod_isMarked_28 rfl (lv_at hl 2 rfl) ?_
      refine lv_iload_n hx hb d_Mod_isMarked_29 rfl (lv_at hl 3 rfl) ?_
      refine go_iS (As := [.ref (ad 0), .int v1, .int v2]) (g := g) (A := A) (h := shM) hP hK hD hS hA hN (fun hp => va_runV (As := [.int v1, .int v2]) (rest := []) ⟨hx, hb, hml, hown, htt⟩ (a_Mod_byteOf l g _ ad S (v1) (v2) (hb7 hc1 hc2) (hb8 hc1 hc2)) ⟨(cb_L htt k_3016 k_276 k_3013 hd_Mod_byteOf ⟨(by decide +kernel), (by decide +kernel)⟩), htt _ k_3015, htt _ k_193⟩ ⟨hp.1, S_recv hK hP 0 rfl rfl, hp.2⟩ rfl rfl hl.1 rfl (lv_room (Nat.le_of_ble_eq_true rfl)) d_Mod_isMarked_30 ⟨(by decide +kernel), (by decide +kernel)⟩) (fun r9 Sn_3 H locs hw9 hP hD hS => ?_)
      obtain ⟨rfl, e9⟩ := hw9
      rw [e9] at hP hD
      refine W.widen (k := 0) (n := 0) (by decide +kernel) (by decide +kernel) ?_
      refine lv_bipush (v := 92) hx hb d_Mod_isMarked_33 (by decide) ?_
      refine lv_icmp_ne (tgt := 42) hx hb d_Mod_isMarked_35 (by decide) (fun hc3 => ?_) (fun hc3 => ?_)
      · refine lv_iconst (v := 0) hx hb d_Mod_isMarked_42 (by decide) ?_
        exact fin_z (g := g) (ws := Sw shM g ad S) (v := 0) hx hb hr hlocks rfl (by decide +kernel) (by decide +kernel) hP hD hS ⟨_, rfl, (by unfold r_Mod_isMarked; rw [if_pos hc1, if_neg hc2, if_neg hc3]), rfl⟩ d_Mod_isMarked_43
      · refine lv_iconst (v := 1) hx hb d_Mod_isMarked_38 (by decide) ?_
        refine lv_goto (tgt := 43) hx hb d_Mod_isMarked_39 (by decide) ?_
        exact fin_z (g := g) (ws := Sw shM g ad S) (v := 1) hx hb hr hlocks rfl (by decide +kernel) (by decide +kernel) hP hD hS ⟨_, rfl, (by unfold r_Mod_isMarked; rw [if_pos hc1, if_neg hc2, if_pos hc3]), rfl⟩ d_Mod_isMarked_43
  · refine lv_iload_n hx hb d_Mod_isMarked_11 rfl (lv_at hl 0 rfl) ?_
    refine lv_iconst (v := 4) hx hb d_Mod_isMarked_12 (by decide) ?_
    refine lv_icmp_ne (tgt := 42) hx hb d_Mod_isMarked_13 (by decide) (fun hc4 => ?_) (fun hc4 => ?_)
    · refine lv_iconst (v := 0) hx hb d_Mod_isMarked_42 (by decide) ?_
      exact fin_z (g := g) (ws := Sw shM g ad S) (v := 0) hx hb hr hlocks rfl (by decide +kernel) (by decide +kernel) hP hD hS ⟨_, rfl, (by unfold r_Mod_isMarked; rw [if_neg hc1, if_neg hc4]), rfl⟩ d_Mod_isMarked_43
    · refine lv_aload_n hx hb d_Mod_isMarked_16 rfl (lv_at hl 1 rfl) ?_
      refine lv_iload_n hx hb d_Mod_isMarked_17 rfl (lv_at hl 2 rfl) ?_
      refine lv_iload_n hx hb d_Mod_isMarked_18 rfl (lv_at hl 3 rfl) ?_
      show W _ _ _ _ _ _ _ _ _ _ _ _ _ _ _ (F0 _ 19 _ _)
      refine go_iS (As := [.ref (ad 0), .int v1, .int v2]) (g := g) (A := A) (h := shM) hP hK hD hS hA hN (fun hp => va_runV (As := [.int v1, .int v2]) (rest := []) ⟨hx, hb, hml, hown, htt⟩ (a_Mod_byteOf l g _ ad S (v1) (v2) (hb9 hc1 hc4) (hb10 hc1 hc4)) ⟨(cb_L htt k_3016 k_276 k_3013 hd_Mod_byteOf ⟨(by decide +kernel), (by decide +kernel)⟩), htt _ k_3015, htt _ k_193⟩ ⟨hp.1, S_recv hK hP 0 rfl rfl, hp.2⟩ rfl rfl hl.1 rfl (lv_room (Nat.le_of_ble_eq_true rfl)) d_Mod_isMarked_19 ⟨(by decide +kernel), (by decide +kernel)⟩) (fun r9 Sn_4 H locs hw9 hP hD hS => ?_)
      obtain ⟨rfl, e9⟩ := hw9
      rw [e9] at hP hD
      refine W.widen (k := 0) (n := 0) (by decide +kernel) (by decide +kernel) ?_
      refine lv_bipush (v := 34) hx hb d_Mod_isMarked_22 (by decide) ?_
      refine lv_icmp_eq (tgt := 38) hx hb d_Mod_isMarked_24 (by decide) (fun hc5 => ?_) (fun hc5 => ?_)
      · refine lv_iconst (v := 1) hx hb d_Mod_isMarked_38 (by decide) ?_
        refine lv_goto (tgt := 43) hx hb d_Mod_isMarked_39 (by decide) ?_
        exact fin_z (g := g) (ws := Sw shM g ad S) (v := 1) hx hb hr hlocks rfl (by decide +kernel) (by decide +kernel) hP hD hS ⟨_, rfl, (by unfold r_Mod_isMarked; rw [if_neg hc1, if_pos hc4, if_pos hc5]), rfl⟩ d_Mod_isMarked_43
      · refine lv_aload_n hx hb d_Mod_isMarked_27 rfl (lv_at hl 1 rfl) ?_
        refine lv_iload_n hx hb d_Mod_isMarked_28 rfl (lv_at hl 2 rfl) ?_
        refine lv_iload_n hx hb d_Mod_isMarked_29 rfl (lv_at hl 3 rfl) ?_
        refine go_iS (As := [.ref (ad 0), .int v1, .int v2]) (g := g) (A := A) (h := shM) hP hK hD hS hA hN (fun hp => va_runV (As := [.int v1, .int v2]) (rest := []) ⟨hx, hb, hml, hown, htt⟩ (a_Mod_byteOf l g _ ad S (v1) (v2) (hb11 hc1 hc4 hc5) (hb12 hc1 hc4 hc5)) ⟨(cb_L htt k_3016 k_276 k_3013 hd_Mod_byteOf ⟨(by decide +kernel), (by decide +kernel)⟩), htt _ k_3015, htt _ k_193⟩ ⟨hp.1, S_recv hK hP 0 rfl rfl, hp.2⟩ rfl rfl hl.1 rfl (lv_room (Nat.le_of_ble_eq_true rfl)) d_Mod_isMarked_30 ⟨(by decide +kernel), (by decide +kernel)⟩) (fun r9 Sn_5 H locs hw9 hP hD hS => ?_)
        obtain ⟨rfl, e9⟩ := hw9
        rw [e9] at hP hD
        refine W.widen (k := 0) (n := 0) (by decide +kernel) (by decide +kernel) ?_
        refine lv_bipush (v := 92) hx hb d_Mod_isMarked_33 (by decide) ?_
        refine lv_icmp_ne (tgt := 42) hx hb d_Mod_isMarked_35 (by decide) (fun hc6 => ?_) (fun hc6 => ?_)
        · refine lv_iconst (v := 0) hx hb d_Mod_isMarked_42 (by decide) ?_
          exact fin_z (g := g) (ws := Sw shM g ad S) (v := 0) hx hb hr hlocks rfl (by decide +kernel) (by decide +kernel) hP hD hS ⟨_, rfl, (by unfold r_Mod_isMarked; rw [if_neg hc1, if_pos hc4, if_neg hc5, if_neg hc6]), rfl⟩ d_Mod_isMarked_43
        · refine lv_iconst (v := 1) hx hb d_Mod_isMarked_38 (by decide) ?_
          refine lv_goto (tgt := 43) hx hb d_Mod_isMarked_39 (by decide) ?_
          exact fin_z (g := g) (ws := Sw shM g ad S) (v := 1) hx hb hr hlocks rfl (by decide +kernel) (by decide +kernel) hP hD hS ⟨_, rfl, (by unfold r_Mod_isMarked; rw [if_neg hc1, if_pos hc4, if_neg hc5, if_pos hc6]), rfl⟩ d_Mod_isMarked_43
def r_Mod_countsNow (S : sS) : Int32 := if (S.1 0 115) = (0 : Int32) then 1 else (if (S.2.1 61 ((S.1 0 115) - (1 : Int32) : Int32).toNatClampNeg) = (0 : Int32) then 0 else (if (S.2.1 63 ((S.1 0 115) - (1 : Int32) : Int32).toNatClampNeg) = (0 : Int32) then 0 else 1))
abbrev rm_a_Mod_countsNow : Room := { frames := 0, cells := 0, slots := 0, locals := 0 }
set_option maxHeartbeats 4000000 in
set_option maxRecDepth 100000 in
theorem a_Mod_countsNow (l : Launch) (g : gG) (sz : Nat) (ad : Nat → Nat) (S : sS) (hb0 : ¬ ((S.1 0 115) = (0 : Int32)) → vp_in ((S.1 0 115) - (1 : Int32)) 101) (hb1 : ¬ ((S.1 0 115) = (0 : Int32)) → ¬ ((S.2.1 61 ((S.1 0 115) - (1 : Int32) : Int32).toNatClampNeg) = (0 : Int32)) → vp_in ((S.1 0 115) - (1 : Int32)) 101) : Cz l y_Mod_countsNow b_Mod_countsNow 1 rm_a_Mod_countsNow g [.ref (ad 0)] (Sw shM g ad S) sz (fun r w => ∃ S' : sS, w = Sw shM g ad S' ∧ r = r_Mod_countsNow S ∧ S' = S) := by
  refine startZ (by decide) (Nat.le_of_ble_eq_true rfl) ?_
  intro p e s m below meth c A ls hx hb hr hml hlocks hmn hown htt hN hA hP hK hD hS hl
  have hown : s.vm.findClass "MacroMillModel" = some m.cls := hown
  have hl : lv_has ls 1 [(0, .ref (ad 0))] := hl
  refine lv_aload_n hx hb d_Mod_countsNow_0 rfl (lv_at hl 0 rfl) ?_
  refine S_getI (h := shM) (C := "MacroMillModel") (T := F_Mod) hx hb htt in_Mod hown hK hP 0 115 rfl rfl rfl (by decide) (htt _ k_2351) (fun _ h9 => h9) d_Mod_countsNow_1 ?_
  refine lv_if_eq (tgt := 35) hx hb d_Mod_countsNow_4 (by decide) (fun hc1 => ?_) (fun hc1 => ?_)
  · refine lv_iconst (v := 1) hx hb d_Mod_countsNow_35 (by decide) ?_
    refine lv_goto (tgt := 40) hx hb d_Mod_countsNow_36 (by decide) ?_
    exact fin_z (g := g) (ws := Sw shM g ad S) (v := 1) hx hb hr hlocks rfl (by decide +kernel) (by decide +kernel) hP hD hS ⟨_, rfl, (by unfold r_Mod_countsNow; rw [if_pos hc1]), rfl⟩ d_Mod_countsNow_40
  · refine lv_aload_n hx hb d_Mod_countsNow_7 rfl (lv_at hl 0 rfl) ?_
    refine S_getR (h := shM) (C := "MacroMillModel") (T := F_Mod) hx hb htt in_Mod hown hK hP 0 117 rfl 62 rfl rfl (by decide) (htt _ k_2353) (fun _ h9 => h9) d_Mod_countsNow_8 ?_
    refine lv_aload_n hx hb d_Mod_countsNow_11 rfl (lv_at hl 0 rfl) ?_
    refine S_getI (h := shM) (C := "MacroMillModel") (T := F_Mod) hx hb htt in_Mod hown hK hP 0 115 rfl rfl rfl (by decide) (htt _ k_2351) (fun _ h9 => h9) d_Mod_countsNow_12 ?_
    refine lv_iconst (v := 1) hx hb d_Mod_countsNow_15 (by decide) ?_
    refine lv_isub hx hb d_Mod_countsNow_16 ?_
    refine S_zald (h := shM) (i := (S.1 0 115) - (1 : Int32)) hx hb hK hP 61 rfl (hb0 hc1) d_Mod_countsNow_17 ?_
    refine lv_if_eq (tgt := 39) hx hb d_Mod_countsNow_18 (by decide) (fun hc2 => ?_) (fun hc2 => ?_)
    · refine lv_iconst (v := 0) hx hb d_Mod_countsNow_39 (by decide) ?_
      exact fin_z (g := g) (ws := Sw shM g ad S) (v := 0) hx hb hr hlocks rfl (by decide +kernel) (by decide +kernel) hP hD hS ⟨_, rfl, (by unfold r_Mod_countsNow; rw [if_neg hc1, if_pos hc2]), rfl⟩ d_Mod_countsNow_40
    · refine lv_aload_n hx hb d_Mod_countsNow_21 rfl (lv_at hl 0 rfl) ?_
      refine S_getR (h := shM) (C := "MacroMillModel") (T := F_Mod) hx hb htt in_Mod hown hK hP 0 119 rfl 64 rfl rfl (by decide) (htt _ k_2355) (fun _ h9 => h9) d_Mod_countsNow_22 ?_
      show W _ _ _ _ _ _ _ _ _ _ _ _ _ _ _ (F0 _ 25 _ _)
      refine lv_aload_n hx hb d_Mod_countsNow_25 rfl (lv_at hl 0 rfl) ?_
      refine S_getI (h := shM) (C := "MacroMillModel") (T := F_Mod) hx hb htt in_Mod hown hK hP 0 115 rfl rfl rfl (by decide) (htt _ k_2351) (fun _ h9 => h9) d_Mod_countsNow_26 ?_
      refine lv_iconst (v := 1) hx hb d_Mod_countsNow_29 (by decide) ?_
      refine lv_isub hx hb d_Mod_countsNow_30 ?_
      refine S_zald (h := shM) (i := (S.1 0 115) - (1 : Int32)) hx hb hK hP 63 rfl (hb1 hc1 hc2) d_Mod_countsNow_31 ?_
      refine lv_if_eq (tgt := 39) hx hb d_Mod_countsNow_32 (by decide) (fun hc3 => ?_) (fun hc3 => ?_)
      · refine lv_iconst (v := 0) hx hb d_Mod_countsNow_39 (by decide) ?_
        exact fin_z (g := g) (ws := Sw shM g ad S) (v := 0) hx hb hr hlocks rfl (by decide +kernel) (by decide +kernel) hP hD hS ⟨_, rfl, (by unfold r_Mod_countsNow; rw [if_neg hc1, if_neg hc2, if_pos hc3]), rfl⟩ d_Mod_countsNow_40
      · refine lv_iconst (v := 1) hx hb d_Mod_countsNow_35 (by decide) ?_
        refine lv_goto (tgt := 40) hx hb d_Mod_countsNow_36 (by decide) ?_
        exact fin_z (g := g) (ws := Sw shM g ad S) (v := 1) hx hb hr hlocks rfl (by decide +kernel) (by decide +kernel) hP hD hS ⟨_, rfl, (by unfold r_Mod_countsNow; rw [if_neg hc1, if_neg hc2, if_neg hc3]), rfl⟩ d_Mod_countsNow_40
def s_Mod_beginIf (S : sS) (v1 : Int32) (v2 : Int32) (v3 : Int32) : sS := if (S.1 0 115) = (100 : Int32) then ((s_Mod_fail2 S (21 : Int32) (v3))) else ((putI (putA (putA (putA (putA (putA S 60 (S.1 0 115 : Int32).toNatClampNeg v3) 61 (S.1 0 115 : Int32).toNatClampNeg (vp_nar .boolean v1)) 63 (S.1 0 115 : Int32).toNatClampNeg (vp_nar .boolean v2)) 62 (S.1 0 115 : Int32).toNatClampNeg (vp_nar .boolean v2)) 64 (S.1 0 115 : Int32).toNatClampNeg (vp_nar .boolean 0)) 0 115 ((S.1 0 115) + (1 : Int32))))
abbrev rm_a_Mod_beginIf : Room := { frames := 2, cells := 0, slots := 0, locals := 45 }
set_option maxHeartbeats 4000000 in
set_option maxRecDepth 100000 in
theorem a_Mod_beginIf (l : Launch) (g : gG) (sz : Nat) (ad : Nat → Nat) (S : sS) (v1 : Int32) (v2 : Int32) (v3 : Int32) (hb0 : ¬ ((S.1 0 115) = (100 : Int32)) → vp_in (S.1 0 115) 101) (hb1 : (S.1 0 115) = (100 : Int32) → vp_in (S.1 0 92) 22) : Cv l y_Mod_beginIf b_Mod_beginIf 4 rm_a_Mod_beginIf g [.ref (ad 0), .int v1, .int v2, .int v3] (Sw shM g ad S) sz (fun w => ∃ S' : sS, w = Sw shM g ad S' ∧ S' = s_Mod_beginIf S v1 v2 v3) := by
  refine startV (by decide) (Nat.le_of_ble_eq_true rfl) ?_
  intro p e s m below meth c A ls hx hb hr hml hlocks hmn hown htt hN hA hP hK hD hS hl
  have hown : s.vm.findClass "MacroMillModel" = some m.cls := hown
  have hl : lv_has ls 4 [(0, .ref (ad 0)), (1, .int v1), (2, .int v2), (3, .int v3)] := hl
  refine lv_aload_n hx hb d_Mod_beginIf_0 rfl (lv_at hl 0 rfl) ?_
  refine S_getI (h := shM) (C := "MacroMillModel") (T := F_Mod) hx hb htt in_Mod hown hK hP 0 115 rfl rfl rfl (by decide) (htt _ k_2351) (fun _ h9 => h9) d_Mod_beginIf_1 ?_
  refine lv_bipush (v := 100) hx hb d_Mod_beginIf_4 (by decide) ?_
  refine lv_icmp_ne (tgt := 17) hx hb d_Mod_beginIf_6 (by decide) (fun hc1 => ?_) (fun hc1 => ?_)
  · refine lv_aload_n hx hb d_Mod_beginIf_17 rfl (lv_at hl 0 rfl) ?_
    refine S_getR (h := shM) (C := "MacroMillModel") (T := F_Mod) hx hb htt in_Mod hown hK hP 0 116 rfl 61 rfl rfl (by decide) (htt _ k_2352) (fun _ h9 => h9) d_Mod_beginIf_18 ?_
    refine lv_aload_n hx hb d_Mod_beginIf_21 rfl (lv_at hl 0 rfl) ?_
    refine S_getI (h := shM) (C := "MacroMillModel") (T := F_Mod) hx hb htt in_Mod hown hK hP 0 115 rfl rfl rfl (by decide) (htt _ k_2351) (fun _ h9 => h9) d_Mod_beginIf_22 ?_
    refine lv_iload_n hx hb d_Mod_beginIf_25 rfl (lv_at hl 3 rfl) ?_
    refine S_iast (h := shM) (i := S.1 0 115) (v := v3) hx hb hK hP hD hS 60 rfl (hb0 hc1) d_Mod_beginIf_26 (fun H locs hP hD hS => ?_)
    refine lv_aload_n hx hb d_Mod_beginIf_27 rfl (lv_at hl 0 rfl) ?_
    refine S_getR (h := shM) (C := "MacroMillModel") (T := F_Mod) hx hb htt in_Mod hown hK hP 0 117 rfl 62 rfl rfl (by decide) (htt _ k_2353) (fun _ h9 => h9) d_Mod_beginIf_28 ?_
    show W _ _ _ _ _ _ _ _ _ _ _ _ _ _ _ (F0 _ 31 _ _)
    refine lv_aload_n hx hb d_Mod_beginIf_31 rfl (lv_at hl 0 rfl) ?_
    refine S_getI (h := shM) (C := "MacroMillModel") (T := F_Mod) hx hb htt in_Mod hown hK hP 0 115 rfl rfl rfl (by decide) (htt _ k_2351) (fun _ h9 => h9) d_Mod_beginIf_32 ?_
    refine toI (y := S.1 0 115) rfl ?_
    refine lv_iload_n hx hb d_Mod_beginIf_35 rfl (lv_at hl 1 rfl) ?_
    refine S_zast (h := shM) (i := S.1 0 115) (v := v1) hx hb hK hP hD hS 61 rfl (hb0 hc1) d_Mod_beginIf_36 (fun H locs hP hD hS => ?_)
    refine lv_aload_n hx hb d_Mod_beginIf_37 rfl (lv_at hl 0 rfl) ?_
    refine S_getR (h := shM) (C := "MacroMillModel") (T := F_Mod) hx hb htt in_Mod hown hK hP 0 119 rfl 64 rfl rfl (by decide) (htt _ k_2355) (fun _ h9 => h9) d_Mod_beginIf_38 ?_
    refine lv_aload_n hx hb d_Mod_beginIf_41 rfl (lv_at hl 0 rfl) ?_
    refine S_getI (h := shM) (C := "MacroMillModel") (T := F_Mod) hx hb htt in_Mod hown hK hP 0 115 rfl rfl rfl (by decide) (htt _ k_2351) (fun _ h9 => h9) d_Mod_beginIf_42 ?_
    refine toI (y := S.1 0 115) rfl ?_
    refine lv_iload_n hx hb d_Mod_beginIf_45 rfl (lv_at hl 2 rfl) ?_
    refine S_zast (h := shM) (i := S.1 0 115) (v := v2) hx hb hK hP hD hS 63 rfl (hb0 hc1) d_Mod_beginIf_46 (fun H locs hP hD hS => ?_)
    refine lv_aload_n hx hb d_Mod_beginIf_47 rfl (lv_at hl 0 rfl) ?_
    refine S_getR (h := shM) (C := "MacroMillModel") (T := F_Mod) hx hb htt in_Mod hown hK hP 0 118 rfl 63 rfl rfl (by decide) (htt _ k_2354) (fun _ h9 => h9) d_Mod_beginIf_48 ?_
    show W _ _ _ _ _ _ _ _ _ _ _ _ _ _ _ (F0 _ 51 _ _)
    refine lv_aload_n hx hb d_Mod_beginIf_51 rfl (lv_at hl 0 rfl) ?_
    refine S_getI (h := shM) (C := "MacroMillModel") (T := F_Mod) hx hb htt in_Mod hown hK hP 0 115 rfl rfl rfl (by decide) (htt _ k_2351) (fun _ h9 => h9) d_Mod_beginIf_52 ?_
    refine toI (y := S.1 0 115) rfl ?_
    refine lv_iload_n hx hb d_Mod_beginIf_55 rfl (lv_at hl 2 rfl) ?_
    refine S_zast (h := shM) (i := S.1 0 115) (v := v2) hx hb hK hP hD hS 62 rfl (hb0 hc1) d_Mod_beginIf_56 (fun H locs hP hD hS => ?_)
    refine lv_aload_n hx hb d_Mod_beginIf_57 rfl (lv_at hl 0 rfl) ?_
    refine S_getR (h := shM) (C := "MacroMillModel") (T := F_Mod) hx hb htt in_Mod hown hK hP 0 120 rfl 65 rfl rfl (by decide) (htt _ k_2356) (fun _ h9 => h9) d_Mod_beginIf_58 ?_
    refine lv_aload_n hx hb d_Mod_beginIf_61 rfl (lv_at hl 0 rfl) ?_
    refine S_getI (h := shM) (C := "MacroMillModel") (T := F_Mod) hx hb htt in_Mod hown hK hP 0 115 rfl rfl rfl (by decide) (htt _ k_2351) (fun _ h9 => h9) d_Mod_beginIf_62 ?_
    refine toI (y := S.1 0 115) rfl ?_
    refine lv_iconst (v := 0) hx hb d_Mod_beginIf_65 (by decide) ?_
    refine S_zast (h := shM) (i := S.1 0 115) (v := 0) hx hb hK hP hD hS 64 rfl (hb0 hc1) d_Mod_beginIf_66 (fun H locs hP hD hS => ?_)
    refine lv_aload_n hx hb d_Mod_beginIf_67 rfl (lv_at hl 0 rfl) ?_
    refine lv_dup hx hb d_Mod_beginIf_68 rfl ?_
    show W _ _ _ _ _ _ _ _ _ _ _ _ _ _ _ (F0 _ 69 _ _)
    refine S_getI (h := shM) (C := "MacroMillModel") (T := F_Mod) hx hb htt in_Mod hown hK hP 0 115 rfl rfl rfl (by decide) (htt _ k_2351) (fun _ h9 => h9) d_Mod_beginIf_69 ?_
    refine toI (y := S.1 0 115) rfl ?_
    refine lv_iconst (v := 1) hx hb d_Mod_beginIf_72 (by decide) ?_
    refine lv_iadd hx hb d_Mod_beginIf_73 ?_
    refine S_put (h := shM) (C := "MacroMillModel") (T := F_Mod) (v := (S.1 0 115) + (1 : Int32)) hx hb htt in_Mod t_Mod t_Mod_ok n_Mod hown hK hP hD hS 0 115 rfl rfl rfl (by decide) (htt _ k_2351) (fun _ h9 => h9) rfl rfl rfl d_Mod_beginIf_74 (fun H locs hP hD hS => ?_)
    exact fin_v (g := g) (ws := Sw shM g ad (putI (putA (putA (putA (putA (putA S 60 (S.1 0 115 : Int32).toNatClampNeg v3) 61 (S.1 0 115 : Int32).toNatClampNeg (vp_nar .boolean v1)) 63 (S.1 0 115 : Int32).toNatClampNeg (vp_nar .boolean v2)) 62 (S.1 0 115 : Int32).toNatClampNeg (vp_nar .boolean v2)) 64 (S.1 0 115 : Int32).toNatClampNeg (vp_nar .boolean 0)) 0 115 ((S.1 0 115) + (1 : Int32)))) hx hb hr hlocks (by decide +kernel) (by decide +kernel) hP hD hS ⟨_, rfl, (by unfold s_Mod_beginIf; rw [if_neg hc1])⟩ d_Mod_beginIf_77
  · refine lv_aload_n hx hb d_Mod_beginIf_9 rfl (lv_at hl 0 rfl) ?_
    refine lv_bipush (v := 21) hx hb d_Mod_beginIf_10 (by decide) ?_
    refine lv_iload_n hx hb d_Mod_beginIf_12 rfl (lv_at hl 3 rfl) ?_
    refine go_vS (As := [.ref (ad 0), .int 21, .int v3]) (g := g) (A := A) (h := shM) hP hK hD hS hA hN (fun hp => va_runV (As := [.int 21, .int v3]) (rest := []) ⟨hx, hb, hml, hown, htt⟩ (a_Mod_fail2 l g _ ad S (21 : Int32) (v3) (hb1 hc1)) ⟨(cb_L htt k_2985 k_276 k_2982 hd_Mod_fail2 ⟨(by decide +kernel), (by decide +kernel)⟩), htt _ k_2984, htt _ k_187⟩ ⟨hp.1, S_recv hK hP 0 rfl rfl, hp.2⟩ rfl rfl hl.1 rfl (lv_room (Nat.le_of_ble_eq_true rfl)) d_Mod_beginIf_13 ⟨(by decide +kernel), (by decide +kernel)⟩) (fun Sn H locs hw9 hP hD hS => ?_)
    obtain rfl := hw9
    refine W.widen (k := 0) (n := 0) (by decide +kernel) (by decide +kernel) ?_
    exact fin_v (g := g) (ws := Sw shM g ad (s_Mod_fail2 S (21 : Int32) (v3))) hx hb hr hlocks (by decide +kernel) (by decide +kernel) hP hD hS ⟨_, rfl, (by unfold s_Mod_beginIf; rw [if_pos hc1])⟩ d_Mod_beginIf_16
def s_Mod_fault (S : sS) (v1 : Int32) : sS := (s_Mod_fail2 S (v1) (S.1 0 121))
abbrev rm_a_Mod_fault : Room := { frames := 2, cells := 0, slots := 0, locals := 45 }
set_option maxHeartbeats 4000000 in
set_option maxRecDepth 100000 in
theorem a_Mod_fault (l : Launch) (g : gG) (sz : Nat) (ad : Nat → Nat) (S : sS) (v1 : Int32) (hb0 : vp_in (S.1 0 92) 22) : Cv l y_Mod_fault b_Mod_fault 2 rm_a_Mod_fault g [.ref (ad 0), .int v1] (Sw shM g ad S) sz (fun w => ∃ S' : sS, w = Sw shM g ad S' ∧ S' = s_Mod_fault S v1) := by
  refine startV (by decide) (Nat.le_of_ble_eq_true rfl) ?_
  intro p e s m below meth c A ls hx hb hr hml hlocks hmn hown htt hN hA hP hK hD hS hl
  have hown : s.vm.findClass "MacroMillModel" = some m.cls := hown
  have hl : lv_has ls 2 [(0, .ref (ad 0)), (1, .int v1)] := hl
  refine lv_aload_n hx hb d_Mod_fault_0 rfl (lv_at hl 0 rfl) ?_
  refine lv_iload_n hx hb d_Mod_fault_1 rfl (lv_at hl 1 rfl) ?_
  refine lv_aload_n hx hb d_Mod_fault_2 rfl (lv_at hl 0 rfl) ?_
  refine S_getI (h := shM) (C := "MacroMillModel") (T := F_Mod) hx hb htt in_Mod hown hK hP 0 121 rfl rfl rfl (by decide) (htt _ k_2357) (fun _ h9 => h9) d_Mod_fault_3 ?_
  refine go_vS (As := [.ref (ad 0), .int v1, .int (S.1 0 121)]) (g := g) (A := A) (h := shM) hP hK hD hS hA hN (fun hp => va_runV (As := [.int v1, .int (S.1 0 121)]) (rest := []) ⟨hx, hb, hml, hown, htt⟩ (a_Mod_fail2 l g _ ad S (v1) (S.1 0 121) hb0) ⟨(cb_L htt k_2985 k_276 k_2982 hd_Mod_fail2 ⟨(by decide +kernel), (by decide +kernel)⟩), htt _ k_2984, htt _ k_187⟩ ⟨hp.1, S_recv hK hP 0 rfl rfl, hp.2⟩ rfl rfl hl.1 rfl (lv_room (Nat.le_of_ble_eq_true rfl)) d_Mod_fault_6 ⟨(by decide +kernel), (by decide +kernel)⟩) (fun Sn H locs hw9 hP hD hS => ?_)
  obtain rfl := hw9
  refine W.widen (k := 0) (n := 0) (by decide +kernel) (by decide +kernel) ?_
  exact fin_v (g := g) (ws := Sw shM g ad (s_Mod_fail2 S (v1) (S.1 0 121))) hx hb hr hlocks (by decide +kernel) (by decide +kernel) hP hD hS ⟨_, rfl, rfl⟩ d_Mod_fault_9
def s_Mod_want (S : sS) (v1 : Int32) : sS := if (65 : Int32) ≤ (S.1 0 129) then S else ((putI (putA S 67 (S.1 0 129 : Int32).toNatClampNeg (vp_nar .byte v1.toInt8.toInt32)) 0 129 ((S.1 0 129) + (1 : Int32))))
abbrev rm_a_Mod_want : Room := { frames := 0, cells := 0, slots := 0, locals := 0 }
set_option maxHeartbeats 4000000 in
set_option maxRecDepth 100000 in
theorem a_Mod_want (l : Launch) (g : gG) (sz : Nat) (ad : Nat → Nat) (S : sS) (v1 : Int32) (hb0 : ¬ ((65 : Int32) ≤ (S.1 0 129)) → vp_in (S.1 0 129) 65) : Cv l y_Mod_want b_Mod_want 2 rm_a_Mod_want g [.ref (ad 0), .int v1] (Sw shM g ad S) sz (fun w => ∃ S' : sS, w = Sw shM g ad S' ∧ S' = s_Mod_want S v1) := by
  refine startV (by decide) (Nat.le_of_ble_eq_true rfl) ?_
  intro p e s m below meth c A ls hx hb hr hml hlocks hmn hown htt hN hA hP hK hD hS hl
  have hown : s.vm.findClass "MacroMillModel" = some m.cls := hown
  have hl : lv_has ls 2 [(0, .ref (ad 0)), (1, .int v1)] := hl
  refine lv_aload_n hx hb d_Mod_want_0 rfl (lv_at hl 0 rfl) ?_
  refine S_getI (h := shM) (C := "MacroMillModel") (T := F_Mod) hx hb htt in_Mod hown hK hP 0 129 rfl rfl rfl (by decide) (htt _ k_2365) (fun _ h9 => h9) d_Mod_want_1 ?_
  refine lv_bipush (v := 65) hx hb d_Mod_want_4 (by decide) ?_
  refine lv_icmp_ge (tgt := 30) hx hb d_Mod_want_6 (by decide) (fun hc1 => ?_) (fun hc1 => ?_)
  · exact fin_v (g := g) (ws := Sw shM g ad S) hx hb hr hlocks (by decide +kernel) (by decide +kernel) hP hD hS ⟨_, rfl, (by unfold s_Mod_want; rw [if_pos hc1])⟩ d_Mod_want_30
  · refine lv_aload_n hx hb d_Mod_want_9 rfl (lv_at hl 0 rfl) ?_
    refine S_getR (h := shM) (C := "MacroMillModel") (T := F_Mod) hx hb htt in_Mod hown hK hP 0 128 rfl 68 rfl rfl (by decide) (htt _ k_2364) (fun _ h9 => h9) d_Mod_want_10 ?_
    refine lv_aload_n hx hb d_Mod_want_13 rfl (lv_at hl 0 rfl) ?_
    refine S_getI (h := shM) (C := "MacroMillModel") (T := F_Mod) hx hb htt in_Mod hown hK hP 0 129 rfl rfl rfl (by decide) (htt _ k_2365) (fun _ h9 => h9) d_Mod_want_14 ?_
    refine lv_iload_n hx hb d_Mod_want_17 rfl (lv_at hl 1 rfl) ?_
    refine lv_i2b (v := v1.toInt8.toInt32) hx hb d_Mod_want_18 rfl ?_
    refine S_bast (h := shM) (i := S.1 0 129) (v := v1.toInt8.toInt32) hx hb hK hP hD hS 67 rfl (hb0 hc1) d_Mod_want_19 (fun H locs hP hD hS => ?_)
    refine lv_aload_n hx hb d_Mod_want_20 rfl (lv_at hl 0 rfl) ?_
    show W _ _ _ _ _ _ _ _ _ _ _ _ _ _ _ (F0 _ 21 _ _)
    refine lv_dup hx hb d_Mod_want_21 rfl ?_
    refine S_getI (h := shM) (C := "MacroMillModel") (T := F_Mod) hx hb htt in_Mod hown hK hP 0 129 rfl rfl rfl (by decide) (htt _ k_2365) (fun _ h9 => h9) d_Mod_want_22 ?_
    refine toI (y := S.1 0 129) rfl ?_
    refine lv_iconst (v := 1) hx hb d_Mod_want_25 (by decide) ?_
    refine lv_iadd hx hb d_Mod_want_26 ?_
    refine S_put (h := shM) (C := "MacroMillModel") (T := F_Mod) (v := (S.1 0 129) + (1 : Int32)) hx hb htt in_Mod t_Mod t_Mod_ok n_Mod hown hK hP hD hS 0 129 rfl rfl rfl (by decide) (htt _ k_2365) (fun _ h9 => h9) rfl rfl rfl d_Mod_want_27 (fun H locs hP hD hS => ?_)
    exact fin_v (g := g) (ws := Sw shM g ad (putI (putA S 67 (S.1 0 129 : Int32).toNatClampNeg (vp_nar .byte v1.toInt8.toInt32)) 0 129 ((S.1 0 129) + (1 : Int32)))) hx hb hr hlocks (by decide +kernel) (by decide +kernel) hP hD hS ⟨_, rfl, (by unfold s_Mod_want; rw [if_neg hc1])⟩ d_Mod_want_30
def r_Mod_isPlainText (S : sS) (v1 : Int32) : Int32 := if v1 < (0 : Int32) then 0 else (if (r_Mod_kindOf S (v1)) = (3 : Int32) then (if (r_Mod_byteOf S (v1) (0 : Int32)) = (34 : Int32) then 1 else 0) else 0)
abbrev rm_a_Mod_isPlainText : Room := { frames := 2, cells := 0, slots := 0, locals := 46 }
set_option maxHeartbeats 4000000 in
set_option maxRecDepth 100000 in
theorem a_Mod_isPlainText (l : Launch) (g : gG) (sz : Nat) (ad : Nat → Nat) (S : sS) (v1 : Int32) (hb0 : ¬ (v1 < (0 : Int32)) → vp_in (((v1))) 260000) (hb1 : ¬ (v1 < (0 : Int32)) → vp_in ((S.2.1 27 (((v1)) : Int32).toNatClampNeg) + (0 : Int32)) 125552) (hb2 : ¬ (v1 < (0 : Int32)) → vp_in ((v1)) 260000) (hb3 : ¬ (v1 < (0 : Int32)) → ¬ ((S.2.1 28 ((v1) : Int32).toNatClampNeg) ≤ (1 : Int32)) → vp_in (((v1))) 260000) (hb4 : ¬ (v1 < (0 : Int32)) → ¬ ((S.2.1 28 ((v1) : Int32).toNatClampNeg) ≤ (1 : Int32)) → vp_in ((S.2.1 27 (((v1)) : Int32).toNatClampNeg) + (1 : Int32)) 125552) (hb5 : ¬ (v1 < (0 : Int32)) → (r_Mod_kindOf S (v1)) = (3 : Int32) → vp_in ((v1)) 260000) (hb6 : ¬ (v1 < (0 : Int32)) → (r_Mod_kindOf S (v1)) = (3 : Int32) → vp_in ((S.2.1 27 ((v1) : Int32).toNatClampNeg) + (0 : Int32)) 125552) : Cz l y_Mod_isPlainText b_Mod_isPlainText 2 rm_a_Mod_isPlainText g [.ref (ad 0), .int v1] (Sw shM g ad S) sz (fun r w => ∃ S' : sS, w = Sw shM g ad S' ∧ r = r_Mod_isPlainText S v1 ∧ S' = S) := by
  refine startZ (by decide) (Nat.le_of_ble_eq_true rfl) ?_
  intro p e s m below meth c A ls hx hb hr hml hlocks hmn hown htt hN hA hP hK hD hS hl
  have hown : s.vm.findClass "MacroMillModel" = some m.cls := hown
  have hl : lv_has ls 2 [(0, .ref (ad 0)), (1, .int v1)] := hl
  refine lv_iload_n hx hb d_Mod_isPlainText_0 rfl (lv_at hl 1 rfl) ?_
  refine lv_if_lt (tgt := 28) hx hb d_Mod_isPlainText_1 (by decide) (fun hc1 => ?_) (fun hc1 => ?_)
  · refine lv_iconst (v := 0) hx hb d_Mod_isPlainText_28 (by decide) ?_
    exact fin_z (g := g) (ws := Sw shM g ad S) (v := 0) hx hb hr hlocks rfl (by decide +kernel) (by decide +kernel) hP hD hS ⟨_, rfl, (by unfold r_Mod_isPlainText; rw [if_pos hc1]), rfl⟩ d_Mod_isPlainText_29
  · refine lv_aload_n hx hb d_Mod_isPlainText_4 rfl (lv_at hl 0 rfl) ?_
    refine lv_iload_n hx hb d_Mod_isPlainText_5 rfl (lv_at hl 1 rfl) ?_
    refine go_iS (As := [.ref (ad 0), .int v1]) (g := g) (A := A) (h := shM) hP hK hD hS hA hN (fun hp => va_runV (As := [.int v1]) (rest := []) ⟨hx, hb, hml, hown, htt⟩ (a_Mod_kindOf l g _ ad S (v1) (hb0 hc1) (hb1 hc1) (hb2 hc1) (hb3 hc1) (hb4 hc1)) ⟨(cb_L htt k_3036 k_276 k_3033 hd_Mod_kindOf ⟨(by decide +kernel), (by decide +kernel)⟩), htt _ k_3035, htt _ k_198⟩ ⟨hp.1, S_recv hK hP 0 rfl rfl, hp.2⟩ rfl rfl hl.1 rfl (lv_room (Nat.le_of_ble_eq_true rfl)) d_Mod_isPlainText_6 ⟨(by decide +kernel), (by decide +kernel)⟩) (fun r9 Sn H locs hw9 hP hD hS => ?_)
    obtain ⟨rfl, e9⟩ := hw9
    rw [e9] at hP hD
    refine W.widen (k := 0) (n := 0) (by decide +kernel) (by decide +kernel) ?_
    refine lv_iconst (v := 3) hx hb d_Mod_isPlainText_9 (by decide) ?_
    refine lv_icmp_ne (tgt := 28) hx hb d_Mod_isPlainText_10 (by decide) (fun hc2 => ?_) (fun hc2 => ?_)
    · refine lv_iconst (v := 0) hx hb d_Mod_isPlainText_28 (by decide) ?_
      exact fin_z (g := g) (ws := Sw shM g ad S) (v := 0) hx hb hr hlocks rfl (by decide +kernel) (by decide +kernel) hP hD hS ⟨_, rfl, (by unfold r_Mod_isPlainText; rw [if_neg hc1, if_neg hc2]), rfl⟩ d_Mod_isPlainText_29
    · refine lv_aload_n hx hb d_Mod_isPlainText_13 rfl (lv_at hl 0 rfl) ?_
      refine lv_iload_n hx hb d_Mod_isPlainText_14 rfl (lv_at hl 1 rfl) ?_
      refine lv_iconst (v := 0) hx hb d_Mod_isPlainText_15 (by decide) ?_
      refine go_iS (As := [.ref (ad 0), .int v1, .int 0]) (g := g) (A := A) (h := shM) hP hK hD hS hA hN (fun hp => va_runV (As := [.int v1, .int 0]) (rest := []) ⟨hx, hb, hml, hown, htt⟩ (a_Mod_byteOf l g _ ad S (v1) (0 : Int32) (hb5 hc1 hc2) (hb6 hc1 hc2)) ⟨(cb_L htt k_3016 k_276 k_3013 hd_Mod_byteOf ⟨(by decide +kernel), (by decide +kernel)⟩), htt _ k_3015, htt _ k_193⟩ ⟨hp.1, S_recv hK hP 0 rfl rfl, hp.2⟩ rfl rfl hl.1 rfl (lv_room (Nat.le_of_ble_eq_true rfl)) d_Mod_isPlainText_16 ⟨(by decide +kernel), (by decide +kernel)⟩) (fun r9 Sn_2 H locs hw9 hP hD hS => ?_)
      obtain ⟨rfl, e9⟩ := hw9
      rw [e9] at hP hD
      refine W.widen (k := 0) (n := 0) (by decide +kernel) (by decide +kernel) ?_
      refine lv_bipush (v := 34) hx hb d_Mod_isPlainText_19 (by decide) ?_
      refine lv_icmp_ne (tgt := 28) hx hb d_Mod_isPlainText_21 (by decide) (fun hc3 => ?_) (fun hc3 => ?_)
      · refine lv_iconst (v := 0) hx hb d_Mod_isPlainText_28 (by decide) ?_
        show W _ _ _ _ _ _ _ _ _ _ _ _ _ _ _ (F0 _ 29 _ _)
        exact fin_z (g := g) (ws := Sw shM g ad S) (v := 0) hx hb hr hlocks rfl (by decide +kernel) (by decide +kernel) hP hD hS ⟨_, rfl, (by unfold r_Mod_isPlainText; rw [if_neg hc1, if_pos hc2, if_neg hc3]), rfl⟩ d_Mod_isPlainText_29
      · refine lv_iconst (v := 1) hx hb d_Mod_isPlainText_24 (by decide) ?_
        show W _ _ _ _ _ _ _ _ _ _ _ _ _ _ _ (F0 _ 25 _ _)
        refine lv_goto (tgt := 29) hx hb d_Mod_isPlainText_25 (by decide) ?_
        exact fin_z (g := g) (ws := Sw shM g ad S) (v := 1) hx hb hr hlocks rfl (by decide +kernel) (by decide +kernel) hP hD hS ⟨_, rfl, (by unfold r_Mod_isPlainText; rw [if_neg hc1, if_pos hc2, if_pos hc3]), rfl⟩ d_Mod_isPlainText_29
def r_Mod_sizeNow (S : sS) (v1 : Int32) : Int32 := if v1 = (S.1 0 132) then (S.1 0 133) else (S.2.1 5 (v1 : Int32).toNatClampNeg)
abbrev rm_a_Mod_sizeNow : Room := { frames := 0, cells := 0, slots := 0, locals := 0 }
set_option maxHeartbeats 4000000 in
set_option maxRecDepth 100000 in
theorem a_Mod_sizeNow (l : Launch) (g : gG) (sz : Nat) (ad : Nat → Nat) (S : sS) (v1 : Int32) (hb0 : ¬ (v1 = (S.1 0 132)) → vp_in (v1) 32) : Ci l y_Mod_sizeNow b_Mod_sizeNow 2 rm_a_Mod_sizeNow g [.ref (ad 0), .int v1] (Sw shM g ad S) sz (fun r w => ∃ S' : sS, w = Sw shM g ad S' ∧ r = r_Mod_sizeNow S v1 ∧ S' = S) := by
  refine startI (by decide) (Nat.le_of_ble_eq_true rfl) ?_
  intro p e s m below meth c A ls hx hb hr hml hlocks hmn hown htt hN hA hP hK hD hS hl
  have hown : s.vm.findClass "MacroMillModel" = some m.cls := hown
  have hl : lv_has ls 2 [(0, .ref (ad 0)), (1, .int v1)] := hl
  refine lv_iload_n hx hb d_Mod_sizeNow_0 rfl (lv_at hl 1 rfl) ?_
  refine lv_aload_n hx hb d_Mod_sizeNow_1 rfl (lv_at hl 0 rfl) ?_
  refine S_getI (h := shM) (C := "MacroMillModel") (T := F_Mod) hx hb htt in_Mod hown hK hP 0 132 rfl rfl rfl (by decide) (htt _ k_2368) (fun _ h9 => h9) d_Mod_sizeNow_2 ?_
  refine lv_icmp_ne (tgt := 15) hx hb d_Mod_sizeNow_5 (by decide) (fun hc1 => ?_) (fun hc1 => ?_)
  · refine lv_aload_n hx hb d_Mod_sizeNow_15 rfl (lv_at hl 0 rfl) ?_
    refine S_getR (h := shM) (C := "MacroMillModel") (T := F_Mod) hx hb htt in_Mod hown hK hP 0 8 rfl 6 rfl rfl (by decide) (htt _ k_2244) (fun _ h9 => h9) d_Mod_sizeNow_16 ?_
    refine lv_iload_n hx hb d_Mod_sizeNow_19 rfl (lv_at hl 1 rfl) ?_
    refine S_iald (h := shM) (i := v1) hx hb hK hP 5 rfl (hb0 hc1) d_Mod_sizeNow_20 ?_
    exact fin_i (g := g) (ws := Sw shM g ad S) (v := S.2.1 5 (v1 : Int32).toNatClampNeg) hx hb hr hlocks (by decide +kernel) (by decide +kernel) hP hD hS ⟨_, rfl, (by unfold r_Mod_sizeNow; rw [if_neg hc1]), rfl⟩ d_Mod_sizeNow_21
  · refine lv_aload_n hx hb d_Mod_sizeNow_8 rfl (lv_at hl 0 rfl) ?_
    refine S_getI (h := shM) (C := "MacroMillModel") (T := F_Mod) hx hb htt in_Mod hown hK hP 0 133 rfl rfl rfl (by decide) (htt _ k_2369) (fun _ h9 => h9) d_Mod_sizeNow_9 ?_
    refine lv_goto (tgt := 21) hx hb d_Mod_sizeNow_12 (by decide) ?_
    exact fin_i (g := g) (ws := Sw shM g ad S) (v := S.1 0 133) hx hb hr hlocks (by decide +kernel) (by decide +kernel) hP hD hS ⟨_, rfl, (by unfold r_Mod_sizeNow; rw [if_pos hc1]), rfl⟩ d_Mod_sizeNow_21
def s_Mod_enterFile (S : sS) (v1 : Int32) : sS := (putA (putA (putA (putA (putA S 48 (S.1 0 92 : Int32).toNatClampNeg v1) 59 (S.1 0 92 : Int32).toNatClampNeg ((putA S 48 (S.1 0 92 : Int32).toNatClampNeg v1).2.1 25 (v1 : Int32).toNatClampNeg)) 49 (S.1 0 92 : Int32).toNatClampNeg 0) 50 (S.1 0 92 : Int32).toNatClampNeg (((-1) : Int32) - v1)) 51 (S.1 0 92 : Int32).toNatClampNeg ((putA (putA (putA (putA S 48 (S.1 0 92 : Int32).toNatClampNeg v1) 59 (S.1 0 92 : Int32).toNatClampNeg ((putA S 48 (S.1 0 92 : Int32).toNatClampNeg v1).2.1 25 (v1 : Int32).toNatClampNeg)) 49 (S.1 0 92 : Int32).toNatClampNeg 0) 50 (S.1 0 92 : Int32).toNatClampNeg (((-1) : Int32) - v1)).2.1 2 (v1 : Int32).toNatClampNeg))
abbrev rm_a_Mod_enterFile : Room := { frames := 0, cells := 0, slots := 0, locals := 0 }
set_option maxHeartbeats 4000000 in
set_option maxRecDepth 100000 in
theorem a_Mod_enterFile (l : Launch) (g : gG) (sz : Nat) (ad : Nat → Nat) (S : sS) (v1 : Int32) (hb0 : vp_in (S.1 0 92) 22) (hb1 : vp_in (v1) 32) : Cv l y_Mod_enterFile b_Mod_enterFile 2 rm_a_Mod_enterFile g [.ref (ad 0), .int v1] (Sw shM g ad S) sz (fun w => ∃ S' : sS, w = Sw shM g ad S' ∧ S' = s_Mod_enterFile S v1) := by
  refine startV (by decide) (Nat.le_of_ble_eq_true rfl) ?_
  intro p e s m below meth c A ls hx hb hr hml hlocks hmn hown htt hN hA hP hK hD hS hl
  have hown : s.vm.findClass "MacroMillModel" = some m.cls := hown
  have hl : lv_has ls 2 [(0, .ref (ad 0)), (1, .int v1)] := hl
  refine lv_aload_n hx hb d_Mod_enterFile_0 rfl (lv_at hl 0 rfl) ?_
  refine S_getR (h := shM) (C := "MacroMillModel") (T := F_Mod) hx hb htt in_Mod hown hK hP 0 94 rfl 49 rfl rfl (by decide) (htt _ k_2330) (fun _ h9 => h9) d_Mod_enterFile_1 ?_
  refine lv_aload_n hx hb d_Mod_enterFile_4 rfl (lv_at hl 0 rfl) ?_
  refine S_getI (h := shM) (C := "MacroMillModel") (T := F_Mod) hx hb htt in_Mod hown hK hP 0 92 rfl rfl rfl (by decide) (htt _ k_2328) (fun _ h9 => h9) d_Mod_enterFile_5 ?_
  refine lv_iload_n hx hb d_Mod_enterFile_8 rfl (lv_at hl 1 rfl) ?_
  refine S_iast (h := shM) (i := S.1 0 92) (v := v1) hx hb hK hP hD hS 48 rfl hb0 d_Mod_enterFile_9 (fun H locs hP hD hS => ?_)
  refine lv_aload_n hx hb d_Mod_enterFile_10 rfl (lv_at hl 0 rfl) ?_
  refine S_getR (h := shM) (C := "MacroMillModel") (T := F_Mod) hx hb htt in_Mod hown hK hP 0 107 rfl 60 rfl rfl (by decide) (htt _ k_2343) (fun _ h9 => h9) d_Mod_enterFile_11 ?_
  refine lv_aload_n hx hb d_Mod_enterFile_14 rfl (lv_at hl 0 rfl) ?_
  refine S_getI (h := shM) (C := "MacroMillModel") (T := F_Mod) hx hb htt in_Mod hown hK hP 0 92 rfl rfl rfl (by decide) (htt _ k_2328) (fun _ h9 => h9) d_Mod_enterFile_15 ?_
  refine toI (y := S.1 0 92) rfl ?_
  refine lv_aload_n hx hb d_Mod_enterFile_18 rfl (lv_at hl 0 rfl) ?_
  show W _ _ _ _ _ _ _ _ _ _ _ _ _ _ _ (F0 _ 19 _ _)
  refine S_getR (h := shM) (C := "MacroMillModel") (T := F_Mod) hx hb htt in_Mod hown hK hP 0 62 rfl 26 rfl rfl (by decide) (htt _ k_2298) (fun _ h9 => h9) d_Mod_enterFile_19 ?_
  refine lv_iload_n hx hb d_Mod_enterFile_22 rfl (lv_at hl 1 rfl) ?_
  refine S_iald (h := shM) (i := v1) hx hb hK hP 25 rfl hb1 d_Mod_enterFile_23 ?_
  refine S_iast (h := shM) (i := S.1 0 92) (v := (putA S 48 (S.1 0 92 : Int32).toNatClampNeg v1).2.1 25 (v1 : Int32).toNatClampNeg) hx hb hK hP hD hS 59 rfl hb0 d_Mod_enterFile_24 (fun H locs hP hD hS => ?_)
  refine lv_aload_n hx hb d_Mod_enterFile_25 rfl (lv_at hl 0 rfl) ?_
  refine S_getR (h := shM) (C := "MacroMillModel") (T := F_Mod) hx hb htt in_Mod hown hK hP 0 95 rfl 50 rfl rfl (by decide) (htt _ k_2331) (fun _ h9 => h9) d_Mod_enterFile_26 ?_
  refine lv_aload_n hx hb d_Mod_enterFile_29 rfl (lv_at hl 0 rfl) ?_
  refine S_getI (h := shM) (C := "MacroMillModel") (T := F_Mod) hx hb htt in_Mod hown hK hP 0 92 rfl rfl rfl (by decide) (htt _ k_2328) (fun _ h9 => h9) d_Mod_enterFile_30 ?_
  refine toI (y := S.1 0 92) rfl ?_
  refine lv_iconst (v := 0) hx hb d_Mod_enterFile_33 (by decide) ?_
  refine S_iast (h := shM) (i := S.1 0 92) (v := 0) hx hb hK hP hD hS 49 rfl hb0 d_Mod_enterFile_34 (fun H locs hP hD hS => ?_)
  refine lv_aload_n hx hb d_Mod_enterFile_35 rfl (lv_at hl 0 rfl) ?_
  refine S_getR (h := shM) (C := "MacroMillModel") (T := F_Mod) hx hb htt in_Mod hown hK hP 0 96 rfl 51 rfl rfl (by decide) (htt _ k_2332) (fun _ h9 => h9) d_Mod_enterFile_36 ?_
  show W _ _ _ _ _ _ _ _ _ _ _ _ _ _ _ (F0 _ 39 _ _)
  refine lv_aload_n hx hb d_Mod_enterFile_39 rfl (lv_at hl 0 rfl) ?_
  refine S_getI (h := shM) (C := "MacroMillModel") (T := F_Mod) hx hb htt in_Mod hown hK hP 0 92 rfl rfl rfl (by decide) (htt _ k_2328) (fun _ h9 => h9) d_Mod_enterFile_40 ?_
  refine toI (y := S.1 0 92) rfl ?_
  refine lv_iconst (v := (-1)) hx hb d_Mod_enterFile_43 (by decide) ?_
  refine lv_iload_n hx hb d_Mod_enterFile_44 rfl (lv_at hl 1 rfl) ?_
  refine lv_isub hx hb d_Mod_enterFile_45 ?_
  refine S_iast (h := shM) (i := S.1 0 92) (v := ((-1) : Int32) - v1) hx hb hK hP hD hS 50 rfl hb0 d_Mod_enterFile_46 (fun H locs hP hD hS => ?_)
  refine lv_aload_n hx hb d_Mod_enterFile_47 rfl (lv_at hl 0 rfl) ?_
  refine S_getR (h := shM) (C := "MacroMillModel") (T := F_Mod) hx hb htt in_Mod hown hK hP 0 97 rfl 52 rfl rfl (by decide) (htt _ k_2333) (fun _ h9 => h9) d_Mod_enterFile_48 ?_
  refine lv_aload_n hx hb d_Mod_enterFile_51 rfl (lv_at hl 0 rfl) ?_
  refine S_getI (h := shM) (C := "MacroMillModel") (T := F_Mod) hx hb htt in_Mod hown hK hP 0 92 rfl rfl rfl (by decide) (htt _ k_2328) (fun _ h9 => h9) d_Mod_enterFile_52 ?_
  refine toI (y := S.1 0 92) rfl ?_
  refine lv_aload_n hx hb d_Mod_enterFile_55 rfl (lv_at hl 0 rfl) ?_
  refine S_getR (h := shM) (C := "MacroMillModel") (T := F_Mod) hx hb htt in_Mod hown hK hP 0 5 rfl 3 rfl rfl (by decide) (htt _ k_2241) (fun _ h9 => h9) d_Mod_enterFile_56 ?_
  show W _ _ _ _ _ _ _ _ _ _ _ _ _ _ _ (F0 _ 59 _ _)
  refine lv_iload_n hx hb d_Mod_enterFile_59 rfl (lv_at hl 1 rfl) ?_
  refine S_iald (h := shM) (i := v1) hx hb hK hP 2 rfl hb1 d_Mod_enterFile_60 ?_
  refine S_iast (h := shM) (i := S.1 0 92) (v := (putA (putA (putA (putA S 48 (S.1 0 92 : Int32).toNatClampNeg v1) 59 (S.1 0 92 : Int32).toNatClampNeg ((putA S 48 (S.1 0 92 : Int32).toNatClampNeg v1).2.1 25 (v1 : Int32).toNatClampNeg)) 49 (S.1 0 92 : Int32).toNatClampNeg 0) 50 (S.1 0 92 : Int32).toNatClampNeg (((-1) : Int32) - v1)).2.1 2 (v1 : Int32).toNatClampNeg) hx hb hK hP hD hS 51 rfl hb0 d_Mod_enterFile_61 (fun H locs hP hD hS => ?_)
  exact fin_v (g := g) (ws := Sw shM g ad (putA (putA (putA (putA (putA S 48 (S.1 0 92 : Int32).toNatClampNeg v1) 59 (S.1 0 92 : Int32).toNatClampNeg ((putA S 48 (S.1 0 92 : Int32).toNatClampNeg v1).2.1 25 (v1 : Int32).toNatClampNeg)) 49 (S.1 0 92 : Int32).toNatClampNeg 0) 50 (S.1 0 92 : Int32).toNatClampNeg (((-1) : Int32) - v1)) 51 (S.1 0 92 : Int32).toNatClampNeg ((putA (putA (putA (putA S 48 (S.1 0 92 : Int32).toNatClampNeg v1) 59 (S.1 0 92 : Int32).toNatClampNeg ((putA S 48 (S.1 0 92 : Int32).toNatClampNeg v1).2.1 25 (v1 : Int32).toNatClampNeg)) 49 (S.1 0 92 : Int32).toNatClampNeg 0) 50 (S.1 0 92 : Int32).toNatClampNeg (((-1) : Int32) - v1)).2.1 2 (v1 : Int32).toNatClampNeg))) hx hb hr hlocks (by decide +kernel) (by decide +kernel) hP hD hS ⟨_, rfl, rfl⟩ d_Mod_enterFile_62
def s_Mod_goOn (S : sS) : sS := if (S.1 0 134) < (0 : Int32) then ((putI S 0 134 (-1))) else ((putI S 0 134 (S.2.1 31 (S.1 0 134 : Int32).toNatClampNeg)))
abbrev rm_a_Mod_goOn : Room := { frames := 0, cells := 0, slots := 0, locals := 0 }
set_option maxHeartbeats 4000000 in
set_option maxRecDepth 100000 in
theorem a_Mod_goOn (l : Launch) (g : gG) (sz : Nat) (ad : Nat → Nat) (S : sS) (hb0 : ¬ ((S.1 0 134) < (0 : Int32)) → vp_in (S.1 0 134) 260000) : Cv l y_Mod_goOn b_Mod_goOn 1 rm_a_Mod_goOn g [.ref (ad 0)] (Sw shM g ad S) sz (fun w => ∃ S' : sS, w = Sw shM g ad S' ∧ S' = s_Mod_goOn S) := by
  refine startV (by decide) (Nat.le_of_ble_eq_true rfl) ?_
  intro p e s m below meth c A ls hx hb hr hml hlocks hmn hown htt hN hA hP hK hD hS hl
  have hown : s.vm.findClass "MacroMillModel" = some m.cls := hown
  have hl : lv_has ls 1 [(0, .ref (ad 0))] := hl
  refine lv_aload_n hx hb d_Mod_goOn_0 rfl (lv_at hl 0 rfl) ?_
  refine lv_aload_n hx hb d_Mod_goOn_1 rfl (lv_at hl 0 rfl) ?_
  refine S_getI (h := shM) (C := "MacroMillModel") (T := F_Mod) hx hb htt in_Mod hown hK hP 0 134 rfl rfl rfl (by decide) (htt _ k_2370) (fun _ h9 => h9) d_Mod_goOn_2 ?_
  refine lv_if_lt (tgt := 20) hx hb d_Mod_goOn_5 (by decide) (fun hc1 => ?_) (fun hc1 => ?_)
  · refine lv_iconst (v := (-1)) hx hb d_Mod_goOn_20 (by decide) ?_
    refine S_put (h := shM) (C := "MacroMillModel") (T := F_Mod) (v := (-1)) hx hb htt in_Mod t_Mod t_Mod_ok n_Mod hown hK hP hD hS 0 134 rfl rfl rfl (by decide) (htt _ k_2370) (fun _ h9 => h9) rfl rfl rfl d_Mod_goOn_21 (fun H locs hP hD hS => ?_)
    exact fin_v (g := g) (ws := Sw shM g ad (putI S 0 134 (-1))) hx hb hr hlocks (by decide +kernel) (by decide +kernel) hP hD hS ⟨_, rfl, (by unfold s_Mod_goOn; rw [if_pos hc1])⟩ d_Mod_goOn_24
  · refine lv_aload_n hx hb d_Mod_goOn_8 rfl (lv_at hl 0 rfl) ?_
    refine S_getR (h := shM) (C := "MacroMillModel") (T := F_Mod) hx hb htt in_Mod hown hK hP 0 72 rfl 32 rfl rfl (by decide) (htt _ k_2308) (fun _ h9 => h9) d_Mod_goOn_9 ?_
    refine lv_aload_n hx hb d_Mod_goOn_12 rfl (lv_at hl 0 rfl) ?_
    refine S_getI (h := shM) (C := "MacroMillModel") (T := F_Mod) hx hb htt in_Mod hown hK hP 0 134 rfl rfl rfl (by decide) (htt _ k_2370) (fun _ h9 => h9) d_Mod_goOn_13 ?_
    refine S_iald (h := shM) (i := S.1 0 134) hx hb hK hP 31 rfl (hb0 hc1) d_Mod_goOn_16 ?_
    refine lv_goto (tgt := 21) hx hb d_Mod_goOn_17 (by decide) ?_
    refine S_put (h := shM) (C := "MacroMillModel") (T := F_Mod) (v := S.2.1 31 (S.1 0 134 : Int32).toNatClampNeg) hx hb htt in_Mod t_Mod t_Mod_ok n_Mod hown hK hP hD hS 0 134 rfl rfl rfl (by decide) (htt _ k_2370) (fun _ h9 => h9) rfl rfl rfl d_Mod_goOn_21 (fun H locs hP hD hS => ?_)
    exact fin_v (g := g) (ws := Sw shM g ad (putI S 0 134 (S.2.1 31 (S.1 0 134 : Int32).toNatClampNeg))) hx hb hr hlocks (by decide +kernel) (by decide +kernel) hP hD hS ⟨_, rfl, (by unfold s_Mod_goOn; rw [if_neg hc1])⟩ d_Mod_goOn_24
def r_Mod_digitOf (S : sS) (v1 : Int32) : Int32 := if (r_Mod_isDigit S (v1)) = (0 : Int32) then (if v1 < (97 : Int32) then (if v1 < (65 : Int32) then 99 else (if (70 : Int32) < v1 then 99 else (v1 - (55 : Int32)))) else (if (102 : Int32) < v1 then (if v1 < (65 : Int32) then 99 else (if (70 : Int32) < v1 then 99 else (v1 - (55 : Int32)))) else (v1 - (87 : Int32)))) else (v1 - (48 : Int32))
abbrev rm_a_Mod_digitOf : Room := { frames := 1, cells := 0, slots := 0, locals := 20 }
set_option maxHeartbeats 4000000 in
set_option maxRecDepth 100000 in
theorem a_Mod_digitOf (l : Launch) (g : gG) (sz : Nat) (ad : Nat → Nat) (S : sS) (v1 : Int32) : Ci l y_Mod_digitOf b_Mod_digitOf 1 rm_a_Mod_digitOf g [.int v1] (Sw shM g ad S) sz (fun r w => ∃ S' : sS, w = Sw shM g ad S' ∧ r = r_Mod_digitOf S v1 ∧ S' = S) := by
  refine startI (by decide) (Nat.le_of_ble_eq_true rfl) ?_
  intro p e s m below meth c A ls hx hb hr hml hlocks hmn hown htt hN hA hP hK hD hS hl
  have hown : s.vm.findClass "MacroMillModel" = some m.cls := hown
  have hl : lv_has ls 1 [(0, .int v1)] := hl
  refine lv_iload_n hx hb d_Mod_digitOf_0 rfl (lv_at hl 0 rfl) ?_
  refine go_iS (As := [.int v1]) (g := g) (A := A) (h := shM) hP hK hD hS hA hN (fun hp => va_runS (As := [.int v1]) (rest := []) ⟨hx, hb, hml, hown, htt⟩ (a_Mod_isDigit l g _ ad S (v1)) ⟨(cb_L htt k_2777 k_276 k_2775 hd_Mod_isDigit ⟨(by decide +kernel), (by decide +kernel)⟩), htt _ k_2776⟩ hp rfl rfl hl.1 rfl (lv_room (Nat.le_of_ble_eq_true rfl)) d_Mod_digitOf_1 ⟨(by decide +kernel), (by decide +kernel)⟩) (fun r9 Sn H locs hw9 hP hD hS => ?_)
  obtain ⟨rfl, e9⟩ := hw9
  rw [e9] at hP hD
  refine W.widen (k := 0) (n := 0) (by decide +kernel) (by decide +kernel) ?_
  refine lv_if_eq (tgt := 14) hx hb d_Mod_digitOf_4 (by decide) (fun hc1 => ?_) (fun hc1 => ?_)
  · refine lv_iload_n hx hb d_Mod_digitOf_14 rfl (lv_at hl 0 rfl) ?_
    refine lv_bipush (v := 97) hx hb d_Mod_digitOf_15 (by decide) ?_
    refine lv_icmp_lt (tgt := 33) hx hb d_Mod_digitOf_17 (by decide) (fun hc2 => ?_) (fun hc2 => ?_)
    · refine lv_iload_n hx hb d_Mod_digitOf_33 rfl (lv_at hl 0 rfl) ?_
      refine lv_bipush (v := 65) hx hb d_Mod_digitOf_34 (by decide) ?_
      refine lv_icmp_lt (tgt := 52) hx hb d_Mod_digitOf_36 (by decide) (fun hc3 => ?_) (fun hc3 => ?_)
      · refine lv_bipush (v := 99) hx hb d_Mod_digitOf_52 (by decide) ?_
        exact fin_i (g := g) (ws := Sw shM g ad S) (v := 99) hx hb hr hlocks (by decide +kernel) (by decide +kernel) hP hD hS ⟨_, rfl, (by unfold r_Mod_digitOf; rw [if_pos hc1, if_pos hc2, if_pos hc3]), rfl⟩ d_Mod_digitOf_54
      · refine lv_iload_n hx hb d_Mod_digitOf_39 rfl (lv_at hl 0 rfl) ?_
        refine lv_bipush (v := 70) hx hb d_Mod_digitOf_40 (by decide) ?_
        refine lv_icmp_gt (tgt := 52) hx hb d_Mod_digitOf_42 (by decide) (fun hc4 => ?_) (fun hc4 => ?_)
        · refine lv_bipush (v := 99) hx hb d_Mod_digitOf_52 (by decide) ?_
          exact fin_i (g := g) (ws := Sw shM g ad S) (v := 99) hx hb hr hlocks (by decide +kernel) (by decide +kernel) hP hD hS ⟨_, rfl, (by unfold r_Mod_digitOf; rw [if_pos hc1, if_pos hc2, if_neg hc3, if_pos hc4]), rfl⟩ d_Mod_digitOf_54
        · refine lv_iload_n hx hb d_Mod_digitOf_45 rfl (lv_at hl 0 rfl) ?_
          refine lv_bipush (v := 55) hx hb d_Mod_digitOf_46 (by decide) ?_
          refine lv_isub hx hb d_Mod_digitOf_48 ?_
          show W _ _ _ _ _ _ _ _ _ _ _ _ _ _ _ (F0 _ 49 _ _)
          refine lv_goto (tgt := 54) hx hb d_Mod_digitOf_49 (by decide) ?_
          exact fin_i (g := g) (ws := Sw shM g ad S) (v := v1 - (55 : Int32)) hx hb hr hlocks (by decide +kernel) (by decide +kernel) hP hD hS ⟨_, rfl, (by unfold r_Mod_digitOf; rw [if_pos hc1, if_pos hc2, if_neg hc3, if_neg hc4]), rfl⟩ d_Mod_digitOf_54
    · refine lv_iload_n hx hb d_Mod_digitOf_20 rfl (lv_at hl 0 rfl) ?_
      refine lv_bipush (v := 102) hx hb d_Mod_digitOf_21 (by decide) ?_
      refine lv_icmp_gt (tgt := 33) hx hb d_Mod_digitOf_23 (by decide) (fun hc5 => ?_) (fun hc5 => ?_)
      · refine lv_iload_n hx hb d_Mod_digitOf_33 rfl (lv_at hl 0 rfl) ?_
        refine lv_bipush (v := 65) hx hb d_Mod_digitOf_34 (by decide) ?_
        refine lv_icmp_lt (tgt := 52) hx hb d_Mod_digitOf_36 (by decide) (fun hc6 => ?_) (fun hc6 => ?_)
        · refine lv_bipush (v := 99) hx hb d_Mod_digitOf_52 (by decide) ?_
          exact fin_i (g := g) (ws := Sw shM g ad S) (v := 99) hx hb hr hlocks (by decide +kernel) (by decide +kernel) hP hD hS ⟨_, rfl, (by unfold r_Mod_digitOf; rw [if_pos hc1, if_neg hc2, if_pos hc5, if_pos hc6]), rfl⟩ d_Mod_digitOf_54
        · refine lv_iload_n hx hb d_Mod_digitOf_39 rfl (lv_at hl 0 rfl) ?_
          refine lv_bipush (v := 70) hx hb d_Mod_digitOf_40 (by decide) ?_
          refine lv_icmp_gt (tgt := 52) hx hb d_Mod_digitOf_42 (by decide) (fun hc7 => ?_) (fun hc7 => ?_)
          · refine lv_bipush (v := 99) hx hb d_Mod_digitOf_52 (by decide) ?_
            show W _ _ _ _ _ _ _ _ _ _ _ _ _ _ _ (F0 _ 54 _ _)
            exact fin_i (g := g) (ws := Sw shM g ad S) (v := 99) hx hb hr hlocks (by decide +kernel) (by decide +kernel) hP hD hS ⟨_, rfl, (by unfold r_Mod_digitOf; rw [if_pos hc1, if_neg hc2, if_pos hc5, if_neg hc6, if_pos hc7]), rfl⟩ d_Mod_digitOf_54
          · refine lv_iload_n hx hb d_Mod_digitOf_45 rfl (lv_at hl 0 rfl) ?_
            show W _ _ _ _ _ _ _ _ _ _ _ _ _ _ _ (F0 _ 46 _ _)
            refine lv_bipush (v := 55) hx hb d_Mod_digitOf_46 (by decide) ?_
            refine lv_isub hx hb d_Mod_digitOf_48 ?_
            refine lv_goto (tgt := 54) hx hb d_Mod_digitOf_49 (by decide) ?_
            exact fin_i (g := g) (ws := Sw shM g ad S) (v := v1 - (55 : Int32)) hx hb hr hlocks (by decide +kernel) (by decide +kernel) hP hD hS ⟨_, rfl, (by unfold r_Mod_digitOf; rw [if_pos hc1, if_neg hc2, if_pos hc5, if_neg hc6, if_neg hc7]), rfl⟩ d_Mod_digitOf_54
      · refine lv_iload_n hx hb d_Mod_digitOf_26 rfl (lv_at hl 0 rfl) ?_
        refine lv_bipush (v := 87) hx hb d_Mod_digitOf_27 (by decide) ?_
        refine lv_isub hx hb d_Mod_digitOf_29 ?_
        refine lv_goto (tgt := 54) hx hb d_Mod_digitOf_30 (by decide) ?_
        exact fin_i (g := g) (ws := Sw shM g ad S) (v := v1 - (87 : Int32)) hx hb hr hlocks (by decide +kernel) (by decide +kernel) hP hD hS ⟨_, rfl, (by unfold r_Mod_digitOf; rw [if_pos hc1, if_neg hc2, if_neg hc5]), rfl⟩ d_Mod_digitOf_54
  · refine lv_iload_n hx hb d_Mod_digitOf_7 rfl (lv_at hl 0 rfl) ?_
    refine lv_bipush (v := 48) hx hb d_Mod_digitOf_8 (by decide) ?_
    refine lv_isub hx hb d_Mod_digitOf_10 ?_
    refine lv_goto (tgt := 54) hx hb d_Mod_digitOf_11 (by decide) ?_
    exact fin_i (g := g) (ws := Sw shM g ad S) (v := v1 - (48 : Int32)) hx hb hr hlocks (by decide +kernel) (by decide +kernel) hP hD hS ⟨_, rfl, (by unfold r_Mod_digitOf; rw [if_neg hc1]), rfl⟩ d_Mod_digitOf_54
def r_Mod_take (S : sS) : Int32 := if (S.1 0 24) = (0 : Int32) then ((-1)) else (((putI (putI S 0 24 ((S.1 0 24) - (1 : Int32))) 0 13 ((S.1 0 13) + (1 : Int32))).2.1 7 (S.1 0 20 : Int32).toNatClampNeg) &&& (255 : Int32))
def s_Mod_take (S : sS) : sS := if (S.1 0 24) = (0 : Int32) then ((s_Mod_fail1 S (31 : Int32))) else (if (S.1 0 21) < ((32768 : Int32) - (S.1 0 20)) then ((putI (putI (putI S 0 24 ((S.1 0 24) - (1 : Int32))) 0 13 ((S.1 0 13) + (1 : Int32))) 0 20 ((S.1 0 20) + (1 : Int32)))) else (if (((putI (putI S 0 24 ((S.1 0 24) - (1 : Int32))) 0 13 ((S.1 0 13) + (1 : Int32))).2.1 7 (S.1 0 20 : Int32).toNatClampNeg) &&& (255 : Int32)) = (10 : Int32) then ((putI (putI (putI (putI (putI S 0 24 ((S.1 0 24) - (1 : Int32))) 0 13 ((S.1 0 13) + (1 : Int32))) 0 21 ((S.1 0 21) - (1 : Int32))) 0 23 ((S.1 0 23) + (1 : Int32))) 0 20 ((S.1 0 20) + (1 : Int32)))) else ((putI (putI (putI (putI (putI S 0 24 ((S.1 0 24) - (1 : Int32))) 0 13 ((S.1 0 13) + (1 : Int32))) 0 21 ((S.1 0 21) - (1 : Int32))) 0 23 (S.1 0 23)) 0 20 ((S.1 0 20) + (1 : Int32))))))
abbrev rm_a_Mod_take : Room := { frames := 2, cells := 0, slots := 0, locals := 44 }
set_option maxHeartbeats 4000000 in
set_option maxRecDepth 100000 in
theorem a_Mod_take (l : Launch) (g : gG) (sz : Nat) (ad : Nat → Nat) (S : sS) (hb0 : ¬ ((S.1 0 24) = (0 : Int32)) → vp_in (S.1 0 20) 32768) : Ci l y_Mod_take b_Mod_take 2 rm_a_Mod_take g [.ref (ad 0)] (Sw shM g ad S) sz (fun r w => ∃ S' : sS, w = Sw shM g ad S' ∧ r = r_Mod_take S ∧ S' = s_Mod_take S) := by
  refine startI (by decide) (Nat.le_of_ble_eq_true rfl) ?_
  intro p e s m below meth c A ls hx hb hr hml hlocks hmn hown htt hN hA hP hK hD hS hl
  have hown : s.vm.findClass "MacroMillModel" = some m.cls := hown
  have hl : lv_has ls 2 [(0, .ref (ad 0))] := hl
  refine lv_aload_n hx hb d_Mod_take_0 rfl (lv_at hl 0 rfl) ?_
  refine S_getI (h := shM) (C := "MacroMillModel") (T := F_Mod) hx hb htt in_Mod hown hK hP 0 24 rfl rfl rfl (by decide) (htt _ k_2260) (fun _ h9 => h9) d_Mod_take_1 ?_
  refine lv_if_ne (tgt := 15) hx hb d_Mod_take_4 (by decide) (fun hc1 => ?_) (fun hc1 => ?_)
  · refine lv_aload_n hx hb d_Mod_take_15 rfl (lv_at hl 0 rfl) ?_
    refine lv_dup hx hb d_Mod_take_16 rfl ?_
    refine S_getI (h := shM) (C := "MacroMillModel") (T := F_Mod) hx hb htt in_Mod hown hK hP 0 24 rfl rfl rfl (by decide) (htt _ k_2260) (fun _ h9 => h9) d_Mod_take_17 ?_
    refine lv_iconst (v := 1) hx hb d_Mod_take_20 (by decide) ?_
    refine lv_isub hx hb d_Mod_take_21 ?_
    refine S_put (h := shM) (C := "MacroMillModel") (T := F_Mod) (v := (S.1 0 24) - (1 : Int32)) hx hb htt in_Mod t_Mod t_Mod_ok n_Mod hown hK hP hD hS 0 24 rfl rfl rfl (by decide) (htt _ k_2260) (fun _ h9 => h9) rfl rfl rfl d_Mod_take_22 (fun H locs hP hD hS => ?_)
    refine lv_aload_n hx hb d_Mod_take_25 rfl (lv_at hl 0 rfl) ?_
    refine lv_dup hx hb d_Mod_take_26 rfl ?_
    refine S_getI (h := shM) (C := "MacroMillModel") (T := F_Mod) hx hb htt in_Mod hown hK hP 0 13 rfl rfl rfl (by decide) (htt _ k_2249) (fun _ h9 => h9) d_Mod_take_27 ?_
    refine toI (y := S.1 0 13) rfl ?_
    show W _ _ _ _ _ _ _ _ _ _ _ _ _ _ _ (F0 _ 30 _ _)
    refine lv_iconst (v := 1) hx hb d_Mod_take_30 (by decide) ?_
    refine lv_iadd hx hb d_Mod_take_31 ?_
    refine S_put (h := shM) (C := "MacroMillModel") (T := F_Mod) (v := (S.1 0 13) + (1 : Int32)) hx hb htt in_Mod t_Mod t_Mod_ok n_Mod hown hK hP hD hS 0 13 rfl rfl rfl (by decide) (htt _ k_2249) (fun _ h9 => h9) rfl rfl rfl d_Mod_take_32 (fun H locs hP hD hS => ?_)
    refine lv_aload_n hx hb d_Mod_take_35 rfl (lv_at hl 0 rfl) ?_
    refine S_getR (h := shM) (C := "MacroMillModel") (T := F_Mod) hx hb htt in_Mod hown hK hP 0 19 rfl 8 rfl rfl (by decide) (htt _ k_2255) (fun _ h9 => h9) d_Mod_take_36 ?_
    refine lv_aload_n hx hb d_Mod_take_39 rfl (lv_at hl 0 rfl) ?_
    refine S_getI (h := shM) (C := "MacroMillModel") (T := F_Mod) hx hb htt in_Mod hown hK hP 0 20 rfl rfl rfl (by decide) (htt _ k_2256) (fun _ h9 => h9) d_Mod_take_40 ?_
    refine toI (y := S.1 0 20) rfl ?_
    refine S_bald (h := shM) (i := S.1 0 20) hx hb hK hP 7 rfl (hb0 hc1) d_Mod_take_43 ?_
    refine lv_sipush (v := 255) hx hb d_Mod_take_44 (by decide) ?_
    refine lv_iand hx hb d_Mod_take_47 ?_
    refine lv_istore_n (lv' := [(1, .int (((putI (putI S 0 24 ((S.1 0 24) - (1 : Int32))) 0 13 ((S.1 0 13) + (1 : Int32))).2.1 7 (S.1 0 20 : Int32).toNatClampNeg) &&& (255 : Int32))), (0, .ref (ad 0))]) hx hb d_Mod_take_48 rfl hl (by decide) rfl (fun ls hl => ?_)
    refine lv_ldc (v := 32768) hx hb hown (htt _ k_2229) d_Mod_take_49 ?_
    show W _ _ _ _ _ _ _ _ _ _ _ _ _ _ _ (F0 _ 51 _ _)
    refine lv_aload_n hx hb d_Mod_take_51 rfl (lv_at hl 1 rfl) ?_
    refine S_getI (h := shM) (C := "MacroMillModel") (T := F_Mod) hx hb htt in_Mod hown hK hP 0 20 rfl rfl rfl (by decide) (htt _ k_2256) (fun _ h9 => h9) d_Mod_take_52 ?_
    refine toI (y := S.1 0 20) rfl ?_
    refine lv_isub hx hb d_Mod_take_55 ?_
    refine lv_aload_n hx hb d_Mod_take_56 rfl (lv_at hl 1 rfl) ?_
    refine S_getI (h := shM) (C := "MacroMillModel") (T := F_Mod) hx hb htt in_Mod hown hK hP 0 21 rfl rfl rfl (by decide) (htt _ k_2257) (fun _ h9 => h9) d_Mod_take_57 ?_
    refine toI (y := S.1 0 21) rfl ?_
    refine lv_icmp_gt (tgt := 96) hx hb d_Mod_take_60 (by decide) (fun hc2 => ?_) (fun hc2 => ?_)
    · refine lv_aload_n hx hb d_Mod_take_96 rfl (lv_at hl 1 rfl) ?_
      refine lv_dup hx hb d_Mod_take_97 rfl ?_
      refine S_getI (h := shM) (C := "MacroMillModel") (T := F_Mod) hx hb htt in_Mod hown hK hP 0 20 rfl rfl rfl (by decide) (htt _ k_2256) (fun _ h9 => h9) d_Mod_take_98 ?_
      refine toI (y := S.1 0 20) rfl ?_
      refine lv_iconst (v := 1) hx hb d_Mod_take_101 (by decide) ?_
      refine lv_iadd hx hb d_Mod_take_102 ?_
      refine S_put (h := shM) (C := "MacroMillModel") (T := F_Mod) (v := (S.1 0 20) + (1 : Int32)) hx hb htt in_Mod t_Mod t_Mod_ok n_Mod hown hK hP hD hS 0 20 rfl rfl rfl (by decide) (htt _ k_2256) (fun _ h9 => h9) rfl rfl rfl d_Mod_take_103 (fun H locs hP hD hS => ?_)
      refine lv_iload_n hx hb d_Mod_take_106 rfl (lv_at hl 0 rfl) ?_
      show W _ _ _ _ _ _ _ _ _ _ _ _ _ _ _ (F0 _ 107 _ _)
      exact fin_i (g := g) (ws := Sw shM g ad (putI (putI (putI S 0 24 ((S.1 0 24) - (1 : Int32))) 0 13 ((S.1 0 13) + (1 : Int32))) 0 20 ((S.1 0 20) + (1 : Int32)))) (v := ((putI (putI S 0 24 ((S.1 0 24) - (1 : Int32))) 0 13 ((S.1 0 13) + (1 : Int32))).2.1 7 (S.1 0 20 : Int32).toNatClampNeg) &&& (255 : Int32)) hx hb hr hlocks (by decide +kernel) (by decide +kernel) hP hD hS ⟨_, rfl, (by unfold r_Mod_take; rw [if_neg hc1]), (by unfold s_Mod_take; rw [if_neg hc1, if_pos hc2])⟩ d_Mod_take_107
    · refine lv_aload_n hx hb d_Mod_take_63 rfl (lv_at hl 1 rfl) ?_
      refine lv_dup hx hb d_Mod_take_64 rfl ?_
      refine S_getI (h := shM) (C := "MacroMillModel") (T := F_Mod) hx hb htt in_Mod hown hK hP 0 21 rfl rfl rfl (by decide) (htt _ k_2257) (fun _ h9 => h9) d_Mod_take_65 ?_
      refine toI (y := S.1 0 21) rfl ?_
      refine lv_iconst (v := 1) hx hb d_Mod_take_68 (by decide) ?_
      refine lv_isub hx hb d_Mod_take_69 ?_
      refine S_put (h := shM) (C := "MacroMillModel") (T := F_Mod) (v := (S.1 0 21) - (1 : Int32)) hx hb htt in_Mod t_Mod t_Mod_ok n_Mod hown hK hP hD hS 0 21 rfl rfl rfl (by decide) (htt _ k_2257) (fun _ h9 => h9) rfl rfl rfl d_Mod_take_70 (fun H locs hP hD hS => ?_)
      refine lv_aload_n hx hb d_Mod_take_73 rfl (lv_at hl 1 rfl) ?_
      show W _ _ _ _ _ _ _ _ _ _ _ _ _ _ _ (F0 _ 74 _ _)
      refine lv_iload_n hx hb d_Mod_take_74 rfl (lv_at hl 0 rfl) ?_
      refine lv_bipush (v := 10) hx hb d_Mod_take_75 (by decide) ?_
      refine lv_icmp_ne (tgt := 89) hx hb d_Mod_take_77 (by decide) (fun hc3 => ?_) (fun hc3 => ?_)
      · refine lv_aload_n hx hb d_Mod_take_89 rfl (lv_at hl 1 rfl) ?_
        refine S_getI (h := shM) (C := "MacroMillModel") (T := F_Mod) hx hb htt in_Mod hown hK hP 0 23 rfl rfl rfl (by decide) (htt _ k_2259) (fun _ h9 => h9) d_Mod_take_90 ?_
        refine toI (y := S.1 0 23) rfl ?_
        refine S_put (h := shM) (C := "MacroMillModel") (T := F_Mod) (v := S.1 0 23) hx hb htt in_Mod t_Mod t_Mod_ok n_Mod hown hK hP hD hS 0 23 rfl rfl rfl (by decide) (htt _ k_2259) (fun _ h9 => h9) rfl rfl rfl d_Mod_take_93 (fun H locs hP hD hS => ?_)
        refine lv_aload_n hx hb d_Mod_take_96 rfl (lv_at hl 1 rfl) ?_
        refine lv_dup hx hb d_Mod_take_97 rfl ?_
        refine S_getI (h := shM) (C := "MacroMillModel") (T := F_Mod) hx hb htt in_Mod hown hK hP 0 20 rfl rfl rfl (by decide) (htt _ k_2256) (fun _ h9 => h9) d_Mod_take_98 ?_
        refine toI (y := S.1 0 20) rfl ?_
        refine lv_iconst (v := 1) hx hb d_Mod_take_101 (by decide) ?_
        refine lv_iadd hx hb d_Mod_take_102 ?_
        refine S_put (h := shM) (C := "MacroMillModel") (T := F_Mod) (v := (S.1 0 20) + (1 : Int32)) hx hb htt in_Mod t_Mod t_Mod_ok n_Mod hown hK hP hD hS 0 20 rfl rfl rfl (by decide) (htt _ k_2256) (fun _ h9 => h9) rfl rfl rfl d_Mod_take_103 (fun H locs hP hD hS => ?_)
        refine lv_iload_n hx hb d_Mod_take_106 rfl (lv_at hl 0 rfl) ?_
        show W _ _ _ _ _ _ _ _ _ _ _ _ _ _ _ (F0 _ 107 _ _)
        exact fin_i (g := g) (ws := Sw shM g ad (putI (putI (putI (putI (putI S 0 24 ((S.1 0 24) - (1 : Int32))) 0 13 ((S.1 0 13) + (1 : Int32))) 0 21 ((S.1 0 21) - (1 : Int32))) 0 23 (S.1 0 23)) 0 20 ((S.1 0 20) + (1 : Int32)))) (v := ((putI (putI S 0 24 ((S.1 0 24) - (1 : Int32))) 0 13 ((S.1 0 13) + (1 : Int32))).2.1 7 (S.1 0 20 : Int32).toNatClampNeg) &&& (255 : Int32)) hx hb hr hlocks (by decide +kernel) (by decide +kernel) hP hD hS ⟨_, rfl, (by unfold r_Mod_take; rw [if_neg hc1]), (by unfold s_Mod_take; rw [if_neg hc1, if_neg hc2, if_neg hc3])⟩ d_Mod_take_107
      · refine lv_aload_n hx hb d_Mod_take_80 rfl (lv_at hl 1 rfl) ?_
        refine S_getI (h := shM) (C := "MacroMillModel") (T := F_Mod) hx hb htt in_Mod hown hK hP 0 23 rfl rfl rfl (by decide) (htt _ k_2259) (fun _ h9 => h9) d_Mod_take_81 ?_
        refine toI (y := S.1 0 23) rfl ?_
        refine lv_iconst (v := 1) hx hb d_Mod_take_84 (by decide) ?_
        refine lv_iadd hx hb d_Mod_take_85 ?_
        refine lv_goto (tgt := 93) hx hb d_Mod_take_86 (by decide) ?_
        refine S_put (h := shM) (C := "MacroMillModel") (T := F_Mod) (v := (S.1 0 23) + (1 : Int32)) hx hb htt in_Mod t_Mod t_Mod_ok n_Mod hown hK hP hD hS 0 23 rfl rfl rfl (by decide) (htt _ k_2259) (fun _ h9 => h9) rfl rfl rfl d_Mod_take_93 (fun H locs hP hD hS => ?_)
        refine lv_aload_n hx hb d_Mod_take_96 rfl (lv_at hl 1 rfl) ?_
        refine lv_dup hx hb d_Mod_take_97 rfl ?_
        refine S_getI (h := shM) (C := "MacroMillModel") (T := F_Mod) hx hb htt in_Mod hown hK hP 0 20 rfl rfl rfl (by decide) (htt _ k_2256) (fun _ h9 => h9) d_Mod_take_98 ?_
        refine toI (y := S.1 0 20) rfl ?_
        refine lv_iconst (v := 1) hx hb d_Mod_take_101 (by decide) ?_
        show W _ _ _ _ _ _ _ _ _ _ _ _ _ _ _ (F0 _ 102 _ _)
        refine lv_iadd hx hb d_Mod_take_102 ?_
        refine S_put (h := shM) (C := "MacroMillModel") (T := F_Mod) (v := (S.1 0 20) + (1 : Int32)) hx hb htt in_Mod t_Mod t_Mod_ok n_Mod hown hK hP hD hS 0 20 rfl rfl rfl (by decide) (htt _ k_2256) (fun _ h9 => h9) rfl rfl rfl d_Mod_take_103 (fun H locs hP hD hS => ?_)
        refine lv_iload_n hx hb d_Mod_take_106 rfl (lv_at hl 0 rfl) ?_
        exact fin_i (g := g) (ws := Sw shM g ad (putI (putI (putI (putI (putI S 0 24 ((S.1 0 24) - (1 : Int32))) 0 13 ((S.1 0 13) + (1 : Int32))) 0 21 ((S.1 0 21) - (1 : Int32))) 0 23 ((S.1 0 23) + (1 : Int32))) 0 20 ((S.1 0 20) + (1 : Int32)))) (v := ((putI (putI S 0 24 ((S.1 0 24) - (1 : Int32))) 0 13 ((S.1 0 13) + (1 : Int32))).2.1 7 (S.1 0 20 : Int32).toNatClampNeg) &&& (255 : Int32)) hx hb hr hlocks (by decide +kernel) (by decide +kernel) hP hD hS ⟨_, rfl, (by unfold r_Mod_take; rw [if_neg hc1]), (by unfold s_Mod_take; rw [if_neg hc1, if_neg hc2, if_pos hc3])⟩ d_Mod_take_107
  · refine lv_aload_n hx hb d_Mod_take_7 rfl (lv_at hl 0 rfl) ?_
    refine lv_bipush (v := 31) hx hb d_Mod_take_8 (by decide) ?_
    refine go_vS (As := [.ref (ad 0), .int 31]) (g := g) (A := A) (h := shM) hP hK hD hS hA hN (fun hp => va_runV (As := [.int 31]) (rest := []) ⟨hx, hb, hml, hown, htt⟩ (a_Mod_fail1 l g _ ad S (31 : Int32)) ⟨(cb_L htt k_2767 k_276 k_2764 hd_Mod_fail1 ⟨(by decide +kernel), (by decide +kernel)⟩), htt _ k_2766, htt _ k_138⟩ ⟨hp.1, S_recv hK hP 0 rfl rfl, hp.2⟩ rfl rfl hl.1 rfl (lv_room (Nat.le_of_ble_eq_true rfl)) d_Mod_take_10 ⟨(by decide +kernel), (by decide +kernel)⟩) (fun Sn H locs hw9 hP hD hS => ?_)
    obtain rfl := hw9
    refine W.widen (k := 0) (n := 0) (by decide +kernel) (by decide +kernel) ?_
    refine lv_iconst (v := (-1)) hx hb d_Mod_take_13 (by decide) ?_
    exact fin_i (g := g) (ws := Sw shM g ad (s_Mod_fail1 S (31 : Int32))) (v := (-1)) hx hb hr hlocks (by decide +kernel) (by decide +kernel) hP hD hS ⟨_, rfl, (by unfold r_Mod_take; rw [if_pos hc1]), (by unfold s_Mod_take; rw [if_pos hc1])⟩ d_Mod_take_14

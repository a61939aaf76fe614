theorem d_Mod_feedInt_11 : decode b_Mod_feedInt 11 = .ok (.aload_n 0, 1) := by decide +kernel
theorem d_Mod_feedInt_12 : decode b_Mod_feedInt 12 = .ok (.getfield 236, 3) := by decide +kernel
theorem d_Mod_feedInt_15 : decode b_Mod_feedInt 15 = .ok (.iload_n 1, 1) := by decide +kernel
theorem d_Mod_feedInt_16 : decode b_Mod_feedInt 16 = .ok (.iload_n 2, 1) := by decide +kernel
theorem d_Mod_feedInt_17 : decode b_Mod_feedInt 17 = .ok (.ishr, 1) := by decide +kernel
theorem d_Mod_feedInt_18 : decode b_Mod_feedInt 18 = .ok (.i2b, 1) := by decide +kernel
theorem d_Mod_feedInt_19 : decode b_Mod_feedInt 19 = .ok (.bastore, 1) := by decide +kernel
theorem d_Mod_feedInt_20 : decode b_Mod_feedInt 20 = .ok (.aload_n 0, 1) := by decide +kernel
theorem d_Mod_feedInt_21 : decode b_Mod_feedInt 21 = .ok (.dup, 1) := by decide +kernel
theorem d_Mod_feedInt_22 : decode b_Mod_feedInt 22 = .ok (.getfield 236, 3) := by decide +kernel
theorem d_Mod_feedInt_25 : decode b_Mod_feedInt 25 = .ok (.iconst 1, 1) := by decide +kernel
theorem d_Mod_feedInt_26 : decode b_Mod_feedInt 26 = .ok (.iadd, 1) := by decide +kernel
theorem d_Mod_feedInt_27 : decode b_Mod_feedInt 27 = .ok (.putfield 236, 3) := by decide +kernel
theorem d_Mod_feedInt_30 : decode b_Mod_feedInt 30 = .ok (.iinc 2 (-8), 3) := by decide +kernel
theorem d_Mod_feedInt_33 : decode b_Mod_feedInt 33 = .ok (.goto (-30), 3) := by decide +kernel
theorem d_Mod_feedInt_36 : decode b_Mod_feedInt 36 = .ok (.return_, 1) := by decide +kernel
theorem d_Mod_file_0 : decode b_Mod_file 0 = .ok (.aload_n 0, 1) := by decide +kernel
theorem d_Mod_file_1 : decode b_Mod_file 1 = .ok (.invokevirtual 248, 3) := by decide +kernel
theorem d_Mod_file_4 : decode b_Mod_file 4 = .ok (.istore_n 2, 1) := by decide +kernel
theorem d_Mod_file_5 : decode b_Mod_file 5 = .ok (.iload_n 1, 1) := by decide +kernel
theorem d_Mod_file_6 : decode b_Mod_file 6 = .ok (.iconst 1, 1) := by decide +kernel
theorem d_Mod_file_7 : decode b_Mod_file 7 = .ok (.if_icmp .lt 14, 3) := by decide +kernel
theorem d_Mod_file_10 : decode b_Mod_file 10 = .ok (.iload_n 1, 1) := by decide +kernel
theorem d_Mod_file_11 : decode b_Mod_file 11 = .ok (.bipush 64, 2) := by decide +kernel
theorem d_Mod_file_13 : decode b_Mod_file 13 = .ok (.if_icmp .gt 8, 3) := by decide +kernel
theorem d_Mod_file_16 : decode b_Mod_file 16 = .ok (.iload_n 1, 1) := by decide +kernel
theorem d_Mod_file_17 : decode b_Mod_file 17 = .ok (.iload_n 2, 1) := by decide +kernel
theorem d_Mod_file_18 : decode b_Mod_file 18 = .ok (.if_icmp .le 5, 3) := by decide +kernel
theorem d_Mod_file_21 : decode b_Mod_file 21 = .ok (.iconst (-1), 1) := by decide +kernel
theorem d_Mod_file_22 : decode b_Mod_file 22 = .ok (.ireturn, 1) := by decide +kernel
theorem d_Mod_parameters_0 : decode b_Mod_parameters 0 = .ok (.aload_n 0, 1) := by decide +kernel
theorem d_Mod_parameters_1 : decode b_Mod_parameters 1 = .ok (.invokevirtual 248, 3) := by decide +kernel
theorem d_Mod_parameters_4 : decode b_Mod_parameters 4 = .ok (.istore_n 1, 1) := by decide +kernel
theorem d_Mod_parameters_5 : decode b_Mod_parameters 5 = .ok (.iconst 0, 1) := by decide +kernel
theorem d_Mod_parameters_6 : decode b_Mod_parameters 6 = .ok (.istore_n 2, 1) := by decide +kernel
theorem d_Mod_parameters_7 : decode b_Mod_parameters 7 = .ok (.iload_n 2, 1) := by decide +kernel
theorem d_Mod_parameters_8 : decode b_Mod_parameters 8 = .ok (.aload_n 0, 1) := by decide +kernel
theorem d_Mod_parameters_9 : decode b_Mod_parameters 9 = .ok (.getfield 613, 3) := by decide +kernel
theorem d_Mod_parameters_12 : decode b_Mod_parameters 12 = .ok (.if_icmp .ge 108, 3) := by decide +kernel
theorem d_Mod_parameters_120 : decode b_Mod_parameters 120 = .ok (.iconst (-1), 1) := by decide +kernel
theorem d_Mod_parameters_121 : decode b_Mod_parameters 121 = .ok (.ireturn, 1) := by decide +kernel
theorem d_Mod_run_0 : decode b_Mod_run 0 = .ok (.iload_n 1, 1) := by decide +kernel
theorem d_Mod_run_1 : decode b_Mod_run 1 = .ok (.ifCond .lt 45, 3) := by decide +kernel
theorem d_Mod_run_4 : decode b_Mod_run 4 = .ok (.iload_n 1, 1) := by decide +kernel
theorem d_Mod_run_5 : decode b_Mod_run 5 = .ok (.aload_n 0, 1) := by decide +kernel
theorem d_Mod_run_6 : decode b_Mod_run 6 = .ok (.getfield 252, 3) := by decide +kernel
theorem d_Mod_run_9 : decode b_Mod_run 9 = .ok (.if_icmp .ge 37, 3) := by decide +kernel
theorem d_Mod_run_46 : decode b_Mod_run 46 = .ok (.iconst (-1), 1) := by decide +kernel
theorem d_Mod_run_47 : decode b_Mod_run 47 = .ok (.ireturn, 1) := by decide +kernel
theorem d_Mod_size_0 : decode b_Mod_size 0 = .ok (.aload_n 0, 1) := by decide +kernel
theorem d_Mod_size_1 : decode b_Mod_size 1 = .ok (.getfield 700, 3) := by decide +kernel
theorem d_Mod_size_4 : decode b_Mod_size 4 = .ok (.ireturn, 1) := by decide +kernel
theorem d_Mod_told_0 : decode b_Mod_told 0 = .ok (.iconst 0, 1) := by decide +kernel
theorem d_Mod_told_1 : decode b_Mod_told 1 = .ok (.istore_n 2, 1) := by decide +kernel
theorem d_Mod_told_2 : decode b_Mod_told 2 = .ok (.iconst 0, 1) := by decide +kernel
theorem d_Mod_told_3 : decode b_Mod_told 3 = .ok (.istore_n 3, 1) := by decide +kernel
theorem d_Mod_told_4 : decode b_Mod_told 4 = .ok (.iload_n 3, 1) := by decide +kernel
theorem d_Mod_told_5 : decode b_Mod_told 5 = .ok (.aload_n 0, 1) := by decide +kernel
theorem d_Mod_told_6 : decode b_Mod_told 6 = .ok (.getfield 613, 3) := by decide +kernel
theorem d_Mod_told_9 : decode b_Mod_told 9 = .ok (.if_icmp .ge 26, 3) := by decide +kernel
theorem d_Mod_told_35 : decode b_Mod_told 35 = .ok (.iload_n 1, 1) := by decide +kernel
theorem d_Mod_told_36 : decode b_Mod_told 36 = .ok (.tableswitch 67 0 5 #[40, 45, 50, 55, 60, 65], 40) := by decide +kernel
theorem d_Mod_told_76 : decode b_Mod_told 76 = .ok (.aload_n 0, 1) := by decide +kernel
theorem d_Mod_told_77 : decode b_Mod_told 77 = .ok (.getfield 265, 3) := by decide +kernel
theorem d_Mod_told_80 : decode b_Mod_told 80 = .ok (.ireturn, 1) := by decide +kernel
theorem d_Mod_told_81 : decode b_Mod_told 81 = .ok (.aload_n 0, 1) := by decide +kernel
theorem d_Mod_told_82 : decode b_Mod_told 82 = .ok (.getfield 268, 3) := by decide +kernel
theorem d_Mod_told_85 : decode b_Mod_told 85 = .ok (.ireturn, 1) := by decide +kernel
theorem d_Mod_told_86 : decode b_Mod_told 86 = .ok (.aload_n 0, 1) := by decide +kernel
theorem d_Mod_told_87 : decode b_Mod_told 87 = .ok (.getfield 280, 3) := by decide +kernel
theorem d_Mod_told_90 : decode b_Mod_told 90 = .ok (.ireturn, 1) := by decide +kernel
theorem d_Mod_told_91 : decode b_Mod_told 91 = .ok (.aload_n 0, 1) := by decide +kernel
theorem d_Mod_told_92 : decode b_Mod_told 92 = .ok (.getfield 703, 3) := by decide +kernel
theorem d_Mod_told_95 : decode b_Mod_told 95 = .ok (.ireturn, 1) := by decide +kernel
theorem d_Mod_told_96 : decode b_Mod_told 96 = .ok (.aload_n 0, 1) := by decide +kernel
theorem d_Mod_told_97 : decode b_Mod_told 97 = .ok (.getfield 710, 3) := by decide +kernel
theorem d_Mod_told_100 : decode b_Mod_told 100 = .ok (.ireturn, 1) := by decide +kernel
theorem d_Mod_told_101 : decode b_Mod_told 101 = .ok (.iload_n 2, 1) := by decide +kernel
theorem d_Mod_told_102 : decode b_Mod_told 102 = .ok (.ireturn, 1) := by decide +kernel
theorem d_Mod_told_103 : decode b_Mod_told 103 = .ok (.iconst (-1), 1) := by decide +kernel
theorem d_Mod_told_104 : decode b_Mod_told 104 = .ok (.ireturn, 1) := by decide +kernel
theorem d_Mod_use_0 : decode b_Mod_use 0 = .ok (.aload_n 0, 1) := by decide +kernel
theorem d_Mod_use_1 : decode b_Mod_use 1 = .ok (.getfield 236, 3) := by decide +kernel
theorem d_Mod_use_4 : decode b_Mod_use 4 = .ok (.istore_n 1, 1) := by decide +kernel
theorem d_Mod_use_5 : decode b_Mod_use 5 = .ok (.aload_n 0, 1) := by decide +kernel
theorem d_Mod_use_6 : decode b_Mod_use 6 = .ok (.iconst 0, 1) := by decide +kernel
theorem d_Mod_use_7 : decode b_Mod_use 7 = .ok (.putfield 236, 3) := by decide +kernel
theorem d_Mod_use_10 : decode b_Mod_use 10 = .ok (.aload_n 0, 1) := by decide +kernel
theorem d_Mod_use_11 : decode b_Mod_use 11 = .ok (.iconst 0, 1) := by decide +kernel
theorem d_Mod_use_12 : decode b_Mod_use 12 = .ok (.putfield 244, 3) := by decide +kernel
theorem d_Mod_use_15 : decode b_Mod_use 15 = .ok (.iload_n 1, 1) := by decide +kernel
theorem d_Mod_use_16 : decode b_Mod_use 16 = .ok (.ireturn, 1) := by decide +kernel
theorem d_Mod_word_0 : decode b_Mod_word 0 = .ok (.lconst 0, 1) := by decide +kernel
theorem d_Mod_word_1 : decode b_Mod_word 1 = .ok (.lstore_n 2, 1) := by decide +kernel
theorem d_Mod_word_2 : decode b_Mod_word 2 = .ok (.bipush 7, 2) := by decide +kernel
theorem d_Mod_word_4 : decode b_Mod_word 4 = .ok (.istore 4, 2) := by decide +kernel
theorem d_Mod_word_6 : decode b_Mod_word 6 = .ok (.iload 4, 2) := by decide +kernel
theorem d_Mod_word_8 : decode b_Mod_word 8 = .ok (.ifCond .lt 61, 3) := by decide +kernel
theorem d_Mod_word_11 : decode b_Mod_word 11 = .ok (.iload_n 1, 1) := by decide +kernel
theorem d_Mod_word_12 : decode b_Mod_word 12 = .ok (.ifCond .lt 57, 3) := by decide +kernel
theorem d_Mod_word_15 : decode b_Mod_word 15 = .ok (.iload_n 1, 1) := by decide +kernel
theorem d_Mod_word_16 : decode b_Mod_word 16 = .ok (.sipush 8192, 3) := by decide +kernel
theorem d_Mod_word_19 : decode b_Mod_word 19 = .ok (.if_icmp .ge 50, 3) := by decide +kernel
theorem d_Mod_word_22 : decode b_Mod_word 22 = .ok (.lload_n 2, 1) := by decide +kernel
theorem d_Mod_word_23 : decode b_Mod_word 23 = .ok (.bipush 8, 2) := by decide +kernel
theorem d_Mod_word_25 : decode b_Mod_word 25 = .ok (.lshl, 1) := by decide +kernel
theorem d_Mod_word_26 : decode b_Mod_word 26 = .ok (.bipush 8, 2) := by decide +kernel
theorem d_Mod_word_28 : decode b_Mod_word 28 = .ok (.iload_n 1, 1) := by decide +kernel
theorem d_Mod_word_29 : decode b_Mod_word 29 = .ok (.imul, 1) := by decide +kernel
theorem d_Mod_word_30 : decode b_Mod_word 30 = .ok (.iload 4, 2) := by decide +kernel
theorem d_Mod_word_32 : decode b_Mod_word 32 = .ok (.iadd, 1) := by decide +kernel
theorem d_Mod_word_33 : decode b_Mod_word 33 = .ok (.aload_n 0, 1) := by decide +kernel
theorem d_Mod_word_34 : decode b_Mod_word 34 = .ok (.getfield 700, 3) := by decide +kernel
theorem d_Mod_word_37 : decode b_Mod_word 37 = .ok (.if_icmp .ge 22, 3) := by decide +kernel
theorem d_Mod_word_59 : decode b_Mod_word 59 = .ok (.iconst 0, 1) := by decide +kernel
theorem d_Mod_word_60 : decode b_Mod_word 60 = .ok (.i2l, 1) := by decide +kernel
theorem d_Mod_word_61 : decode b_Mod_word 61 = .ok (.lor, 1) := by decide +kernel
theorem d_Mod_word_62 : decode b_Mod_word 62 = .ok (.lstore_n 2, 1) := by decide +kernel
theorem d_Mod_word_63 : decode b_Mod_word 63 = .ok (.iinc 4 (-1), 3) := by decide +kernel
theorem d_Mod_word_66 : decode b_Mod_word 66 = .ok (.goto (-60), 3) := by decide +kernel
theorem d_Mod_word_69 : decode b_Mod_word 69 = .ok (.lload_n 2, 1) := by decide +kernel
theorem d_Mod_word_70 : decode b_Mod_word 70 = .ok (.lreturn, 1) := by decide +kernel
theorem d_Mod_write_0 : decode b_Mod_write 0 = .ok (.aload_n 0, 1) := by decide +kernel
theorem d_Mod_write_1 : decode b_Mod_write 1 = .ok (.invokevirtual 248, 3) := by decide +kernel
theorem d_Mod_write_4 : decode b_Mod_write 4 = .ok (.istore_n 2, 1) := by decide +kernel
theorem d_Mod_write_5 : decode b_Mod_write 5 = .ok (.iload_n 1, 1) := by decide +kernel
theorem d_Mod_write_6 : decode b_Mod_write 6 = .ok (.ifCond .lt 11, 3) := by decide +kernel
theorem d_Mod_write_9 : decode b_Mod_write 9 = .ok (.iload_n 1, 1) := by decide +kernel
theorem d_Mod_write_10 : decode b_Mod_write 10 = .ok (.aload_n 0, 1) := by decide +kernel
theorem d_Mod_write_11 : decode b_Mod_write 11 = .ok (.getfield 252, 3) := by decide +kernel
theorem d_Mod_write_14 : decode b_Mod_write 14 = .ok (.if_icmp .lt 5, 3) := by decide +kernel
theorem d_Mod_write_17 : decode b_Mod_write 17 = .ok (.iconst (-1), 1) := by decide +kernel
theorem d_Mod_write_18 : decode b_Mod_write 18 = .ok (.ireturn, 1) := by decide +kernel
theorem d_Arrays_fill_0 : decode b_Arrays_fill 0 = .ok (.iconst 0, 1) := by decide +kernel
theorem d_Arrays_fill_1 : decode b_Arrays_fill 1 = .ok (.istore_n 2, 1) := by decide +kernel
theorem d_Arrays_fill_2 : decode b_Arrays_fill 2 = .ok (.aload_n 0, 1) := by decide +kernel
theorem d_Arrays_fill_3 : decode b_Arrays_fill 3 = .ok (.arraylength, 1) := by decide +kernel
theorem d_Arrays_fill_4 : decode b_Arrays_fill 4 = .ok (.istore_n 3, 1) := by decide +kernel
theorem d_Arrays_fill_5 : decode b_Arrays_fill 5 = .ok (.iload_n 2, 1) := by decide +kernel
theorem d_Arrays_fill_6 : decode b_Arrays_fill 6 = .ok (.iload_n 3, 1) := by decide +kernel
theorem d_Arrays_fill_7 : decode b_Arrays_fill 7 = .ok (.if_icmp .ge 13, 3) := by decide +kernel
theorem d_Arrays_fill_10 : decode b_Arrays_fill 10 = .ok (.aload_n 0, 1) := by decide +kernel
theorem d_Arrays_fill_11 : decode b_Arrays_fill 11 = .ok (.iload_n 2, 1) := by decide +kernel
theorem d_Arrays_fill_12 : decode b_Arrays_fill 12 = .ok (.iload_n 1, 1) := by decide +kernel
theorem d_Arrays_fill_13 : decode b_Arrays_fill 13 = .ok (.iastore, 1) := by decide +kernel
theorem d_Arrays_fill_14 : decode b_Arrays_fill 14 = .ok (.iinc 2 1, 3) := by decide +kernel
theorem d_Arrays_fill_17 : decode b_Arrays_fill 17 = .ok (.goto (-12), 3) := by decide +kernel
theorem d_Arrays_fill_20 : decode b_Arrays_fill 20 = .ok (.return_, 1) := by decide +kernel

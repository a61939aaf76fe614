theorem d_MM_init_0 : decode b_MM_init 0 = .ok (.aload_n 0, 1) := by decide +kernel
theorem d_MM_init_1 : decode b_MM_init 1 = .ok (.invokespecial 1, 3) := by decide +kernel
theorem d_MM_init_4 : decode b_MM_init 4 = .ok (.aload_n 0, 1) := by decide +kernel
theorem d_MM_init_5 : decode b_MM_init 5 = .ok (.sipush 16384, 3) := by decide +kernel
theorem d_MM_init_8 : decode b_MM_init 8 = .ok (.newarray .byte, 2) := by decide +kernel
theorem d_MM_init_10 : decode b_MM_init 10 = .ok (.putfield 9, 3) := by decide +kernel
theorem d_MM_init_13 : decode b_MM_init 13 = .ok (.aload_n 0, 1) := by decide +kernel
theorem d_MM_init_14 : decode b_MM_init 14 = .ok (.new 13, 3) := by decide +kernel
theorem d_MM_init_17 : decode b_MM_init 17 = .ok (.dup, 1) := by decide +kernel
theorem d_MM_init_18 : decode b_MM_init 18 = .ok (.invokespecial 15, 3) := by decide +kernel
theorem d_MM_init_21 : decode b_MM_init 21 = .ok (.putfield 16, 3) := by decide +kernel
theorem d_MM_init_24 : decode b_MM_init 24 = .ok (.aload_n 0, 1) := by decide +kernel
theorem d_MM_init_25 : decode b_MM_init 25 = .ok (.new 20, 3) := by decide +kernel
theorem d_MM_init_28 : decode b_MM_init 28 = .ok (.dup, 1) := by decide +kernel
theorem d_MM_init_29 : decode b_MM_init 29 = .ok (.invokespecial 22, 3) := by decide +kernel
theorem d_MM_init_32 : decode b_MM_init 32 = .ok (.putfield 23, 3) := by decide +kernel
theorem d_MM_init_35 : decode b_MM_init 35 = .ok (.new 27, 3) := by decide +kernel
theorem d_MM_init_38 : decode b_MM_init 38 = .ok (.dup, 1) := by decide +kernel
theorem d_MM_init_39 : decode b_MM_init 39 = .ok (.invokespecial 29, 3) := by decide +kernel
theorem d_MM_init_42 : decode b_MM_init 42 = .ok (.astore_n 1, 1) := by decide +kernel
theorem d_MM_init_43 : decode b_MM_init 43 = .ok (.aload_n 0, 1) := by decide +kernel
theorem d_MM_init_44 : decode b_MM_init 44 = .ok (.new 30, 3) := by decide +kernel
theorem d_MM_init_47 : decode b_MM_init 47 = .ok (.dup, 1) := by decide +kernel
theorem d_MM_init_48 : decode b_MM_init 48 = .ok (.aload_n 0, 1) := by decide +kernel
theorem d_MM_init_49 : decode b_MM_init 49 = .ok (.getfield 23, 3) := by decide +kernel
theorem d_MM_init_52 : decode b_MM_init 52 = .ok (.aload_n 1, 1) := by decide +kernel
theorem d_MM_init_53 : decode b_MM_init 53 = .ok (.invokespecial 32, 3) := by decide +kernel
theorem d_MM_init_56 : decode b_MM_init 56 = .ok (.putfield 35, 3) := by decide +kernel
theorem d_MM_init_59 : decode b_MM_init 59 = .ok (.aload_n 0, 1) := by decide +kernel
theorem d_MM_init_60 : decode b_MM_init 60 = .ok (.new 39, 3) := by decide +kernel
theorem d_MM_init_63 : decode b_MM_init 63 = .ok (.dup, 1) := by decide +kernel
theorem d_MM_init_64 : decode b_MM_init 64 = .ok (.aload_n 0, 1) := by decide +kernel
theorem d_MM_init_65 : decode b_MM_init 65 = .ok (.getfield 16, 3) := by decide +kernel
theorem d_MM_init_68 : decode b_MM_init 68 = .ok (.aload_n 0, 1) := by decide +kernel
theorem d_MM_init_69 : decode b_MM_init 69 = .ok (.getfield 23, 3) := by decide +kernel
theorem d_MM_init_72 : decode b_MM_init 72 = .ok (.aload_n 1, 1) := by decide +kernel
theorem d_MM_init_73 : decode b_MM_init 73 = .ok (.invokespecial 41, 3) := by decide +kernel
theorem d_MM_init_76 : decode b_MM_init 76 = .ok (.putfield 44, 3) := by decide +kernel
theorem d_MM_init_79 : decode b_MM_init 79 = .ok (.return_, 1) := by decide +kernel
theorem d_MM_astray_0 : decode b_MM_astray 0 = .ok (.aload_n 0, 1) := by decide +kernel
theorem d_MM_astray_1 : decode b_MM_astray 1 = .ok (.getfield 23, 3) := by decide +kernel
theorem d_MM_astray_4 : decode b_MM_astray 4 = .ok (.getfield 104, 3) := by decide +kernel
theorem d_MM_astray_7 : decode b_MM_astray 7 = .ok (.ireturn, 1) := by decide +kernel
theorem d_MM_clear_0 : decode b_MM_clear 0 = .ok (.aload_n 0, 1) := by decide +kernel
theorem d_MM_clear_1 : decode b_MM_clear 1 = .ok (.getfield 16, 3) := by decide +kernel
theorem d_MM_clear_4 : decode b_MM_clear 4 = .ok (.getfield 72, 3) := by decide +kernel
theorem d_MM_clear_7 : decode b_MM_clear 7 = .ok (.istore_n 1, 1) := by decide +kernel
theorem d_MM_clear_8 : decode b_MM_clear 8 = .ok (.aload_n 0, 1) := by decide +kernel
theorem d_MM_clear_9 : decode b_MM_clear 9 = .ok (.getfield 16, 3) := by decide +kernel
theorem d_MM_clear_12 : decode b_MM_clear 12 = .ok (.iconst 0, 1) := by decide +kernel
theorem d_MM_clear_13 : decode b_MM_clear 13 = .ok (.putfield 72, 3) := by decide +kernel
theorem d_MM_clear_16 : decode b_MM_clear 16 = .ok (.iload_n 1, 1) := by decide +kernel
theorem d_MM_clear_17 : decode b_MM_clear 17 = .ok (.ireturn, 1) := by decide +kernel
theorem d_MM_end_0 : decode b_MM_end 0 = .ok (.iload_n 1, 1) := by decide +kernel
theorem d_MM_end_1 : decode b_MM_end 1 = .ok (.ifCond .lt 16, 3) := by decide +kernel
theorem d_MM_end_4 : decode b_MM_end 4 = .ok (.iload_n 1, 1) := by decide +kernel
theorem d_MM_end_5 : decode b_MM_end 5 = .ok (.bipush 20, 2) := by decide +kernel
theorem d_MM_end_7 : decode b_MM_end 7 = .ok (.if_icmp .gt 10, 3) := by decide +kernel
theorem d_MM_end_10 : decode b_MM_end 10 = .ok (.aload_n 0, 1) := by decide +kernel
theorem d_MM_end_11 : decode b_MM_end 11 = .ok (.getfield 56, 3) := by decide +kernel
theorem d_MM_end_14 : decode b_MM_end 14 = .ok (.ifCond .ne 5, 3) := by decide +kernel
theorem d_MM_end_17 : decode b_MM_end 17 = .ok (.iconst (-1), 1) := by decide +kernel
theorem d_MM_end_18 : decode b_MM_end 18 = .ok (.ireturn, 1) := by decide +kernel
theorem d_MM_feed_0 : decode b_MM_feed 0 = .ok (.aload_n 0, 1) := by decide +kernel
theorem d_MM_feed_1 : decode b_MM_feed 1 = .ok (.getfield 48, 3) := by decide +kernel
theorem d_MM_feed_4 : decode b_MM_feed 4 = .ok (.bipush 20, 2) := by decide +kernel
theorem d_MM_feed_6 : decode b_MM_feed 6 = .ok (.iadd, 1) := by decide +kernel
theorem d_MM_feed_7 : decode b_MM_feed 7 = .ok (.sipush 16384, 3) := by decide +kernel
theorem d_MM_feed_10 : decode b_MM_feed 10 = .ok (.if_icmp .le 6, 3) := by decide +kernel
theorem d_MM_feed_16 : decode b_MM_feed 16 = .ok (.aload_n 0, 1) := by decide +kernel
theorem d_MM_feed_17 : decode b_MM_feed 17 = .ok (.iload_n 1, 1) := by decide +kernel
theorem d_MM_feed_18 : decode b_MM_feed 18 = .ok (.invokevirtual 52, 3) := by decide +kernel
theorem d_MM_feed_21 : decode b_MM_feed 21 = .ok (.aload_n 0, 1) := by decide +kernel
theorem d_MM_feed_22 : decode b_MM_feed 22 = .ok (.iload_n 2, 1) := by decide +kernel
theorem d_MM_feed_23 : decode b_MM_feed 23 = .ok (.invokevirtual 52, 3) := by decide +kernel
theorem d_MM_feed_26 : decode b_MM_feed 26 = .ok (.aload_n 0, 1) := by decide +kernel
theorem d_MM_feed_27 : decode b_MM_feed 27 = .ok (.iload_n 3, 1) := by decide +kernel
theorem d_MM_feed_28 : decode b_MM_feed 28 = .ok (.invokevirtual 52, 3) := by decide +kernel
theorem d_MM_feed_31 : decode b_MM_feed 31 = .ok (.aload_n 0, 1) := by decide +kernel
theorem d_MM_feed_32 : decode b_MM_feed 32 = .ok (.iload 4, 2) := by decide +kernel
theorem d_MM_feed_34 : decode b_MM_feed 34 = .ok (.invokevirtual 52, 3) := by decide +kernel
theorem d_MM_feed_37 : decode b_MM_feed 37 = .ok (.aload_n 0, 1) := by decide +kernel
theorem d_MM_feed_38 : decode b_MM_feed 38 = .ok (.iload 5, 2) := by decide +kernel
theorem d_MM_feed_40 : decode b_MM_feed 40 = .ok (.invokevirtual 52, 3) := by decide +kernel
theorem d_MM_feed_43 : decode b_MM_feed 43 = .ok (.aload_n 0, 1) := by decide +kernel
theorem d_MM_feed_44 : decode b_MM_feed 44 = .ok (.iconst 1, 1) := by decide +kernel
theorem d_MM_feed_45 : decode b_MM_feed 45 = .ok (.putfield 56, 3) := by decide +kernel
theorem d_MM_feed_48 : decode b_MM_feed 48 = .ok (.aload_n 0, 1) := by decide +kernel
theorem d_MM_feed_49 : decode b_MM_feed 49 = .ok (.getfield 48, 3) := by decide +kernel
theorem d_MM_feed_52 : decode b_MM_feed 52 = .ok (.ireturn, 1) := by decide +kernel
theorem d_MM_file_0 : decode b_MM_file 0 = .ok (.aload_n 0, 1) := by decide +kernel
theorem d_MM_file_1 : decode b_MM_file 1 = .ok (.invokevirtual 60, 3) := by decide +kernel
theorem d_MM_file_4 : decode b_MM_file 4 = .ok (.istore_n 2, 1) := by decide +kernel
theorem d_MM_file_5 : decode b_MM_file 5 = .ok (.iload_n 1, 1) := by decide +kernel
theorem d_MM_file_6 : decode b_MM_file 6 = .ok (.iconst 1, 1) := by decide +kernel
theorem d_MM_file_7 : decode b_MM_file 7 = .ok (.if_icmp .lt 14, 3) := by decide +kernel
theorem d_MM_file_10 : decode b_MM_file 10 = .ok (.iload_n 1, 1) := by decide +kernel
theorem d_MM_file_11 : decode b_MM_file 11 = .ok (.bipush 64, 2) := by decide +kernel
theorem d_MM_file_13 : decode b_MM_file 13 = .ok (.if_icmp .gt 8, 3) := by decide +kernel
theorem d_MM_file_16 : decode b_MM_file 16 = .ok (.iload_n 1, 1) := by decide +kernel
theorem d_MM_file_17 : decode b_MM_file 17 = .ok (.iload_n 2, 1) := by decide +kernel
theorem d_MM_file_18 : decode b_MM_file 18 = .ok (.if_icmp .le 5, 3) := by decide +kernel
theorem d_MM_file_21 : decode b_MM_file 21 = .ok (.iconst (-1), 1) := by decide +kernel
theorem d_MM_file_22 : decode b_MM_file 22 = .ok (.ireturn, 1) := by decide +kernel
theorem d_MM_hashOf_0 : decode b_MM_hashOf 0 = .ok (.iload_n 2, 1) := by decide +kernel
theorem d_MM_hashOf_1 : decode b_MM_hashOf 1 = .ok (.istore_n 3, 1) := by decide +kernel
theorem d_MM_hashOf_2 : decode b_MM_hashOf 2 = .ok (.iconst 0, 1) := by decide +kernel
theorem d_MM_hashOf_3 : decode b_MM_hashOf 3 = .ok (.istore 4, 2) := by decide +kernel
theorem d_MM_hashOf_5 : decode b_MM_hashOf 5 = .ok (.iload 4, 2) := by decide +kernel
theorem d_MM_hashOf_7 : decode b_MM_hashOf 7 = .ok (.iload_n 2, 1) := by decide +kernel
theorem d_MM_hashOf_8 : decode b_MM_hashOf 8 = .ok (.if_icmp .ge 21, 3) := by decide +kernel
theorem d_MM_hashOf_29 : decode b_MM_hashOf 29 = .ok (.iload_n 3, 1) := by decide +kernel
theorem d_MM_hashOf_30 : decode b_MM_hashOf 30 = .ok (.iload_n 3, 1) := by decide +kernel
theorem d_MM_hashOf_31 : decode b_MM_hashOf 31 = .ok (.bipush 15, 2) := by decide +kernel
theorem d_MM_hashOf_33 : decode b_MM_hashOf 33 = .ok (.iushr, 1) := by decide +kernel
theorem d_MM_hashOf_34 : decode b_MM_hashOf 34 = .ok (.ixor, 1) := by decide +kernel
theorem d_MM_hashOf_35 : decode b_MM_hashOf 35 = .ok (.ireturn, 1) := by decide +kernel
theorem d_MM_layNumber_0 : decode b_MM_layNumber 0 = .ok (.bipush 24, 2) := by decide +kernel
theorem d_MM_layNumber_2 : decode b_MM_layNumber 2 = .ok (.istore_n 2, 1) := by decide +kernel
theorem d_MM_layNumber_3 : decode b_MM_layNumber 3 = .ok (.iload_n 2, 1) := by decide +kernel
theorem d_MM_layNumber_4 : decode b_MM_layNumber 4 = .ok (.ifCond .lt 32, 3) := by decide +kernel
theorem d_MM_layNumber_7 : decode b_MM_layNumber 7 = .ok (.aload_n 0, 1) := by decide +kernel
theorem d_MM_layNumber_8 : decode b_MM_layNumber 8 = .ok (.getfield 9, 3) := by decide +kernel
theorem d_MM_layNumber_11 : decode b_MM_layNumber 11 = .ok (.aload_n 0, 1) := by decide +kernel
theorem d_MM_layNumber_12 : decode b_MM_layNumber 12 = .ok (.getfield 48, 3) := by decide +kernel
theorem d_MM_layNumber_15 : decode b_MM_layNumber 15 = .ok (.iload_n 1, 1) := by decide +kernel
theorem d_MM_layNumber_16 : decode b_MM_layNumber 16 = .ok (.iload_n 2, 1) := by decide +kernel
theorem d_MM_layNumber_17 : decode b_MM_layNumber 17 = .ok (.ishr, 1) := by decide +kernel
theorem d_MM_layNumber_18 : decode b_MM_layNumber 18 = .ok (.i2b, 1) := by decide +kernel
theorem d_MM_layNumber_19 : decode b_MM_layNumber 19 = .ok (.bastore, 1) := by decide +kernel
theorem d_MM_layNumber_20 : decode b_MM_layNumber 20 = .ok (.aload_n 0, 1) := by decide +kernel
theorem d_MM_layNumber_21 : decode b_MM_layNumber 21 = .ok (.dup, 1) := by decide +kernel
theorem d_MM_layNumber_22 : decode b_MM_layNumber 22 = .ok (.getfield 48, 3) := by decide +kernel
theorem d_MM_layNumber_25 : decode b_MM_layNumber 25 = .ok (.iconst 1, 1) := by decide +kernel
theorem d_MM_layNumber_26 : decode b_MM_layNumber 26 = .ok (.iadd, 1) := by decide +kernel
theorem d_MM_layNumber_27 : decode b_MM_layNumber 27 = .ok (.putfield 48, 3) := by decide +kernel
theorem d_MM_layNumber_30 : decode b_MM_layNumber 30 = .ok (.iinc 2 (-8), 3) := by decide +kernel
theorem d_MM_layNumber_33 : decode b_MM_layNumber 33 = .ok (.goto (-30), 3) := by decide +kernel
theorem d_MM_layNumber_36 : decode b_MM_layNumber 36 = .ok (.return_, 1) := by decide +kernel
theorem d_MM_parameters_0 : decode b_MM_parameters 0 = .ok (.aload_n 0, 1) := by decide +kernel
theorem d_MM_parameters_1 : decode b_MM_parameters 1 = .ok (.invokevirtual 60, 3) := by decide +kernel
theorem d_MM_parameters_4 : decode b_MM_parameters 4 = .ok (.istore_n 1, 1) := by decide +kernel
theorem d_MM_parameters_5 : decode b_MM_parameters 5 = .ok (.aload_n 0, 1) := by decide +kernel
theorem d_MM_parameters_6 : decode b_MM_parameters 6 = .ok (.getfield 44, 3) := by decide +kernel
theorem d_MM_parameters_9 : decode b_MM_parameters 9 = .ok (.getfield 125, 3) := by decide +kernel
theorem d_MM_parameters_12 : decode b_MM_parameters 12 = .ok (.aload_n 0, 1) := by decide +kernel
theorem d_MM_parameters_13 : decode b_MM_parameters 13 = .ok (.getfield 9, 3) := by decide +kernel
theorem d_MM_parameters_16 : decode b_MM_parameters 16 = .ok (.iconst 0, 1) := by decide +kernel
theorem d_MM_parameters_17 : decode b_MM_parameters 17 = .ok (.iload_n 1, 1) := by decide +kernel
theorem d_MM_parameters_18 : decode b_MM_parameters 18 = .ok (.invokevirtual 137, 3) := by decide +kernel
theorem d_MM_parameters_21 : decode b_MM_parameters 21 = .ok (.istore_n 2, 1) := by decide +kernel
theorem d_MM_parameters_22 : decode b_MM_parameters 22 = .ok (.iload_n 2, 1) := by decide +kernel
theorem d_MM_parameters_23 : decode b_MM_parameters 23 = .ok (.ifCond .lt 17, 3) := by decide +kernel
theorem d_MM_parameters_40 : decode b_MM_parameters 40 = .ok (.iconst (-1), 1) := by decide +kernel
theorem d_MM_parameters_41 : decode b_MM_parameters 41 = .ok (.ireturn, 1) := by decide +kernel
theorem d_MM_run_0 : decode b_MM_run 0 = .ok (.iload_n 1, 1) := by decide +kernel
theorem d_MM_run_1 : decode b_MM_run 1 = .ok (.ifCond .lt 24, 3) := by decide +kernel
theorem d_MM_run_4 : decode b_MM_run 4 = .ok (.iload_n 1, 1) := by decide +kernel
theorem d_MM_run_5 : decode b_MM_run 5 = .ok (.aload_n 0, 1) := by decide +kernel
theorem d_MM_run_6 : decode b_MM_run 6 = .ok (.getfield 16, 3) := by decide +kernel
theorem d_MM_run_9 : decode b_MM_run 9 = .ok (.getfield 72, 3) := by decide +kernel
theorem d_MM_run_12 : decode b_MM_run 12 = .ok (.if_icmp .ge 13, 3) := by decide +kernel
theorem d_MM_run_25 : decode b_MM_run 25 = .ok (.iconst (-1), 1) := by decide +kernel
theorem d_MM_run_26 : decode b_MM_run 26 = .ok (.ireturn, 1) := by decide +kernel
theorem d_MM_size_0 : decode b_MM_size 0 = .ok (.aload_n 0, 1) := by decide +kernel
theorem d_MM_size_1 : decode b_MM_size 1 = .ok (.getfield 23, 3) := by decide +kernel
theorem d_MM_size_4 : decode b_MM_size 4 = .ok (.getfield 101, 3) := by decide +kernel
theorem d_MM_size_7 : decode b_MM_size 7 = .ok (.ireturn, 1) := by decide +kernel
theorem d_MM_told_0 : decode b_MM_told 0 = .ok (.iload_n 1, 1) := by decide +kernel
theorem d_MM_told_1 : decode b_MM_told 1 = .ok (.tableswitch 90 0 5 #[39, 47, 55, 63, 71, 79], 39) := by decide +kernel
theorem d_MM_told_40 : decode b_MM_told 40 = .ok (.aload_n 0, 1) := by decide +kernel
theorem d_MM_told_41 : decode b_MM_told 41 = .ok (.getfield 23, 3) := by decide +kernel
theorem d_MM_told_44 : decode b_MM_told 44 = .ok (.getfield 110, 3) := by decide +kernel
theorem d_MM_told_47 : decode b_MM_told 47 = .ok (.ireturn, 1) := by decide +kernel
theorem d_MM_told_48 : decode b_MM_told 48 = .ok (.aload_n 0, 1) := by decide +kernel
theorem d_MM_told_49 : decode b_MM_told 49 = .ok (.getfield 23, 3) := by decide +kernel
theorem d_MM_told_52 : decode b_MM_told 52 = .ok (.getfield 113, 3) := by decide +kernel
theorem d_MM_told_55 : decode b_MM_told 55 = .ok (.ireturn, 1) := by decide +kernel
theorem d_MM_told_56 : decode b_MM_told 56 = .ok (.aload_n 0, 1) := by decide +kernel
theorem d_MM_told_57 : decode b_MM_told 57 = .ok (.getfield 23, 3) := by decide +kernel
theorem d_MM_told_60 : decode b_MM_told 60 = .ok (.getfield 116, 3) := by decide +kernel
theorem d_MM_told_63 : decode b_MM_told 63 = .ok (.ireturn, 1) := by decide +kernel
theorem d_MM_told_64 : decode b_MM_told 64 = .ok (.aload_n 0, 1) := by decide +kernel
theorem d_MM_told_65 : decode b_MM_told 65 = .ok (.getfield 23, 3) := by decide +kernel
theorem d_MM_told_68 : decode b_MM_told 68 = .ok (.getfield 119, 3) := by decide +kernel
theorem d_MM_told_71 : decode b_MM_told 71 = .ok (.ireturn, 1) := by decide +kernel
theorem d_MM_told_72 : decode b_MM_told 72 = .ok (.aload_n 0, 1) := by decide +kernel
theorem d_MM_told_73 : decode b_MM_told 73 = .ok (.getfield 23, 3) := by decide +kernel
theorem d_MM_told_76 : decode b_MM_told 76 = .ok (.getfield 122, 3) := by decide +kernel
theorem d_MM_told_79 : decode b_MM_told 79 = .ok (.ireturn, 1) := by decide +kernel
theorem d_MM_told_80 : decode b_MM_told 80 = .ok (.aload_n 0, 1) := by decide +kernel
theorem d_MM_told_81 : decode b_MM_told 81 = .ok (.getfield 44, 3) := by decide +kernel
theorem d_MM_told_84 : decode b_MM_told 84 = .ok (.getfield 125, 3) := by decide +kernel
theorem d_MM_told_87 : decode b_MM_told 87 = .ok (.getfield 129, 3) := by decide +kernel
theorem d_MM_told_90 : decode b_MM_told 90 = .ok (.ireturn, 1) := by decide +kernel
theorem d_MM_told_91 : decode b_MM_told 91 = .ok (.iconst (-1), 1) := by decide +kernel
theorem d_MM_told_92 : decode b_MM_told 92 = .ok (.ireturn, 1) := by decide +kernel
theorem d_MM_useTape_0 : decode b_MM_useTape 0 = .ok (.aload_n 0, 1) := by decide +kernel
theorem d_MM_useTape_1 : decode b_MM_useTape 1 = .ok (.getfield 48, 3) := by decide +kernel
theorem d_MM_useTape_4 : decode b_MM_useTape 4 = .ok (.istore_n 1, 1) := by decide +kernel
theorem d_MM_useTape_5 : decode b_MM_useTape 5 = .ok (.aload_n 0, 1) := by decide +kernel
theorem d_MM_useTape_6 : decode b_MM_useTape 6 = .ok (.iconst 0, 1) := by decide +kernel
theorem d_MM_useTape_7 : decode b_MM_useTape 7 = .ok (.putfield 48, 3) := by decide +kernel
theorem d_MM_useTape_10 : decode b_MM_useTape 10 = .ok (.aload_n 0, 1) := by decide +kernel
theorem d_MM_useTape_11 : decode b_MM_useTape 11 = .ok (.iconst 0, 1) := by decide +kernel
theorem d_MM_useTape_12 : decode b_MM_useTape 12 = .ok (.putfield 56, 3) := by decide +kernel
theorem d_MM_useTape_15 : decode b_MM_useTape 15 = .ok (.iload_n 1, 1) := by decide +kernel
theorem d_MM_useTape_16 : decode b_MM_useTape 16 = .ok (.ireturn, 1) := by decide +kernel
theorem d_MM_word_0 : decode b_MM_word 0 = .ok (.iload_n 1, 1) := by decide +kernel
theorem d_MM_word_1 : decode b_MM_word 1 = .ok (.ifCond .lt 17, 3) := by decide +kernel
theorem d_MM_word_4 : decode b_MM_word 4 = .ok (.iload_n 1, 1) := by decide +kernel
theorem d_MM_word_5 : decode b_MM_word 5 = .ok (.aload_n 0, 1) := by decide +kernel
theorem d_MM_word_6 : decode b_MM_word 6 = .ok (.getfield 23, 3) := by decide +kernel
theorem d_MM_word_9 : decode b_MM_word 9 = .ok (.getfield 101, 3) := by decide +kernel
theorem d_MM_word_12 : decode b_MM_word 12 = .ok (.bipush 8, 2) := by decide +kernel
theorem d_MM_word_14 : decode b_MM_word 14 = .ok (.idiv, 1) := by decide +kernel
theorem d_MM_word_15 : decode b_MM_word 15 = .ok (.if_icmp .le 5, 3) := by decide +kernel
theorem d_MM_word_18 : decode b_MM_word 18 = .ok (.lconst 0, 1) := by decide +kernel
theorem d_MM_word_19 : decode b_MM_word 19 = .ok (.lreturn, 1) := by decide +kernel
theorem d_MM_word_20 : decode b_MM_word 20 = .ok (.lconst 0, 1) := by decide +kernel
theorem d_MM_word_21 : decode b_MM_word 21 = .ok (.lstore_n 2, 1) := by decide +kernel
theorem d_MM_word_22 : decode b_MM_word 22 = .ok (.bipush 7, 2) := by decide +kernel
theorem d_MM_word_24 : decode b_MM_word 24 = .ok (.istore 4, 2) := by decide +kernel
theorem d_MM_word_26 : decode b_MM_word 26 = .ok (.iload 4, 2) := by decide +kernel
theorem d_MM_word_28 : decode b_MM_word 28 = .ok (.ifCond .lt 55, 3) := by decide +kernel
theorem d_MM_word_31 : decode b_MM_word 31 = .ok (.bipush 8, 2) := by decide +kernel
theorem d_MM_word_33 : decode b_MM_word 33 = .ok (.iload_n 1, 1) := by decide +kernel
theorem d_MM_word_34 : decode b_MM_word 34 = .ok (.imul, 1) := by decide +kernel
theorem d_MM_word_35 : decode b_MM_word 35 = .ok (.iload 4, 2) := by decide +kernel
theorem d_MM_word_37 : decode b_MM_word 37 = .ok (.iadd, 1) := by decide +kernel
theorem d_MM_word_38 : decode b_MM_word 38 = .ok (.istore 5, 2) := by decide +kernel
theorem d_MM_word_40 : decode b_MM_word 40 = .ok (.lload_n 2, 1) := by decide +kernel
theorem d_MM_word_41 : decode b_MM_word 41 = .ok (.bipush 8, 2) := by decide +kernel
theorem d_MM_word_43 : decode b_MM_word 43 = .ok (.lshl, 1) := by decide +kernel
theorem d_MM_word_44 : decode b_MM_word 44 = .ok (.iload 5, 2) := by decide +kernel
theorem d_MM_word_46 : decode b_MM_word 46 = .ok (.aload_n 0, 1) := by decide +kernel
theorem d_MM_word_47 : decode b_MM_word 47 = .ok (.getfield 23, 3) := by decide +kernel
theorem d_MM_word_50 : decode b_MM_word 50 = .ok (.getfield 101, 3) := by decide +kernel
theorem d_MM_word_53 : decode b_MM_word 53 = .ok (.if_icmp .ge 20, 3) := by decide +kernel
theorem d_MM_word_73 : decode b_MM_word 73 = .ok (.iconst 0, 1) := by decide +kernel
theorem d_MM_word_74 : decode b_MM_word 74 = .ok (.i2l, 1) := by decide +kernel
theorem d_MM_word_75 : decode b_MM_word 75 = .ok (.lor, 1) := by decide +kernel
theorem d_MM_word_76 : decode b_MM_word 76 = .ok (.lstore_n 2, 1) := by decide +kernel
theorem d_MM_word_77 : decode b_MM_word 77 = .ok (.iinc 4 (-1), 3) := by decide +kernel
theorem d_MM_word_80 : decode b_MM_word 80 = .ok (.goto (-54), 3) := by decide +kernel
theorem d_MM_word_83 : decode b_MM_word 83 = .ok (.lload_n 2, 1) := by decide +kernel
theorem d_MM_word_84 : decode b_MM_word 84 = .ok (.lreturn, 1) := by decide +kernel
theorem d_MM_write_0 : decode b_MM_write 0 = .ok (.aload_n 0, 1) := by decide +kernel
theorem d_MM_write_1 : decode b_MM_write 1 = .ok (.invokevirtual 60, 3) := by decide +kernel
theorem d_MM_write_4 : decode b_MM_write 4 = .ok (.istore_n 2, 1) := by decide +kernel
theorem d_MM_write_5 : decode b_MM_write 5 = .ok (.iload_n 1, 1) := by decide +kernel
theorem d_MM_write_6 : decode b_MM_write 6 = .ok (.ifCond .lt 14, 3) := by decide +kernel
theorem d_MM_write_9 : decode b_MM_write 9 = .ok (.iload_n 1, 1) := by decide +kernel
theorem d_MM_write_10 : decode b_MM_write 10 = .ok (.aload_n 0, 1) := by decide +kernel
theorem d_MM_write_11 : decode b_MM_write 11 = .ok (.getfield 16, 3) := by decide +kernel
theorem d_MM_write_14 : decode b_MM_write 14 = .ok (.getfield 72, 3) := by decide +kernel
theorem d_MM_write_17 : decode b_MM_write 17 = .ok (.if_icmp .lt 5, 3) := by decide +kernel
theorem d_MM_write_20 : decode b_MM_write 20 = .ok (.iconst (-1), 1) := by decide +kernel
theorem d_MM_write_21 : decode b_MM_write 21 = .ok (.ireturn, 1) := by decide +kernel
theorem d_Calls_init_0 : decode b_Calls_init 0 = .ok (.aload_n 0, 1) := by decide +kernel
theorem d_Calls_init_1 : decode b_Calls_init 1 = .ok (.invokespecial 3, 3) := by decide +kernel
theorem d_Calls_init_4 : decode b_Calls_init 4 = .ok (.aload_n 0, 1) := by decide +kernel
theorem d_Calls_init_5 : decode b_Calls_init 5 = .ok (.sipush 16384, 3) := by decide +kernel
theorem d_Calls_init_8 : decode b_Calls_init 8 = .ok (.newarray .byte, 2) := by decide +kernel
theorem d_Calls_init_10 : decode b_Calls_init 10 = .ok (.putfield 11, 3) := by decide +kernel
theorem d_Calls_init_13 : decode b_Calls_init 13 = .ok (.aload_n 0, 1) := by decide +kernel
theorem d_Calls_init_14 : decode b_Calls_init 14 = .ok (.sipush 8192, 3) := by decide +kernel
theorem d_Calls_init_17 : decode b_Calls_init 17 = .ok (.newarray .int, 2) := by decide +kernel
theorem d_Calls_init_19 : decode b_Calls_init 19 = .ok (.putfield 15, 3) := by decide +kernel
theorem d_Calls_init_22 : decode b_Calls_init 22 = .ok (.aload_n 0, 1) := by decide +kernel
theorem d_Calls_init_23 : decode b_Calls_init 23 = .ok (.bipush 50, 2) := by decide +kernel
theorem d_Calls_init_25 : decode b_Calls_init 25 = .ok (.newarray .int, 2) := by decide +kernel
theorem d_Calls_init_27 : decode b_Calls_init 27 = .ok (.putfield 19, 3) := by decide +kernel
theorem d_Calls_init_30 : decode b_Calls_init 30 = .ok (.aload_n 0, 1) := by decide +kernel
theorem d_Calls_init_31 : decode b_Calls_init 31 = .ok (.bipush 50, 2) := by decide +kernel
theorem d_Calls_init_33 : decode b_Calls_init 33 = .ok (.newarray .int, 2) := by decide +kernel
theorem d_Calls_init_35 : decode b_Calls_init 35 = .ok (.putfield 22, 3) := by decide +kernel
theorem d_Calls_init_38 : decode b_Calls_init 38 = .ok (.aload_n 0, 1) := by decide +kernel
theorem d_Calls_init_39 : decode b_Calls_init 39 = .ok (.bipush 50, 2) := by decide +kernel
theorem d_Calls_init_41 : decode b_Calls_init 41 = .ok (.newarray .int, 2) := by decide +kernel
theorem d_Calls_init_43 : decode b_Calls_init 43 = .ok (.putfield 25, 3) := by decide +kernel
theorem d_Calls_init_46 : decode b_Calls_init 46 = .ok (.aload_n 0, 1) := by decide +kernel
theorem d_Calls_init_47 : decode b_Calls_init 47 = .ok (.bipush 50, 2) := by decide +kernel
theorem d_Calls_init_49 : decode b_Calls_init 49 = .ok (.newarray .int, 2) := by decide +kernel
theorem d_Calls_init_51 : decode b_Calls_init 51 = .ok (.putfield 28, 3) := by decide +kernel
theorem d_Calls_init_54 : decode b_Calls_init 54 = .ok (.aload_n 0, 1) := by decide +kernel
theorem d_Calls_init_55 : decode b_Calls_init 55 = .ok (.bipush 50, 2) := by decide +kernel
theorem d_Calls_init_57 : decode b_Calls_init 57 = .ok (.newarray .boolean, 2) := by decide +kernel
theorem d_Calls_init_59 : decode b_Calls_init 59 = .ok (.putfield 31, 3) := by decide +kernel
theorem d_Calls_init_62 : decode b_Calls_init 62 = .ok (.return_, 1) := by decide +kernel
theorem d_Files_init_0 : decode b_Files_init 0 = .ok (.aload_n 0, 1) := by decide +kernel
theorem d_Files_init_1 : decode b_Files_init 1 = .ok (.invokespecial 3, 3) := by decide +kernel
theorem d_Files_init_4 : decode b_Files_init 4 = .ok (.aload_n 0, 1) := by decide +kernel
theorem d_Files_init_5 : decode b_Files_init 5 = .ok (.ldc 11, 2) := by decide +kernel
theorem d_Files_init_7 : decode b_Files_init 7 = .ok (.newarray .byte, 2) := by decide +kernel
theorem d_Files_init_9 : decode b_Files_init 9 = .ok (.putfield 12, 3) := by decide +kernel
theorem d_Files_init_12 : decode b_Files_init 12 = .ok (.aload_n 0, 1) := by decide +kernel
theorem d_Files_init_13 : decode b_Files_init 13 = .ok (.sipush 2048, 3) := by decide +kernel
theorem d_Files_init_16 : decode b_Files_init 16 = .ok (.newarray .byte, 2) := by decide +kernel
theorem d_Files_init_18 : decode b_Files_init 18 = .ok (.putfield 16, 3) := by decide +kernel
theorem d_Files_init_21 : decode b_Files_init 21 = .ok (.aload_n 0, 1) := by decide +kernel
theorem d_Files_init_22 : decode b_Files_init 22 = .ok (.bipush 32, 2) := by decide +kernel
theorem d_Files_init_24 : decode b_Files_init 24 = .ok (.newarray .int, 2) := by decide +kernel
theorem d_Files_init_26 : decode b_Files_init 26 = .ok (.putfield 19, 3) := by decide +kernel
theorem d_Files_init_29 : decode b_Files_init 29 = .ok (.aload_n 0, 1) := by decide +kernel
theorem d_Files_init_30 : decode b_Files_init 30 = .ok (.bipush 33, 2) := by decide +kernel
theorem d_Files_init_32 : decode b_Files_init 32 = .ok (.newarray .int, 2) := by decide +kernel
theorem d_Files_init_34 : decode b_Files_init 34 = .ok (.putfield 23, 3) := by decide +kernel
theorem d_Files_init_37 : decode b_Files_init 37 = .ok (.return_, 1) := by decide +kernel
theorem d_First_init_0 : decode b_First_init 0 = .ok (.aload_n 0, 1) := by decide +kernel
theorem d_First_init_1 : decode b_First_init 1 = .ok (.invokespecial 3, 3) := by decide +kernel
theorem d_First_init_4 : decode b_First_init 4 = .ok (.aload_n 0, 1) := by decide +kernel
theorem d_First_init_5 : decode b_First_init 5 = .ok (.new 9, 3) := by decide +kernel
theorem d_First_init_8 : decode b_First_init 8 = .ok (.dup, 1) := by decide +kernel
theorem d_First_init_9 : decode b_First_init 9 = .ok (.invokespecial 11, 3) := by decide +kernel
theorem d_First_init_12 : decode b_First_init 12 = .ok (.putfield 12, 3) := by decide +kernel
theorem d_First_init_15 : decode b_First_init 15 = .ok (.aload_n 0, 1) := by decide +kernel
theorem d_First_init_16 : decode b_First_init 16 = .ok (.new 18, 3) := by decide +kernel
theorem d_First_init_19 : decode b_First_init 19 = .ok (.dup, 1) := by decide +kernel
theorem d_First_init_20 : decode b_First_init 20 = .ok (.invokespecial 20, 3) := by decide +kernel
theorem d_First_init_23 : decode b_First_init 23 = .ok (.putfield 21, 3) := by decide +kernel
theorem d_First_init_26 : decode b_First_init 26 = .ok (.aload_n 0, 1) := by decide +kernel
theorem d_First_init_27 : decode b_First_init 27 = .ok (.ldc 27, 2) := by decide +kernel
theorem d_First_init_29 : decode b_First_init 29 = .ok (.newarray .byte, 2) := by decide +kernel
theorem d_First_init_31 : decode b_First_init 31 = .ok (.putfield 28, 3) := by decide +kernel
theorem d_First_init_34 : decode b_First_init 34 = .ok (.aload_n 0, 1) := by decide +kernel
theorem d_First_init_35 : decode b_First_init 35 = .ok (.ldc 27, 2) := by decide +kernel
theorem d_First_init_37 : decode b_First_init 37 = .ok (.newarray .byte, 2) := by decide +kernel
theorem d_First_init_39 : decode b_First_init 39 = .ok (.putfield 32, 3) := by decide +kernel
theorem d_First_init_42 : decode b_First_init 42 = .ok (.aload_n 0, 1) := by decide +kernel
theorem d_First_init_43 : decode b_First_init 43 = .ok (.ldc 27, 2) := by decide +kernel
theorem d_First_init_45 : decode b_First_init 45 = .ok (.newarray .int, 2) := by decide +kernel
theorem d_First_init_47 : decode b_First_init 47 = .ok (.putfield 35, 3) := by decide +kernel
theorem d_First_init_50 : decode b_First_init 50 = .ok (.aload_n 0, 1) := by decide +kernel
theorem d_First_init_51 : decode b_First_init 51 = .ok (.bipush 10, 2) := by decide +kernel
theorem d_First_init_53 : decode b_First_init 53 = .ok (.newarray .int, 2) := by decide +kernel
theorem d_First_init_55 : decode b_First_init 55 = .ok (.putfield 39, 3) := by decide +kernel
theorem d_First_init_58 : decode b_First_init 58 = .ok (.aload_n 0, 1) := by decide +kernel
theorem d_First_init_59 : decode b_First_init 59 = .ok (.bipush 10, 2) := by decide +kernel
theorem d_First_init_61 : decode b_First_init 61 = .ok (.newarray .int, 2) := by decide +kernel
theorem d_First_init_63 : decode b_First_init 63 = .ok (.putfield 42, 3) := by decide +kernel
theorem d_First_init_66 : decode b_First_init 66 = .ok (.aload_n 0, 1) := by decide +kernel
theorem d_First_init_67 : decode b_First_init 67 = .ok (.aload_n 1, 1) := by decide +kernel
theorem d_First_init_68 : decode b_First_init 68 = .ok (.putfield 45, 3) := by decide +kernel
theorem d_First_init_71 : decode b_First_init 71 = .ok (.aload_n 0, 1) := by decide +kernel
theorem d_First_init_72 : decode b_First_init 72 = .ok (.aload_n 2, 1) := by decide +kernel
theorem d_First_init_73 : decode b_First_init 73 = .ok (.putfield 49, 3) := by decide +kernel
theorem d_First_init_76 : decode b_First_init 76 = .ok (.aload_n 0, 1) := by decide +kernel
theorem d_First_init_77 : decode b_First_init 77 = .ok (.new 25, 3) := by decide +kernel
theorem d_First_init_80 : decode b_First_init 80 = .ok (.dup, 1) := by decide +kernel
theorem d_First_init_81 : decode b_First_init 81 = .ok (.aload_n 1, 1) := by decide +kernel
theorem d_First_init_82 : decode b_First_init 82 = .ok (.invokespecial 53, 3) := by decide +kernel
theorem d_First_init_85 : decode b_First_init 85 = .ok (.putfield 56, 3) := by decide +kernel
theorem d_First_init_88 : decode b_First_init 88 = .ok (.return_, 1) := by decide +kernel
theorem d_Input_init_0 : decode b_Input_init 0 = .ok (.aload_n 0, 1) := by decide +kernel
theorem d_Input_init_1 : decode b_Input_init 1 = .ok (.invokespecial 3, 3) := by decide +kernel
theorem d_Input_init_4 : decode b_Input_init 4 = .ok (.aload_n 0, 1) := by decide +kernel
theorem d_Input_init_5 : decode b_Input_init 5 = .ok (.ldc 11, 2) := by decide +kernel
theorem d_Input_init_7 : decode b_Input_init 7 = .ok (.newarray .byte, 2) := by decide +kernel
theorem d_Input_init_9 : decode b_Input_init 9 = .ok (.putfield 12, 3) := by decide +kernel
theorem d_Input_init_12 : decode b_Input_init 12 = .ok (.aload_n 0, 1) := by decide +kernel
theorem d_Input_init_13 : decode b_Input_init 13 = .ok (.bipush 8, 2) := by decide +kernel
theorem d_Input_init_15 : decode b_Input_init 15 = .ok (.newarray .byte, 2) := by decide +kernel
theorem d_Input_init_17 : decode b_Input_init 17 = .ok (.putfield 16, 3) := by decide +kernel
theorem d_Input_init_20 : decode b_Input_init 20 = .ok (.aload_n 0, 1) := by decide +kernel
theorem d_Input_init_21 : decode b_Input_init 21 = .ok (.aload_n 1, 1) := by decide +kernel
theorem d_Input_init_22 : decode b_Input_init 22 = .ok (.putfield 19, 3) := by decide +kernel
theorem d_Input_init_25 : decode b_Input_init 25 = .ok (.return_, 1) := by decide +kernel
theorem d_Lines_init_0 : decode b_Lines_init 0 = .ok (.aload_n 0, 1) := by decide +kernel
theorem d_Lines_init_1 : decode b_Lines_init 1 = .ok (.invokespecial 3, 3) := by decide +kernel
theorem d_Lines_init_4 : decode b_Lines_init 4 = .ok (.aload_n 0, 1) := by decide +kernel
theorem d_Lines_init_5 : decode b_Lines_init 5 = .ok (.bipush 32, 2) := by decide +kernel
theorem d_Lines_init_7 : decode b_Lines_init 7 = .ok (.newarray .int, 2) := by decide +kernel
theorem d_Lines_init_9 : decode b_Lines_init 9 = .ok (.putfield 9, 3) := by decide +kernel
theorem d_Lines_init_12 : decode b_Lines_init 12 = .ok (.aload_n 0, 1) := by decide +kernel
theorem d_Lines_init_13 : decode b_Lines_init 13 = .ok (.bipush 32, 2) := by decide +kernel
theorem d_Lines_init_15 : decode b_Lines_init 15 = .ok (.newarray .int, 2) := by decide +kernel
theorem d_Lines_init_17 : decode b_Lines_init 17 = .ok (.putfield 15, 3) := by decide +kernel
theorem d_Lines_init_20 : decode b_Lines_init 20 = .ok (.aload_n 0, 1) := by decide +kernel
theorem d_Lines_init_21 : decode b_Lines_init 21 = .ok (.bipush 32, 2) := by decide +kernel
theorem d_Lines_init_23 : decode b_Lines_init 23 = .ok (.newarray .int, 2) := by decide +kernel
theorem d_Lines_init_25 : decode b_Lines_init 25 = .ok (.putfield 18, 3) := by decide +kernel
theorem d_Lines_init_28 : decode b_Lines_init 28 = .ok (.aload_n 0, 1) := by decide +kernel
theorem d_Lines_init_29 : decode b_Lines_init 29 = .ok (.bipush 21, 2) := by decide +kernel
theorem d_Lines_init_31 : decode b_Lines_init 31 = .ok (.newarray .int, 2) := by decide +kernel
theorem d_Lines_init_33 : decode b_Lines_init 33 = .ok (.putfield 21, 3) := by decide +kernel
theorem d_Lines_init_36 : decode b_Lines_init 36 = .ok (.aload_n 0, 1) := by decide +kernel
theorem d_Lines_init_37 : decode b_Lines_init 37 = .ok (.bipush 21, 2) := by decide +kernel
theorem d_Lines_init_39 : decode b_Lines_init 39 = .ok (.newarray .int, 2) := by decide +kernel
theorem d_Lines_init_41 : decode b_Lines_init 41 = .ok (.putfield 24, 3) := by decide +kernel
theorem d_Lines_init_44 : decode b_Lines_init 44 = .ok (.aload_n 0, 1) := by decide +kernel
theorem d_Lines_init_45 : decode b_Lines_init 45 = .ok (.bipush 21, 2) := by decide +kernel
theorem d_Lines_init_47 : decode b_Lines_init 47 = .ok (.newarray .int, 2) := by decide +kernel
theorem d_Lines_init_49 : decode b_Lines_init 49 = .ok (.putfield 27, 3) := by decide +kernel
theorem d_Lines_init_52 : decode b_Lines_init 52 = .ok (.aload_n 0, 1) := by decide +kernel
theorem d_Lines_init_53 : decode b_Lines_init 53 = .ok (.sipush 1344, 3) := by decide +kernel
theorem d_Lines_init_56 : decode b_Lines_init 56 = .ok (.newarray .byte, 2) := by decide +kernel
theorem d_Lines_init_58 : decode b_Lines_init 58 = .ok (.putfield 30, 3) := by decide +kernel
theorem d_Lines_init_61 : decode b_Lines_init 61 = .ok (.aload_n 0, 1) := by decide +kernel
theorem d_Lines_init_62 : decode b_Lines_init 62 = .ok (.bipush 21, 2) := by decide +kernel
theorem d_Lines_init_64 : decode b_Lines_init 64 = .ok (.newarray .int, 2) := by decide +kernel
theorem d_Lines_init_66 : decode b_Lines_init 66 = .ok (.putfield 34, 3) := by decide +kernel
theorem d_Lines_init_69 : decode b_Lines_init 69 = .ok (.aload_n 0, 1) := by decide +kernel
theorem d_Lines_init_70 : decode b_Lines_init 70 = .ok (.aload_n 1, 1) := by decide +kernel
theorem d_Lines_init_71 : decode b_Lines_init 71 = .ok (.putfield 37, 3) := by decide +kernel
theorem d_Lines_init_74 : decode b_Lines_init 74 = .ok (.aload_n 0, 1) := by decide +kernel
theorem d_Lines_init_75 : decode b_Lines_init 75 = .ok (.aload_n 2, 1) := by decide +kernel
theorem d_Lines_init_76 : decode b_Lines_init 76 = .ok (.putfield 41, 3) := by decide +kernel
theorem d_Lines_init_79 : decode b_Lines_init 79 = .ok (.aload_n 0, 1) := by decide +kernel
theorem d_Lines_init_80 : decode b_Lines_init 80 = .ok (.aload_n 3, 1) := by decide +kernel
theorem d_Lines_init_81 : decode b_Lines_init 81 = .ok (.putfield 45, 3) := by decide +kernel
theorem d_Lines_init_84 : decode b_Lines_init 84 = .ok (.return_, 1) := by decide +kernel
theorem d_Lines_clearAll_0 : decode b_Lines_clearAll 0 = .ok (.aload_n 0, 1) := by decide +kernel
theorem d_Lines_clearAll_1 : decode b_Lines_clearAll 1 = .ok (.getfield 9, 3) := by decide +kernel
theorem d_Lines_clearAll_4 : decode b_Lines_clearAll 4 = .ok (.iconst (-1), 1) := by decide +kernel
theorem d_Lines_clearAll_5 : decode b_Lines_clearAll 5 = .ok (.invokestatic 49, 3) := by decide +kernel
theorem d_Lines_clearAll_8 : decode b_Lines_clearAll 8 = .ok (.aload_n 0, 1) := by decide +kernel
theorem d_Lines_clearAll_9 : decode b_Lines_clearAll 9 = .ok (.iconst 0, 1) := by decide +kernel
theorem d_Lines_clearAll_10 : decode b_Lines_clearAll 10 = .ok (.putfield 55, 3) := by decide +kernel
theorem d_Lines_clearAll_13 : decode b_Lines_clearAll 13 = .ok (.aload_n 0, 1) := by decide +kernel
theorem d_Lines_clearAll_14 : decode b_Lines_clearAll 14 = .ok (.iconst 0, 1) := by decide +kernel
theorem d_Lines_clearAll_15 : decode b_Lines_clearAll 15 = .ok (.putfield 59, 3) := by decide +kernel
theorem d_Lines_clearAll_18 : decode b_Lines_clearAll 18 = .ok (.aload_n 0, 1) := by decide +kernel
theorem d_Lines_clearAll_19 : decode b_Lines_clearAll 19 = .ok (.iconst 0, 1) := by decide +kernel
theorem d_Lines_clearAll_20 : decode b_Lines_clearAll 20 = .ok (.putfield 62, 3) := by decide +kernel
theorem d_Lines_clearAll_23 : decode b_Lines_clearAll 23 = .ok (.aload_n 0, 1) := by decide +kernel
theorem d_Lines_clearAll_24 : decode b_Lines_clearAll 24 = .ok (.iconst 0, 1) := by decide +kernel
theorem d_Lines_clearAll_25 : decode b_Lines_clearAll 25 = .ok (.putfield 65, 3) := by decide +kernel
theorem d_Lines_clearAll_28 : decode b_Lines_clearAll 28 = .ok (.aload_n 0, 1) := by decide +kernel
theorem d_Lines_clearAll_29 : decode b_Lines_clearAll 29 = .ok (.iconst 0, 1) := by decide +kernel
theorem d_Lines_clearAll_30 : decode b_Lines_clearAll 30 = .ok (.putfield 68, 3) := by decide +kernel
theorem d_Lines_clearAll_33 : decode b_Lines_clearAll 33 = .ok (.aload_n 0, 1) := by decide +kernel
theorem d_Lines_clearAll_34 : decode b_Lines_clearAll 34 = .ok (.iconst 0, 1) := by decide +kernel
theorem d_Lines_clearAll_35 : decode b_Lines_clearAll 35 = .ok (.putfield 71, 3) := by decide +kernel
theorem d_Lines_clearAll_38 : decode b_Lines_clearAll 38 = .ok (.aload_n 0, 1) := by decide +kernel
theorem d_Lines_clearAll_39 : decode b_Lines_clearAll 39 = .ok (.iconst 0, 1) := by decide +kernel
theorem d_Lines_clearAll_40 : decode b_Lines_clearAll 40 = .ok (.putfield 74, 3) := by decide +kernel
theorem d_Lines_clearAll_43 : decode b_Lines_clearAll 43 = .ok (.aload_n 0, 1) := by decide +kernel
theorem d_Lines_clearAll_44 : decode b_Lines_clearAll 44 = .ok (.iconst 1, 1) := by decide +kernel
theorem d_Lines_clearAll_45 : decode b_Lines_clearAll 45 = .ok (.putfield 77, 3) := by decide +kernel
theorem d_Lines_clearAll_48 : decode b_Lines_clearAll 48 = .ok (.return_, 1) := by decide +kernel
theorem d_Macros_init_0 : decode b_Macros_init 0 = .ok (.aload_n 0, 1) := by decide +kernel
theorem d_Macros_init_1 : decode b_Macros_init 1 = .ok (.invokespecial 1, 3) := by decide +kernel
theorem d_Macros_init_4 : decode b_Macros_init 4 = .ok (.aload_n 0, 1) := by decide +kernel
theorem d_Macros_init_5 : decode b_Macros_init 5 = .ok (.sipush 400, 3) := by decide +kernel
theorem d_Macros_init_8 : decode b_Macros_init 8 = .ok (.newarray .long, 2) := by decide +kernel
theorem d_Macros_init_10 : decode b_Macros_init 10 = .ok (.putfield 9, 3) := by decide +kernel
theorem d_Macros_init_13 : decode b_Macros_init 13 = .ok (.aload_n 0, 1) := by decide +kernel
theorem d_Macros_init_14 : decode b_Macros_init 14 = .ok (.sipush 512, 3) := by decide +kernel
theorem d_Macros_init_17 : decode b_Macros_init 17 = .ok (.newarray .int, 2) := by decide +kernel

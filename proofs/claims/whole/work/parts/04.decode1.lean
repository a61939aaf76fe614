theorem d_MM_astray_0 : decode b_MM_astray 0 = .ok (.aload_n 0, 1) := by decide +kernel
theorem d_MM_astray_1 : decode b_MM_astray 1 = .ok (.getfield 23, 3) := by decide +kernel
theorem d_MM_astray_4 : decode b_MM_astray 4 = .ok (.getfield 104, 3) := by decide +kernel
theorem d_MM_astray_7 : decode b_MM_astray 7 = .ok (.ireturn, 1) := by decide +kernel
theorem d_MM_clear_0 : decode b_MM_clear 0 = .ok (.aload_n 0, 1) := by decide +kernel
theorem d_MM_clear_1 : decode b_MM_clear 1 = .ok (.getfield 16, 3) := by decide +kernel
theorem d_MM_clear_4 : decode b_MM_clear 4 = .ok (.getfield 72, 3) := by decide +kernel
theorem d_MM_clear_7 : decode b_MM_clear 7 = .ok (.istore_n 1, 1) := by decide +kernel
theorem d_MM_clear_8 : decode b_MM_clear 8 = .ok (.aload_n 0, 1) := by decide +kernel
theorem d_MM_clear_9 : decode b_MM_clear 9 = .ok (.getfield 16, 3) := by decide +kernel
theorem d_MM_clear_12 : decode b_MM_clear 12 = .ok (.iconst 0, 1) := by decide +kernel
theorem d_MM_clear_13 : decode b_MM_clear 13 = .ok (.putfield 72, 3) := by decide +kernel
theorem d_MM_clear_16 : decode b_MM_clear 16 = .ok (.iload_n 1, 1) := by decide +kernel
theorem d_MM_clear_17 : decode b_MM_clear 17 = .ok (.ireturn, 1) := by decide +kernel
theorem d_MM_end_0 : decode b_MM_end 0 = .ok (.iload_n 1, 1) := by decide +kernel
theorem d_MM_end_1 : decode b_MM_end 1 = .ok (.ifCond .lt 16, 3) := by decide +kernel
theorem d_MM_end_4 : decode b_MM_end 4 = .ok (.iload_n 1, 1) := by decide +kernel
theorem d_MM_end_5 : decode b_MM_end 5 = .ok (.bipush 20, 2) := by decide +kernel
theorem d_MM_end_7 : decode b_MM_end 7 = .ok (.if_icmp .gt 10, 3) := by decide +kernel
theorem d_MM_end_10 : decode b_MM_end 10 = .ok (.aload_n 0, 1) := by decide +kernel
theorem d_MM_end_11 : decode b_MM_end 11 = .ok (.getfield 56, 3) := by decide +kernel
theorem d_MM_end_14 : decode b_MM_end 14 = .ok (.ifCond .ne 5, 3) := by decide +kernel
theorem d_MM_end_17 : decode b_MM_end 17 = .ok (.iconst (-1), 1) := by decide +kernel
theorem d_MM_end_18 : decode b_MM_end 18 = .ok (.ireturn, 1) := by decide +kernel
theorem d_MM_end_19 : decode b_MM_end 19 = .ok (.aload_n 0, 1) := by decide +kernel
theorem d_MM_end_20 : decode b_MM_end 20 = .ok (.dup, 1) := by decide +kernel
theorem d_MM_end_21 : decode b_MM_end 21 = .ok (.getfield 48, 3) := by decide +kernel
theorem d_MM_end_24 : decode b_MM_end 24 = .ok (.bipush 20, 2) := by decide +kernel
theorem d_MM_end_26 : decode b_MM_end 26 = .ok (.iload_n 1, 1) := by decide +kernel
theorem d_MM_end_27 : decode b_MM_end 27 = .ok (.isub, 1) := by decide +kernel
theorem d_MM_end_28 : decode b_MM_end 28 = .ok (.isub, 1) := by decide +kernel
theorem d_MM_end_29 : decode b_MM_end 29 = .ok (.putfield 48, 3) := by decide +kernel
theorem d_MM_end_32 : decode b_MM_end 32 = .ok (.aload_n 0, 1) := by decide +kernel
theorem d_MM_end_33 : decode b_MM_end 33 = .ok (.iconst 0, 1) := by decide +kernel
theorem d_MM_end_34 : decode b_MM_end 34 = .ok (.putfield 56, 3) := by decide +kernel
theorem d_MM_end_37 : decode b_MM_end 37 = .ok (.aload_n 0, 1) := by decide +kernel
theorem d_MM_end_38 : decode b_MM_end 38 = .ok (.getfield 48, 3) := by decide +kernel
theorem d_MM_end_41 : decode b_MM_end 41 = .ok (.ireturn, 1) := by decide +kernel
theorem d_MM_feed_0 : decode b_MM_feed 0 = .ok (.aload_n 0, 1) := by decide +kernel
theorem d_MM_feed_1 : decode b_MM_feed 1 = .ok (.getfield 48, 3) := by decide +kernel
theorem d_MM_feed_4 : decode b_MM_feed 4 = .ok (.bipush 20, 2) := by decide +kernel
theorem d_MM_feed_6 : decode b_MM_feed 6 = .ok (.iadd, 1) := by decide +kernel
theorem d_MM_feed_7 : decode b_MM_feed 7 = .ok (.sipush 16384, 3) := by decide +kernel
theorem d_MM_feed_10 : decode b_MM_feed 10 = .ok (.if_icmp .le 6, 3) := by decide +kernel
theorem d_MM_feed_13 : decode b_MM_feed 13 = .ok (.bipush (-4), 2) := by decide +kernel
theorem d_MM_feed_15 : decode b_MM_feed 15 = .ok (.ireturn, 1) := by decide +kernel
theorem d_MM_feed_16 : decode b_MM_feed 16 = .ok (.aload_n 0, 1) := by decide +kernel
theorem d_MM_feed_17 : decode b_MM_feed 17 = .ok (.iload_n 1, 1) := by decide +kernel
theorem d_MM_feed_18 : decode b_MM_feed 18 = .ok (.invokevirtual 52, 3) := by decide +kernel
theorem d_MM_feed_21 : decode b_MM_feed 21 = .ok (.aload_n 0, 1) := by decide +kernel
theorem d_MM_feed_22 : decode b_MM_feed 22 = .ok (.iload_n 2, 1) := by decide +kernel
theorem d_MM_feed_23 : decode b_MM_feed 23 = .ok (.invokevirtual 52, 3) := by decide +kernel
theorem d_MM_feed_26 : decode b_MM_feed 26 = .ok (.aload_n 0, 1) := by decide +kernel
theorem d_MM_feed_27 : decode b_MM_feed 27 = .ok (.iload_n 3, 1) := by decide +kernel
theorem d_MM_feed_28 : decode b_MM_feed 28 = .ok (.invokevirtual 52, 3) := by decide +kernel
theorem d_MM_feed_31 : decode b_MM_feed 31 = .ok (.aload_n 0, 1) := by decide +kernel
theorem d_MM_feed_32 : decode b_MM_feed 32 = .ok (.iload 4, 2) := by decide +kernel
theorem d_MM_feed_34 : decode b_MM_feed 34 = .ok (.invokevirtual 52, 3) := by decide +kernel
theorem d_MM_feed_37 : decode b_MM_feed 37 = .ok (.aload_n 0, 1) := by decide +kernel
theorem d_MM_feed_38 : decode b_MM_feed 38 = .ok (.iload 5, 2) := by decide +kernel
theorem d_MM_feed_40 : decode b_MM_feed 40 = .ok (.invokevirtual 52, 3) := by decide +kernel
theorem d_MM_feed_43 : decode b_MM_feed 43 = .ok (.aload_n 0, 1) := by decide +kernel
theorem d_MM_feed_44 : decode b_MM_feed 44 = .ok (.iconst 1, 1) := by decide +kernel
theorem d_MM_feed_45 : decode b_MM_feed 45 = .ok (.putfield 56, 3) := by decide +kernel
theorem d_MM_feed_48 : decode b_MM_feed 48 = .ok (.aload_n 0, 1) := by decide +kernel
theorem d_MM_feed_49 : decode b_MM_feed 49 = .ok (.getfield 48, 3) := by decide +kernel
theorem d_MM_feed_52 : decode b_MM_feed 52 = .ok (.ireturn, 1) := by decide +kernel
theorem d_MM_layNumber_0 : decode b_MM_layNumber 0 = .ok (.bipush 24, 2) := by decide +kernel
theorem d_MM_layNumber_2 : decode b_MM_layNumber 2 = .ok (.istore_n 2, 1) := by decide +kernel
theorem d_MM_layNumber_3 : decode b_MM_layNumber 3 = .ok (.iload_n 2, 1) := by decide +kernel
theorem d_MM_layNumber_4 : decode b_MM_layNumber 4 = .ok (.ifCond .lt 32, 3) := by decide +kernel
theorem d_MM_layNumber_7 : decode b_MM_layNumber 7 = .ok (.aload_n 0, 1) := by decide +kernel
theorem d_MM_layNumber_8 : decode b_MM_layNumber 8 = .ok (.getfield 9, 3) := by decide +kernel
theorem d_MM_layNumber_11 : decode b_MM_layNumber 11 = .ok (.aload_n 0, 1) := by decide +kernel
theorem d_MM_layNumber_12 : decode b_MM_layNumber 12 = .ok (.getfield 48, 3) := by decide +kernel
theorem d_MM_layNumber_15 : decode b_MM_layNumber 15 = .ok (.iload_n 1, 1) := by decide +kernel
theorem d_MM_layNumber_16 : decode b_MM_layNumber 16 = .ok (.iload_n 2, 1) := by decide +kernel
theorem d_MM_layNumber_17 : decode b_MM_layNumber 17 = .ok (.ishr, 1) := by decide +kernel
theorem d_MM_layNumber_18 : decode b_MM_layNumber 18 = .ok (.i2b, 1) := by decide +kernel
theorem d_MM_layNumber_19 : decode b_MM_layNumber 19 = .ok (.bastore, 1) := by decide +kernel
theorem d_MM_layNumber_20 : decode b_MM_layNumber 20 = .ok (.aload_n 0, 1) := by decide +kernel
theorem d_MM_layNumber_21 : decode b_MM_layNumber 21 = .ok (.dup, 1) := by decide +kernel
theorem d_MM_layNumber_22 : decode b_MM_layNumber 22 = .ok (.getfield 48, 3) := by decide +kernel
theorem d_MM_layNumber_25 : decode b_MM_layNumber 25 = .ok (.iconst 1, 1) := by decide +kernel
theorem d_MM_layNumber_26 : decode b_MM_layNumber 26 = .ok (.iadd, 1) := by decide +kernel
theorem d_MM_layNumber_27 : decode b_MM_layNumber 27 = .ok (.putfield 48, 3) := by decide +kernel
theorem d_MM_layNumber_30 : decode b_MM_layNumber 30 = .ok (.iinc 2 (-8), 3) := by decide +kernel
theorem d_MM_layNumber_33 : decode b_MM_layNumber 33 = .ok (.goto (-30), 3) := by decide +kernel
theorem d_MM_layNumber_36 : decode b_MM_layNumber 36 = .ok (.return_, 1) := by decide +kernel
theorem d_MM_size_0 : decode b_MM_size 0 = .ok (.aload_n 0, 1) := by decide +kernel
theorem d_MM_size_1 : decode b_MM_size 1 = .ok (.getfield 23, 3) := by decide +kernel
theorem d_MM_size_4 : decode b_MM_size 4 = .ok (.getfield 101, 3) := by decide +kernel
theorem d_MM_size_7 : decode b_MM_size 7 = .ok (.ireturn, 1) := by decide +kernel
theorem d_MM_told_0 : decode b_MM_told 0 = .ok (.iload_n 1, 1) := by decide +kernel
theorem d_MM_told_1 : decode b_MM_told 1 = .ok (.tableswitch 90 0 5 #[39, 47, 55, 63, 71, 79], 39) := by decide +kernel
theorem d_MM_told_40 : decode b_MM_told 40 = .ok (.aload_n 0, 1) := by decide +kernel
theorem d_MM_told_41 : decode b_MM_told 41 = .ok (.getfield 23, 3) := by decide +kernel
theorem d_MM_told_44 : decode b_MM_told 44 = .ok (.getfield 110, 3) := by decide +kernel
theorem d_MM_told_47 : decode b_MM_told 47 = .ok (.ireturn, 1) := by decide +kernel
theorem d_MM_told_48 : decode b_MM_told 48 = .ok (.aload_n 0, 1) := by decide +kernel
theorem d_MM_told_49 : decode b_MM_told 49 = .ok (.getfield 23, 3) := by decide +kernel
theorem d_MM_told_52 : decode b_MM_told 52 = .ok (.getfield 113, 3) := by decide +kernel
theorem d_MM_told_55 : decode b_MM_told 55 = .ok (.ireturn, 1) := by decide +kernel
theorem d_MM_told_56 : decode b_MM_told 56 = .ok (.aload_n 0, 1) := by decide +kernel
theorem d_MM_told_57 : decode b_MM_told 57 = .ok (.getfield 23, 3) := by decide +kernel
theorem d_MM_told_60 : decode b_MM_told 60 = .ok (.getfield 116, 3) := by decide +kernel
theorem d_MM_told_63 : decode b_MM_told 63 = .ok (.ireturn, 1) := by decide +kernel
theorem d_MM_told_64 : decode b_MM_told 64 = .ok (.aload_n 0, 1) := by decide +kernel
theorem d_MM_told_65 : decode b_MM_told 65 = .ok (.getfield 23, 3) := by decide +kernel
theorem d_MM_told_68 : decode b_MM_told 68 = .ok (.getfield 119, 3) := by decide +kernel
theorem d_MM_told_71 : decode b_MM_told 71 = .ok (.ireturn, 1) := by decide +kernel
theorem d_MM_told_72 : decode b_MM_told 72 = .ok (.aload_n 0, 1) := by decide +kernel
theorem d_MM_told_73 : decode b_MM_told 73 = .ok (.getfield 23, 3) := by decide +kernel
theorem d_MM_told_76 : decode b_MM_told 76 = .ok (.getfield 122, 3) := by decide +kernel
theorem d_MM_told_79 : decode b_MM_told 79 = .ok (.ireturn, 1) := by decide +kernel
theorem d_MM_told_80 : decode b_MM_told 80 = .ok (.aload_n 0, 1) := by decide +kernel
theorem d_MM_told_81 : decode b_MM_told 81 = .ok (.getfield 44, 3) := by decide +kernel
theorem d_MM_told_84 : decode b_MM_told 84 = .ok (.getfield 125, 3) := by decide +kernel
theorem d_MM_told_87 : decode b_MM_told 87 = .ok (.getfield 129, 3) := by decide +kernel
theorem d_MM_told_90 : decode b_MM_told 90 = .ok (.ireturn, 1) := by decide +kernel
theorem d_MM_told_91 : decode b_MM_told 91 = .ok (.iconst (-1), 1) := by decide +kernel
theorem d_MM_told_92 : decode b_MM_told 92 = .ok (.ireturn, 1) := by decide +kernel
theorem d_MM_useTape_0 : decode b_MM_useTape 0 = .ok (.aload_n 0, 1) := by decide +kernel
theorem d_MM_useTape_1 : decode b_MM_useTape 1 = .ok (.getfield 48, 3) := by decide +kernel
theorem d_MM_useTape_4 : decode b_MM_useTape 4 = .ok (.istore_n 1, 1) := by decide +kernel
theorem d_MM_useTape_5 : decode b_MM_useTape 5 = .ok (.aload_n 0, 1) := by decide +kernel
theorem d_MM_useTape_6 : decode b_MM_useTape 6 = .ok (.iconst 0, 1) := by decide +kernel
theorem d_MM_useTape_7 : decode b_MM_useTape 7 = .ok (.putfield 48, 3) := by decide +kernel
theorem d_MM_useTape_10 : decode b_MM_useTape 10 = .ok (.aload_n 0, 1) := by decide +kernel
theorem d_MM_useTape_11 : decode b_MM_useTape 11 = .ok (.iconst 0, 1) := by decide +kernel
theorem d_MM_useTape_12 : decode b_MM_useTape 12 = .ok (.putfield 56, 3) := by decide +kernel
theorem d_MM_useTape_15 : decode b_MM_useTape 15 = .ok (.iload_n 1, 1) := by decide +kernel
theorem d_MM_useTape_16 : decode b_MM_useTape 16 = .ok (.ireturn, 1) := by decide +kernel
theorem d_Mod_astray_0 : decode b_Mod_astray 0 = .ok (.aload_n 0, 1) := by decide +kernel
theorem d_Mod_astray_1 : decode b_Mod_astray 1 = .ok (.getfield 697, 3) := by decide +kernel
theorem d_Mod_astray_4 : decode b_Mod_astray 4 = .ok (.ireturn, 1) := by decide +kernel
theorem d_Mod_clear_0 : decode b_Mod_clear 0 = .ok (.aload_n 0, 1) := by decide +kernel
theorem d_Mod_clear_1 : decode b_Mod_clear 1 = .ok (.getfield 252, 3) := by decide +kernel
theorem d_Mod_clear_4 : decode b_Mod_clear 4 = .ok (.istore_n 1, 1) := by decide +kernel
theorem d_Mod_clear_5 : decode b_Mod_clear 5 = .ok (.aload_n 0, 1) := by decide +kernel
theorem d_Mod_clear_6 : decode b_Mod_clear 6 = .ok (.iconst 0, 1) := by decide +kernel
theorem d_Mod_clear_7 : decode b_Mod_clear 7 = .ok (.putfield 252, 3) := by decide +kernel
theorem d_Mod_clear_10 : decode b_Mod_clear 10 = .ok (.aload_n 0, 1) := by decide +kernel
theorem d_Mod_clear_11 : decode b_Mod_clear 11 = .ok (.iconst 0, 1) := by decide +kernel
theorem d_Mod_clear_12 : decode b_Mod_clear 12 = .ok (.putfield 259, 3) := by decide +kernel
theorem d_Mod_clear_15 : decode b_Mod_clear 15 = .ok (.iload_n 1, 1) := by decide +kernel
theorem d_Mod_clear_16 : decode b_Mod_clear 16 = .ok (.ireturn, 1) := by decide +kernel
theorem d_Mod_end_0 : decode b_Mod_end 0 = .ok (.aload_n 0, 1) := by decide +kernel
theorem d_Mod_end_1 : decode b_Mod_end 1 = .ok (.getfield 244, 3) := by decide +kernel
theorem d_Mod_end_4 : decode b_Mod_end 4 = .ok (.ifCond .eq 13, 3) := by decide +kernel
theorem d_Mod_end_7 : decode b_Mod_end 7 = .ok (.iload_n 1, 1) := by decide +kernel
theorem d_Mod_end_8 : decode b_Mod_end 8 = .ok (.ifCond .lt 9, 3) := by decide +kernel
theorem d_Mod_end_11 : decode b_Mod_end 11 = .ok (.iload_n 1, 1) := by decide +kernel
theorem d_Mod_end_12 : decode b_Mod_end 12 = .ok (.bipush 20, 2) := by decide +kernel
theorem d_Mod_end_14 : decode b_Mod_end 14 = .ok (.if_icmp .le 5, 3) := by decide +kernel
theorem d_Mod_end_17 : decode b_Mod_end 17 = .ok (.iconst (-1), 1) := by decide +kernel
theorem d_Mod_end_18 : decode b_Mod_end 18 = .ok (.ireturn, 1) := by decide +kernel
theorem d_Mod_end_19 : decode b_Mod_end 19 = .ok (.aload_n 0, 1) := by decide +kernel
theorem d_Mod_end_20 : decode b_Mod_end 20 = .ok (.aload_n 0, 1) := by decide +kernel
theorem d_Mod_end_21 : decode b_Mod_end 21 = .ok (.getfield 236, 3) := by decide +kernel
theorem d_Mod_end_24 : decode b_Mod_end 24 = .ok (.bipush 20, 2) := by decide +kernel
theorem d_Mod_end_26 : decode b_Mod_end 26 = .ok (.isub, 1) := by decide +kernel
theorem d_Mod_end_27 : decode b_Mod_end 27 = .ok (.iload_n 1, 1) := by decide +kernel
theorem d_Mod_end_28 : decode b_Mod_end 28 = .ok (.iadd, 1) := by decide +kernel
theorem d_Mod_end_29 : decode b_Mod_end 29 = .ok (.putfield 236, 3) := by decide +kernel
theorem d_Mod_end_32 : decode b_Mod_end 32 = .ok (.aload_n 0, 1) := by decide +kernel
theorem d_Mod_end_33 : decode b_Mod_end 33 = .ok (.iconst 0, 1) := by decide +kernel
theorem d_Mod_end_34 : decode b_Mod_end 34 = .ok (.putfield 244, 3) := by decide +kernel
theorem d_Mod_end_37 : decode b_Mod_end 37 = .ok (.aload_n 0, 1) := by decide +kernel
theorem d_Mod_end_38 : decode b_Mod_end 38 = .ok (.getfield 236, 3) := by decide +kernel
theorem d_Mod_end_41 : decode b_Mod_end 41 = .ok (.ireturn, 1) := by decide +kernel
theorem d_Mod_feed_0 : decode b_Mod_feed 0 = .ok (.aload_n 0, 1) := by decide +kernel
theorem d_Mod_feed_1 : decode b_Mod_feed 1 = .ok (.getfield 236, 3) := by decide +kernel
theorem d_Mod_feed_4 : decode b_Mod_feed 4 = .ok (.bipush 20, 2) := by decide +kernel
theorem d_Mod_feed_6 : decode b_Mod_feed 6 = .ok (.iadd, 1) := by decide +kernel
theorem d_Mod_feed_7 : decode b_Mod_feed 7 = .ok (.sipush 16384, 3) := by decide +kernel
theorem d_Mod_feed_10 : decode b_Mod_feed 10 = .ok (.if_icmp .le 6, 3) := by decide +kernel
theorem d_Mod_feed_13 : decode b_Mod_feed 13 = .ok (.bipush (-4), 2) := by decide +kernel
theorem d_Mod_feed_15 : decode b_Mod_feed 15 = .ok (.ireturn, 1) := by decide +kernel
theorem d_Mod_feed_16 : decode b_Mod_feed 16 = .ok (.aload_n 0, 1) := by decide +kernel
theorem d_Mod_feed_17 : decode b_Mod_feed 17 = .ok (.iload_n 1, 1) := by decide +kernel
theorem d_Mod_feed_18 : decode b_Mod_feed 18 = .ok (.invokevirtual 240, 3) := by decide +kernel
theorem d_Mod_feed_21 : decode b_Mod_feed 21 = .ok (.aload_n 0, 1) := by decide +kernel
theorem d_Mod_feed_22 : decode b_Mod_feed 22 = .ok (.iload_n 2, 1) := by decide +kernel
theorem d_Mod_feed_23 : decode b_Mod_feed 23 = .ok (.invokevirtual 240, 3) := by decide +kernel
theorem d_Mod_feed_26 : decode b_Mod_feed 26 = .ok (.aload_n 0, 1) := by decide +kernel
theorem d_Mod_feed_27 : decode b_Mod_feed 27 = .ok (.iload_n 3, 1) := by decide +kernel
theorem d_Mod_feed_28 : decode b_Mod_feed 28 = .ok (.invokevirtual 240, 3) := by decide +kernel
theorem d_Mod_feed_31 : decode b_Mod_feed 31 = .ok (.aload_n 0, 1) := by decide +kernel
theorem d_Mod_feed_32 : decode b_Mod_feed 32 = .ok (.iload 4, 2) := by decide +kernel
theorem d_Mod_feed_34 : decode b_Mod_feed 34 = .ok (.invokevirtual 240, 3) := by decide +kernel
theorem d_Mod_feed_37 : decode b_Mod_feed 37 = .ok (.aload_n 0, 1) := by decide +kernel
theorem d_Mod_feed_38 : decode b_Mod_feed 38 = .ok (.iload 5, 2) := by decide +kernel
theorem d_Mod_feed_40 : decode b_Mod_feed 40 = .ok (.invokevirtual 240, 3) := by decide +kernel
theorem d_Mod_feed_43 : decode b_Mod_feed 43 = .ok (.aload_n 0, 1) := by decide +kernel
theorem d_Mod_feed_44 : decode b_Mod_feed 44 = .ok (.iconst 1, 1) := by decide +kernel
theorem d_Mod_feed_45 : decode b_Mod_feed 45 = .ok (.putfield 244, 3) := by decide +kernel
theorem d_Mod_feed_48 : decode b_Mod_feed 48 = .ok (.aload_n 0, 1) := by decide +kernel
theorem d_Mod_feed_49 : decode b_Mod_feed 49 = .ok (.getfield 236, 3) := by decide +kernel
theorem d_Mod_feed_52 : decode b_Mod_feed 52 = .ok (.ireturn, 1) := by decide +kernel
theorem d_Mod_feedInt_0 : decode b_Mod_feedInt 0 = .ok (.bipush 24, 2) := by decide +kernel
theorem d_Mod_feedInt_2 : decode b_Mod_feedInt 2 = .ok (.istore_n 2, 1) := by decide +kernel
theorem d_Mod_feedInt_3 : decode b_Mod_feedInt 3 = .ok (.iload_n 2, 1) := by decide +kernel
theorem d_Mod_feedInt_4 : decode b_Mod_feedInt 4 = .ok (.ifCond .lt 32, 3) := by decide +kernel
theorem d_Mod_feedInt_7 : decode b_Mod_feedInt 7 = .ok (.aload_n 0, 1) := by decide +kernel
theorem d_Mod_feedInt_8 : decode b_Mod_feedInt 8 = .ok (.getfield 9, 3) := by decide +kernel
theorem d_Mod_feedInt_11 : decode b_Mod_feedInt 11 = .ok (.aload_n 0, 1) := by decide +kernel
theorem d_Mod_feedInt_12 : decode b_Mod_feedInt 12 = .ok (.getfield 236, 3) := by decide +kernel
theorem d_Mod_feedInt_15 : decode b_Mod_feedInt 15 = .ok (.iload_n 1, 1) := by decide +kernel
theorem d_Mod_feedInt_16 : decode b_Mod_feedInt 16 = .ok (.iload_n 2, 1) := by decide +kernel
theorem d_Mod_feedInt_17 : decode b_Mod_feedInt 17 = .ok (.ishr, 1) := by decide +kernel
theorem d_Mod_feedInt_18 : decode b_Mod_feedInt 18 = .ok (.i2b, 1) := by decide +kernel
theorem d_Mod_feedInt_19 : decode b_Mod_feedInt 19 = .ok (.bastore, 1) := by decide +kernel
theorem d_Mod_feedInt_20 : decode b_Mod_feedInt 20 = .ok (.aload_n 0, 1) := by decide +kernel
theorem d_Mod_feedInt_21 : decode b_Mod_feedInt 21 = .ok (.dup, 1) := by decide +kernel
theorem d_Mod_feedInt_22 : decode b_Mod_feedInt 22 = .ok (.getfield 236, 3) := by decide +kernel
theorem d_Mod_feedInt_25 : decode b_Mod_feedInt 25 = .ok (.iconst 1, 1) := by decide +kernel
theorem d_Mod_feedInt_26 : decode b_Mod_feedInt 26 = .ok (.iadd, 1) := by decide +kernel
theorem d_Mod_feedInt_27 : decode b_Mod_feedInt 27 = .ok (.putfield 236, 3) := by decide +kernel
theorem d_Mod_feedInt_30 : decode b_Mod_feedInt 30 = .ok (.iinc 2 (-8), 3) := by decide +kernel
theorem d_Mod_feedInt_33 : decode b_Mod_feedInt 33 = .ok (.goto (-30), 3) := by decide +kernel
theorem d_Mod_feedInt_36 : decode b_Mod_feedInt 36 = .ok (.return_, 1) := by decide +kernel
theorem d_Mod_size_0 : decode b_Mod_size 0 = .ok (.aload_n 0, 1) := by decide +kernel
theorem d_Mod_size_1 : decode b_Mod_size 1 = .ok (.getfield 700, 3) := by decide +kernel
theorem d_Mod_size_4 : decode b_Mod_size 4 = .ok (.ireturn, 1) := by decide +kernel
theorem d_Mod_told_0 : decode b_Mod_told 0 = .ok (.iconst 0, 1) := by decide +kernel
theorem d_Mod_told_1 : decode b_Mod_told 1 = .ok (.istore_n 2, 1) := by decide +kernel
theorem d_Mod_told_2 : decode b_Mod_told 2 = .ok (.iconst 0, 1) := by decide +kernel
theorem d_Mod_told_3 : decode b_Mod_told 3 = .ok (.istore_n 3, 1) := by decide +kernel
theorem d_Mod_told_4 : decode b_Mod_told 4 = .ok (.iload_n 3, 1) := by decide +kernel
theorem d_Mod_told_5 : decode b_Mod_told 5 = .ok (.aload_n 0, 1) := by decide +kernel
theorem d_Mod_told_6 : decode b_Mod_told 6 = .ok (.getfield 613, 3) := by decide +kernel
theorem d_Mod_told_9 : decode b_Mod_told 9 = .ok (.if_icmp .ge 26, 3) := by decide +kernel
theorem d_Mod_told_12 : decode b_Mod_told 12 = .ok (.aload_n 0, 1) := by decide +kernel
theorem d_Mod_told_13 : decode b_Mod_told 13 = .ok (.getfield 127, 3) := by decide +kernel
theorem d_Mod_told_16 : decode b_Mod_told 16 = .ok (.iload_n 3, 1) := by decide +kernel
theorem d_Mod_told_17 : decode b_Mod_told 17 = .ok (.baload, 1) := by decide +kernel
theorem d_Mod_told_18 : decode b_Mod_told 18 = .ok (.ifCond .eq 9, 3) := by decide +kernel
theorem d_Mod_told_21 : decode b_Mod_told 21 = .ok (.iload_n 2, 1) := by decide +kernel
theorem d_Mod_told_22 : decode b_Mod_told 22 = .ok (.iconst 1, 1) := by decide +kernel
theorem d_Mod_told_23 : decode b_Mod_told 23 = .ok (.iadd, 1) := by decide +kernel
theorem d_Mod_told_24 : decode b_Mod_told 24 = .ok (.goto 4, 3) := by decide +kernel
theorem d_Mod_told_27 : decode b_Mod_told 27 = .ok (.iload_n 2, 1) := by decide +kernel
theorem d_Mod_told_28 : decode b_Mod_told 28 = .ok (.istore_n 2, 1) := by decide +kernel
theorem d_Mod_told_29 : decode b_Mod_told 29 = .ok (.iinc 3 1, 3) := by decide +kernel
theorem d_Mod_told_32 : decode b_Mod_told 32 = .ok (.goto (-28), 3) := by decide +kernel
theorem d_Mod_told_35 : decode b_Mod_told 35 = .ok (.iload_n 1, 1) := by decide +kernel
theorem d_Mod_told_36 : decode b_Mod_told 36 = .ok (.tableswitch 67 0 5 #[40, 45, 50, 55, 60, 65], 40) := by decide +kernel
theorem d_Mod_told_76 : decode b_Mod_told 76 = .ok (.aload_n 0, 1) := by decide +kernel
theorem d_Mod_told_77 : decode b_Mod_told 77 = .ok (.getfield 265, 3) := by decide +kernel
theorem d_Mod_told_80 : decode b_Mod_told 80 = .ok (.ireturn, 1) := by decide +kernel
theorem d_Mod_told_81 : decode b_Mod_told 81 = .ok (.aload_n 0, 1) := by decide +kernel
theorem d_Mod_told_82 : decode b_Mod_told 82 = .ok (.getfield 268, 3) := by decide +kernel
theorem d_Mod_told_85 : decode b_Mod_told 85 = .ok (.ireturn, 1) := by decide +kernel
theorem d_Mod_told_86 : decode b_Mod_told 86 = .ok (.aload_n 0, 1) := by decide +kernel
theorem d_Mod_told_87 : decode b_Mod_told 87 = .ok (.getfield 280, 3) := by decide +kernel
theorem d_Mod_told_90 : decode b_Mod_told 90 = .ok (.ireturn, 1) := by decide +kernel
theorem d_Mod_told_91 : decode b_Mod_told 91 = .ok (.aload_n 0, 1) := by decide +kernel
theorem d_Mod_told_92 : decode b_Mod_told 92 = .ok (.getfield 703, 3) := by decide +kernel
theorem d_Mod_told_95 : decode b_Mod_told 95 = .ok (.ireturn, 1) := by decide +kernel
theorem d_Mod_told_96 : decode b_Mod_told 96 = .ok (.aload_n 0, 1) := by decide +kernel
theorem d_Mod_told_97 : decode b_Mod_told 97 = .ok (.getfield 710, 3) := by decide +kernel
theorem d_Mod_told_100 : decode b_Mod_told 100 = .ok (.ireturn, 1) := by decide +kernel
theorem d_Mod_told_101 : decode b_Mod_told 101 = .ok (.iload_n 2, 1) := by decide +kernel
theorem d_Mod_told_102 : decode b_Mod_told 102 = .ok (.ireturn, 1) := by decide +kernel
theorem d_Mod_told_103 : decode b_Mod_told 103 = .ok (.iconst (-1), 1) := by decide +kernel
theorem d_Mod_told_104 : decode b_Mod_told 104 = .ok (.ireturn, 1) := by decide +kernel
theorem d_Mod_use_0 : decode b_Mod_use 0 = .ok (.aload_n 0, 1) := by decide +kernel
theorem d_Mod_use_1 : decode b_Mod_use 1 = .ok (.getfield 236, 3) := by decide +kernel
theorem d_Mod_use_4 : decode b_Mod_use 4 = .ok (.istore_n 1, 1) := by decide +kernel
theorem d_Mod_use_5 : decode b_Mod_use 5 = .ok (.aload_n 0, 1) := by decide +kernel
theorem d_Mod_use_6 : decode b_Mod_use 6 = .ok (.iconst 0, 1) := by decide +kernel
theorem d_Mod_use_7 : decode b_Mod_use 7 = .ok (.putfield 236, 3) := by decide +kernel
theorem d_Mod_use_10 : decode b_Mod_use 10 = .ok (.aload_n 0, 1) := by decide +kernel
theorem d_Mod_use_11 : decode b_Mod_use 11 = .ok (.iconst 0, 1) := by decide +kernel
theorem d_Mod_use_12 : decode b_Mod_use 12 = .ok (.putfield 244, 3) := by decide +kernel
theorem d_Mod_use_15 : decode b_Mod_use 15 = .ok (.iload_n 1, 1) := by decide +kernel
theorem d_Mod_use_16 : decode b_Mod_use 16 = .ok (.ireturn, 1) := by decide +kernel
theorem d_Arrays_fill_0 : decode b_Arrays_fill 0 = .ok (.iconst 0, 1) := by decide +kernel
theorem d_Arrays_fill_1 : decode b_Arrays_fill 1 = .ok (.istore_n 2, 1) := by decide +kernel
theorem d_Arrays_fill_2 : decode b_Arrays_fill 2 = .ok (.aload_n 0, 1) := by decide +kernel
theorem d_Arrays_fill_3 : decode b_Arrays_fill 3 = .ok (.arraylength, 1) := by decide +kernel
theorem d_Arrays_fill_4 : decode b_Arrays_fill 4 = .ok (.istore_n 3, 1) := by decide +kernel
theorem d_Arrays_fill_5 : decode b_Arrays_fill 5 = .ok (.iload_n 2, 1) := by decide +kernel
theorem d_Arrays_fill_6 : decode b_Arrays_fill 6 = .ok (.iload_n 3, 1) := by decide +kernel
theorem d_Arrays_fill_7 : decode b_Arrays_fill 7 = .ok (.if_icmp .ge 13, 3) := by decide +kernel
theorem d_Arrays_fill_10 : decode b_Arrays_fill 10 = .ok (.aload_n 0, 1) := by decide +kernel
theorem d_Arrays_fill_11 : decode b_Arrays_fill 11 = .ok (.iload_n 2, 1) := by decide +kernel
theorem d_Arrays_fill_12 : decode b_Arrays_fill 12 = .ok (.iload_n 1, 1) := by decide +kernel
theorem d_Arrays_fill_13 : decode b_Arrays_fill 13 = .ok (.iastore, 1) := by decide +kernel
theorem d_Arrays_fill_14 : decode b_Arrays_fill 14 = .ok (.iinc 2 1, 3) := by decide +kernel
theorem d_Arrays_fill_17 : decode b_Arrays_fill 17 = .ok (.goto (-12), 3) := by decide +kernel
theorem d_Arrays_fill_20 : decode b_Arrays_fill 20 = .ok (.return_, 1) := by decide +kernel

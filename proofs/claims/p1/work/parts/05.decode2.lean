theorem d_Macros_init_19 : decode b_Macros_init 19 = .ok (.putfield 13, 3) := by decide +kernel
theorem d_Macros_init_22 : decode b_Macros_init 22 = .ok (.aload_n 0, 1) := by decide +kernel
theorem d_Macros_init_23 : decode b_Macros_init 23 = .ok (.sipush 400, 3) := by decide +kernel
theorem d_Macros_init_26 : decode b_Macros_init 26 = .ok (.newarray .int, 2) := by decide +kernel
theorem d_Macros_init_28 : decode b_Macros_init 28 = .ok (.putfield 17, 3) := by decide +kernel
theorem d_Macros_init_31 : decode b_Macros_init 31 = .ok (.aload_n 0, 1) := by decide +kernel
theorem d_Macros_init_32 : decode b_Macros_init 32 = .ok (.sipush 400, 3) := by decide +kernel
theorem d_Macros_init_35 : decode b_Macros_init 35 = .ok (.newarray .int, 2) := by decide +kernel
theorem d_Macros_init_37 : decode b_Macros_init 37 = .ok (.putfield 20, 3) := by decide +kernel
theorem d_Macros_init_40 : decode b_Macros_init 40 = .ok (.aload_n 0, 1) := by decide +kernel
theorem d_Macros_init_41 : decode b_Macros_init 41 = .ok (.sipush 400, 3) := by decide +kernel
theorem d_Macros_init_44 : decode b_Macros_init 44 = .ok (.newarray .boolean, 2) := by decide +kernel
theorem d_Macros_init_46 : decode b_Macros_init 46 = .ok (.putfield 23, 3) := by decide +kernel
theorem d_Macros_init_49 : decode b_Macros_init 49 = .ok (.aload_n 0, 1) := by decide +kernel
theorem d_Macros_init_50 : decode b_Macros_init 50 = .ok (.sipush 400, 3) := by decide +kernel
theorem d_Macros_init_53 : decode b_Macros_init 53 = .ok (.newarray .int, 2) := by decide +kernel
theorem d_Macros_init_55 : decode b_Macros_init 55 = .ok (.putfield 27, 3) := by decide +kernel
theorem d_Macros_init_58 : decode b_Macros_init 58 = .ok (.aload_n 0, 1) := by decide +kernel
theorem d_Macros_init_59 : decode b_Macros_init 59 = .ok (.sipush 400, 3) := by decide +kernel
theorem d_Macros_init_62 : decode b_Macros_init 62 = .ok (.newarray .int, 2) := by decide +kernel
theorem d_Macros_init_64 : decode b_Macros_init 64 = .ok (.putfield 30, 3) := by decide +kernel
theorem d_Macros_init_67 : decode b_Macros_init 67 = .ok (.aload_n 0, 1) := by decide +kernel
theorem d_Macros_init_68 : decode b_Macros_init 68 = .ok (.sipush 8000, 3) := by decide +kernel
theorem d_Macros_init_71 : decode b_Macros_init 71 = .ok (.newarray .long, 2) := by decide +kernel
theorem d_Macros_init_73 : decode b_Macros_init 73 = .ok (.putfield 33, 3) := by decide +kernel
theorem d_Macros_init_76 : decode b_Macros_init 76 = .ok (.aload_n 0, 1) := by decide +kernel
theorem d_Macros_init_77 : decode b_Macros_init 77 = .ok (.sipush 8000, 3) := by decide +kernel
theorem d_Macros_init_80 : decode b_Macros_init 80 = .ok (.newarray .int, 2) := by decide +kernel
theorem d_Macros_init_82 : decode b_Macros_init 82 = .ok (.putfield 36, 3) := by decide +kernel
theorem d_Macros_init_85 : decode b_Macros_init 85 = .ok (.aload_n 0, 1) := by decide +kernel
theorem d_Macros_init_86 : decode b_Macros_init 86 = .ok (.sipush 7007, 3) := by decide +kernel
theorem d_Macros_init_89 : decode b_Macros_init 89 = .ok (.newarray .long, 2) := by decide +kernel
theorem d_Macros_init_91 : decode b_Macros_init 91 = .ok (.putfield 39, 3) := by decide +kernel
theorem d_Macros_init_94 : decode b_Macros_init 94 = .ok (.aload_n 0, 1) := by decide +kernel
theorem d_Macros_init_95 : decode b_Macros_init 95 = .ok (.sipush 2048, 3) := by decide +kernel
theorem d_Macros_init_98 : decode b_Macros_init 98 = .ok (.newarray .int, 2) := by decide +kernel
theorem d_Macros_init_100 : decode b_Macros_init 100 = .ok (.putfield 42, 3) := by decide +kernel
theorem d_Macros_init_103 : decode b_Macros_init 103 = .ok (.aload_n 0, 1) := by decide +kernel
theorem d_Macros_init_104 : decode b_Macros_init 104 = .ok (.sipush 1001, 3) := by decide +kernel
theorem d_Macros_init_107 : decode b_Macros_init 107 = .ok (.newarray .int, 2) := by decide +kernel
theorem d_Macros_init_109 : decode b_Macros_init 109 = .ok (.putfield 45, 3) := by decide +kernel
theorem d_Macros_init_112 : decode b_Macros_init 112 = .ok (.aload_n 0, 1) := by decide +kernel
theorem d_Macros_init_113 : decode b_Macros_init 113 = .ok (.bipush 7, 2) := by decide +kernel
theorem d_Macros_init_115 : decode b_Macros_init 115 = .ok (.newarray .long, 2) := by decide +kernel
theorem d_Macros_init_117 : decode b_Macros_init 117 = .ok (.putfield 48, 3) := by decide +kernel
theorem d_Macros_init_120 : decode b_Macros_init 120 = .ok (.aload_n 0, 1) := by decide +kernel
theorem d_Macros_init_121 : decode b_Macros_init 121 = .ok (.bipush 7, 2) := by decide +kernel
theorem d_Macros_init_123 : decode b_Macros_init 123 = .ok (.newarray .long, 2) := by decide +kernel
theorem d_Macros_init_125 : decode b_Macros_init 125 = .ok (.putfield 51, 3) := by decide +kernel
theorem d_Macros_init_128 : decode b_Macros_init 128 = .ok (.aload_n 0, 1) := by decide +kernel
theorem d_Macros_init_129 : decode b_Macros_init 129 = .ok (.aload_n 1, 1) := by decide +kernel
theorem d_Macros_init_130 : decode b_Macros_init 130 = .ok (.putfield 54, 3) := by decide +kernel
theorem d_Macros_init_133 : decode b_Macros_init 133 = .ok (.return_, 1) := by decide +kernel
theorem d_Macros_clearAll_0 : decode b_Macros_clearAll 0 = .ok (.aload_n 0, 1) := by decide +kernel
theorem d_Macros_clearAll_1 : decode b_Macros_clearAll 1 = .ok (.getfield 13, 3) := by decide +kernel
theorem d_Macros_clearAll_4 : decode b_Macros_clearAll 4 = .ok (.iconst (-1), 1) := by decide +kernel
theorem d_Macros_clearAll_5 : decode b_Macros_clearAll 5 = .ok (.invokestatic 58, 3) := by decide +kernel
theorem d_Macros_clearAll_8 : decode b_Macros_clearAll 8 = .ok (.aload_n 0, 1) := by decide +kernel
theorem d_Macros_clearAll_9 : decode b_Macros_clearAll 9 = .ok (.getfield 42, 3) := by decide +kernel
theorem d_Macros_clearAll_12 : decode b_Macros_clearAll 12 = .ok (.iconst (-1), 1) := by decide +kernel
theorem d_Macros_clearAll_13 : decode b_Macros_clearAll 13 = .ok (.invokestatic 58, 3) := by decide +kernel
theorem d_Macros_clearAll_16 : decode b_Macros_clearAll 16 = .ok (.aload_n 0, 1) := by decide +kernel
theorem d_Macros_clearAll_17 : decode b_Macros_clearAll 17 = .ok (.iconst 0, 1) := by decide +kernel
theorem d_Macros_clearAll_18 : decode b_Macros_clearAll 18 = .ok (.putfield 64, 3) := by decide +kernel
theorem d_Macros_clearAll_21 : decode b_Macros_clearAll 21 = .ok (.aload_n 0, 1) := by decide +kernel
theorem d_Macros_clearAll_22 : decode b_Macros_clearAll 22 = .ok (.iconst 0, 1) := by decide +kernel
theorem d_Macros_clearAll_23 : decode b_Macros_clearAll 23 = .ok (.putfield 68, 3) := by decide +kernel
theorem d_Macros_clearAll_26 : decode b_Macros_clearAll 26 = .ok (.aload_n 0, 1) := by decide +kernel
theorem d_Macros_clearAll_27 : decode b_Macros_clearAll 27 = .ok (.iconst 0, 1) := by decide +kernel
theorem d_Macros_clearAll_28 : decode b_Macros_clearAll 28 = .ok (.putfield 71, 3) := by decide +kernel
theorem d_Macros_clearAll_31 : decode b_Macros_clearAll 31 = .ok (.aload_n 0, 1) := by decide +kernel
theorem d_Macros_clearAll_32 : decode b_Macros_clearAll 32 = .ok (.iconst 0, 1) := by decide +kernel
theorem d_Macros_clearAll_33 : decode b_Macros_clearAll 33 = .ok (.putfield 74, 3) := by decide +kernel
theorem d_Macros_clearAll_36 : decode b_Macros_clearAll 36 = .ok (.return_, 1) := by decide +kernel
theorem d_Macros_find_0 : decode b_Macros_find 0 = .ok (.aload_n 0, 1) := by decide +kernel
theorem d_Macros_find_1 : decode b_Macros_find 1 = .ok (.getfield 13, 3) := by decide +kernel
theorem d_Macros_find_4 : decode b_Macros_find 4 = .ok (.aload_n 1, 1) := by decide +kernel
theorem d_Macros_find_5 : decode b_Macros_find 5 = .ok (.iload_n 2, 1) := by decide +kernel
theorem d_Macros_find_6 : decode b_Macros_find 6 = .ok (.iload_n 3, 1) := by decide +kernel
theorem d_Macros_find_7 : decode b_Macros_find 7 = .ok (.invokestatic 77, 3) := by decide +kernel
theorem d_Macros_find_10 : decode b_Macros_find 10 = .ok (.sipush 511, 3) := by decide +kernel
theorem d_Macros_find_13 : decode b_Macros_find 13 = .ok (.iand, 1) := by decide +kernel
theorem d_Macros_find_14 : decode b_Macros_find 14 = .ok (.iaload, 1) := by decide +kernel
theorem d_Macros_find_15 : decode b_Macros_find 15 = .ok (.istore 4, 2) := by decide +kernel
theorem d_Macros_find_17 : decode b_Macros_find 17 = .ok (.iconst 0, 1) := by decide +kernel
theorem d_Macros_find_18 : decode b_Macros_find 18 = .ok (.istore 5, 2) := by decide +kernel
theorem d_Macros_find_20 : decode b_Macros_find 20 = .ok (.iload 5, 2) := by decide +kernel
theorem d_Macros_find_22 : decode b_Macros_find 22 = .ok (.sipush 400, 3) := by decide +kernel
theorem d_Macros_find_25 : decode b_Macros_find 25 = .ok (.if_icmp .ge 70, 3) := by decide +kernel
theorem d_Macros_find_28 : decode b_Macros_find 28 = .ok (.iload 4, 2) := by decide +kernel
theorem d_Macros_find_30 : decode b_Macros_find 30 = .ok (.ifCond .lt 65, 3) := by decide +kernel
theorem d_Macros_find_95 : decode b_Macros_find 95 = .ok (.iconst (-1), 1) := by decide +kernel
theorem d_Macros_find_96 : decode b_Macros_find 96 = .ok (.ireturn, 1) := by decide +kernel
theorem d_Meanings_init_0 : decode b_Meanings_init 0 = .ok (.aload_n 0, 1) := by decide +kernel
theorem d_Meanings_init_1 : decode b_Meanings_init 1 = .ok (.invokespecial 3, 3) := by decide +kernel
theorem d_Meanings_init_4 : decode b_Meanings_init 4 = .ok (.aload_n 0, 1) := by decide +kernel
theorem d_Meanings_init_5 : decode b_Meanings_init 5 = .ok (.ldc 9, 2) := by decide +kernel
theorem d_Meanings_init_7 : decode b_Meanings_init 7 = .ok (.newarray .byte, 2) := by decide +kernel
theorem d_Meanings_init_9 : decode b_Meanings_init 9 = .ok (.putfield 10, 3) := by decide +kernel
theorem d_Meanings_init_12 : decode b_Meanings_init 12 = .ok (.aload_n 0, 1) := by decide +kernel
theorem d_Meanings_init_13 : decode b_Meanings_init 13 = .ok (.sipush 256, 3) := by decide +kernel
theorem d_Meanings_init_16 : decode b_Meanings_init 16 = .ok (.newarray .int, 2) := by decide +kernel
theorem d_Meanings_init_18 : decode b_Meanings_init 18 = .ok (.putfield 14, 3) := by decide +kernel
theorem d_Meanings_init_21 : decode b_Meanings_init 21 = .ok (.aload_n 0, 1) := by decide +kernel
theorem d_Meanings_init_22 : decode b_Meanings_init 22 = .ok (.sipush 317, 3) := by decide +kernel
theorem d_Meanings_init_25 : decode b_Meanings_init 25 = .ok (.newarray .int, 2) := by decide +kernel
theorem d_Meanings_init_27 : decode b_Meanings_init 27 = .ok (.putfield 18, 3) := by decide +kernel
theorem d_Meanings_init_30 : decode b_Meanings_init 30 = .ok (.aload_n 0, 1) := by decide +kernel
theorem d_Meanings_init_31 : decode b_Meanings_init 31 = .ok (.sipush 317, 3) := by decide +kernel
theorem d_Meanings_init_34 : decode b_Meanings_init 34 = .ok (.newarray .int, 2) := by decide +kernel
theorem d_Meanings_init_36 : decode b_Meanings_init 36 = .ok (.putfield 21, 3) := by decide +kernel
theorem d_Meanings_init_39 : decode b_Meanings_init 39 = .ok (.aload_n 0, 1) := by decide +kernel
theorem d_Meanings_init_40 : decode b_Meanings_init 40 = .ok (.sipush 317, 3) := by decide +kernel
theorem d_Meanings_init_43 : decode b_Meanings_init 43 = .ok (.newarray .int, 2) := by decide +kernel
theorem d_Meanings_init_45 : decode b_Meanings_init 45 = .ok (.putfield 24, 3) := by decide +kernel
theorem d_Meanings_init_48 : decode b_Meanings_init 48 = .ok (.aload_n 0, 1) := by decide +kernel
theorem d_Meanings_init_49 : decode b_Meanings_init 49 = .ok (.sipush 317, 3) := by decide +kernel
theorem d_Meanings_init_52 : decode b_Meanings_init 52 = .ok (.newarray .int, 2) := by decide +kernel
theorem d_Meanings_init_54 : decode b_Meanings_init 54 = .ok (.putfield 27, 3) := by decide +kernel
theorem d_Meanings_init_57 : decode b_Meanings_init 57 = .ok (.aload_n 0, 1) := by decide +kernel
theorem d_Meanings_init_58 : decode b_Meanings_init 58 = .ok (.sipush 317, 3) := by decide +kernel
theorem d_Meanings_init_61 : decode b_Meanings_init 61 = .ok (.newarray .int, 2) := by decide +kernel
theorem d_Meanings_init_63 : decode b_Meanings_init 63 = .ok (.putfield 30, 3) := by decide +kernel
theorem d_Meanings_init_66 : decode b_Meanings_init 66 = .ok (.return_, 1) := by decide +kernel
theorem d_Outcome_init_0 : decode b_Outcome_init 0 = .ok (.aload_n 0, 1) := by decide +kernel
theorem d_Outcome_init_1 : decode b_Outcome_init 1 = .ok (.invokespecial 1, 3) := by decide +kernel
theorem d_Outcome_init_4 : decode b_Outcome_init 4 = .ok (.aload_n 0, 1) := by decide +kernel
theorem d_Outcome_init_5 : decode b_Outcome_init 5 = .ok (.ldc 9, 2) := by decide +kernel
theorem d_Outcome_init_7 : decode b_Outcome_init 7 = .ok (.newarray .byte, 2) := by decide +kernel
theorem d_Outcome_init_9 : decode b_Outcome_init 9 = .ok (.putfield 10, 3) := by decide +kernel
theorem d_Outcome_init_12 : decode b_Outcome_init 12 = .ok (.return_, 1) := by decide +kernel
theorem d_Reckoner_init_0 : decode b_Reckoner_init 0 = .ok (.aload_n 0, 1) := by decide +kernel
theorem d_Reckoner_init_1 : decode b_Reckoner_init 1 = .ok (.invokespecial 1, 3) := by decide +kernel
theorem d_Reckoner_init_4 : decode b_Reckoner_init 4 = .ok (.aload_n 0, 1) := by decide +kernel
theorem d_Reckoner_init_5 : decode b_Reckoner_init 5 = .ok (.sipush 1000, 3) := by decide +kernel
theorem d_Reckoner_init_8 : decode b_Reckoner_init 8 = .ok (.newarray .long, 2) := by decide +kernel
theorem d_Reckoner_init_10 : decode b_Reckoner_init 10 = .ok (.putfield 9, 3) := by decide +kernel
theorem d_Reckoner_init_13 : decode b_Reckoner_init 13 = .ok (.aload_n 0, 1) := by decide +kernel
theorem d_Reckoner_init_14 : decode b_Reckoner_init 14 = .ok (.sipush 1000, 3) := by decide +kernel
theorem d_Reckoner_init_17 : decode b_Reckoner_init 17 = .ok (.newarray .boolean, 2) := by decide +kernel
theorem d_Reckoner_init_19 : decode b_Reckoner_init 19 = .ok (.putfield 13, 3) := by decide +kernel
theorem d_Reckoner_init_22 : decode b_Reckoner_init 22 = .ok (.aload_n 0, 1) := by decide +kernel
theorem d_Reckoner_init_23 : decode b_Reckoner_init 23 = .ok (.sipush 1000, 3) := by decide +kernel
theorem d_Reckoner_init_26 : decode b_Reckoner_init 26 = .ok (.newarray .int, 2) := by decide +kernel
theorem d_Reckoner_init_28 : decode b_Reckoner_init 28 = .ok (.putfield 17, 3) := by decide +kernel
theorem d_Reckoner_init_31 : decode b_Reckoner_init 31 = .ok (.aload_n 0, 1) := by decide +kernel
theorem d_Reckoner_init_32 : decode b_Reckoner_init 32 = .ok (.sipush 1000, 3) := by decide +kernel
theorem d_Reckoner_init_35 : decode b_Reckoner_init 35 = .ok (.newarray .int, 2) := by decide +kernel
theorem d_Reckoner_init_37 : decode b_Reckoner_init 37 = .ok (.putfield 21, 3) := by decide +kernel
theorem d_Reckoner_init_40 : decode b_Reckoner_init 40 = .ok (.aload_n 0, 1) := by decide +kernel
theorem d_Reckoner_init_41 : decode b_Reckoner_init 41 = .ok (.sipush 1000, 3) := by decide +kernel
theorem d_Reckoner_init_44 : decode b_Reckoner_init 44 = .ok (.newarray .boolean, 2) := by decide +kernel
theorem d_Reckoner_init_46 : decode b_Reckoner_init 46 = .ok (.putfield 24, 3) := by decide +kernel
theorem d_Reckoner_init_49 : decode b_Reckoner_init 49 = .ok (.return_, 1) := by decide +kernel
theorem d_Replacer_init_0 : decode b_Replacer_init 0 = .ok (.aload_n 0, 1) := by decide +kernel
theorem d_Replacer_init_1 : decode b_Replacer_init 1 = .ok (.invokespecial 7, 3) := by decide +kernel
theorem d_Replacer_init_4 : decode b_Replacer_init 4 = .ok (.aload_n 0, 1) := by decide +kernel
theorem d_Replacer_init_5 : decode b_Replacer_init 5 = .ok (.sipush 1830, 3) := by decide +kernel
theorem d_Replacer_init_8 : decode b_Replacer_init 8 = .ok (.newarray .int, 2) := by decide +kernel
theorem d_Replacer_init_10 : decode b_Replacer_init 10 = .ok (.putfield 13, 3) := by decide +kernel
theorem d_Replacer_init_13 : decode b_Replacer_init 13 = .ok (.aload_n 0, 1) := by decide +kernel
theorem d_Replacer_init_14 : decode b_Replacer_init 14 = .ok (.sipush 1830, 3) := by decide +kernel
theorem d_Replacer_init_17 : decode b_Replacer_init 17 = .ok (.newarray .int, 2) := by decide +kernel
theorem d_Replacer_init_19 : decode b_Replacer_init 19 = .ok (.putfield 17, 3) := by decide +kernel
theorem d_Replacer_init_22 : decode b_Replacer_init 22 = .ok (.aload_n 0, 1) := by decide +kernel
theorem d_Replacer_init_23 : decode b_Replacer_init 23 = .ok (.sipush 1830, 3) := by decide +kernel
theorem d_Replacer_init_26 : decode b_Replacer_init 26 = .ok (.newarray .int, 2) := by decide +kernel
theorem d_Replacer_init_28 : decode b_Replacer_init 28 = .ok (.putfield 20, 3) := by decide +kernel
theorem d_Replacer_init_31 : decode b_Replacer_init 31 = .ok (.aload_n 0, 1) := by decide +kernel
theorem d_Replacer_init_32 : decode b_Replacer_init 32 = .ok (.sipush 1830, 3) := by decide +kernel
theorem d_Replacer_init_35 : decode b_Replacer_init 35 = .ok (.newarray .int, 2) := by decide +kernel
theorem d_Replacer_init_37 : decode b_Replacer_init 37 = .ok (.putfield 23, 3) := by decide +kernel
theorem d_Replacer_init_40 : decode b_Replacer_init 40 = .ok (.aload_n 0, 1) := by decide +kernel
theorem d_Replacer_init_41 : decode b_Replacer_init 41 = .ok (.sipush 1830, 3) := by decide +kernel
theorem d_Replacer_init_44 : decode b_Replacer_init 44 = .ok (.newarray .int, 2) := by decide +kernel
theorem d_Replacer_init_46 : decode b_Replacer_init 46 = .ok (.putfield 26, 3) := by decide +kernel
theorem d_Replacer_init_49 : decode b_Replacer_init 49 = .ok (.aload_n 0, 1) := by decide +kernel
theorem d_Replacer_init_50 : decode b_Replacer_init 50 = .ok (.sipush 1830, 3) := by decide +kernel
theorem d_Replacer_init_53 : decode b_Replacer_init 53 = .ok (.newarray .int, 2) := by decide +kernel
theorem d_Replacer_init_55 : decode b_Replacer_init 55 = .ok (.putfield 29, 3) := by decide +kernel
theorem d_Replacer_init_58 : decode b_Replacer_init 58 = .ok (.aload_n 0, 1) := by decide +kernel
theorem d_Replacer_init_59 : decode b_Replacer_init 59 = .ok (.sipush 1830, 3) := by decide +kernel
theorem d_Replacer_init_62 : decode b_Replacer_init 62 = .ok (.newarray .int, 2) := by decide +kernel
theorem d_Replacer_init_64 : decode b_Replacer_init 64 = .ok (.putfield 32, 3) := by decide +kernel
theorem d_Replacer_init_67 : decode b_Replacer_init 67 = .ok (.aload_n 0, 1) := by decide +kernel
theorem d_Replacer_init_68 : decode b_Replacer_init 68 = .ok (.bipush 62, 2) := by decide +kernel
theorem d_Replacer_init_70 : decode b_Replacer_init 70 = .ok (.newarray .int, 2) := by decide +kernel
theorem d_Replacer_init_72 : decode b_Replacer_init 72 = .ok (.putfield 35, 3) := by decide +kernel
theorem d_Replacer_init_75 : decode b_Replacer_init 75 = .ok (.aload_n 0, 1) := by decide +kernel
theorem d_Replacer_init_76 : decode b_Replacer_init 76 = .ok (.bipush 62, 2) := by decide +kernel
theorem d_Replacer_init_78 : decode b_Replacer_init 78 = .ok (.newarray .int, 2) := by decide +kernel
theorem d_Replacer_init_80 : decode b_Replacer_init 80 = .ok (.putfield 38, 3) := by decide +kernel
theorem d_Replacer_init_83 : decode b_Replacer_init 83 = .ok (.aload_n 0, 1) := by decide +kernel
theorem d_Replacer_init_84 : decode b_Replacer_init 84 = .ok (.bipush 62, 2) := by decide +kernel
theorem d_Replacer_init_86 : decode b_Replacer_init 86 = .ok (.newarray .int, 2) := by decide +kernel
theorem d_Replacer_init_88 : decode b_Replacer_init 88 = .ok (.putfield 41, 3) := by decide +kernel
theorem d_Replacer_init_91 : decode b_Replacer_init 91 = .ok (.aload_n 0, 1) := by decide +kernel
theorem d_Replacer_init_92 : decode b_Replacer_init 92 = .ok (.aload_n 1, 1) := by decide +kernel
theorem d_Replacer_init_93 : decode b_Replacer_init 93 = .ok (.putfield 44, 3) := by decide +kernel
theorem d_Replacer_init_96 : decode b_Replacer_init 96 = .ok (.aload_n 0, 1) := by decide +kernel
theorem d_Replacer_init_97 : decode b_Replacer_init 97 = .ok (.aload_n 2, 1) := by decide +kernel
theorem d_Replacer_init_98 : decode b_Replacer_init 98 = .ok (.putfield 48, 3) := by decide +kernel
theorem d_Replacer_init_101 : decode b_Replacer_init 101 = .ok (.aload_n 0, 1) := by decide +kernel
theorem d_Replacer_init_102 : decode b_Replacer_init 102 = .ok (.aload_n 3, 1) := by decide +kernel
theorem d_Replacer_init_103 : decode b_Replacer_init 103 = .ok (.putfield 52, 3) := by decide +kernel
theorem d_Replacer_init_106 : decode b_Replacer_init 106 = .ok (.aload_n 0, 1) := by decide +kernel
theorem d_Replacer_init_107 : decode b_Replacer_init 107 = .ok (.aload 4, 2) := by decide +kernel
theorem d_Replacer_init_109 : decode b_Replacer_init 109 = .ok (.putfield 56, 3) := by decide +kernel
theorem d_Replacer_init_112 : decode b_Replacer_init 112 = .ok (.return_, 1) := by decide +kernel
theorem d_Second_init_0 : decode b_Second_init 0 = .ok (.aload_n 0, 1) := by decide +kernel
theorem d_Second_init_1 : decode b_Second_init 1 = .ok (.invokespecial 3, 3) := by decide +kernel
theorem d_Second_init_4 : decode b_Second_init 4 = .ok (.aload_n 0, 1) := by decide +kernel
theorem d_Second_init_5 : decode b_Second_init 5 = .ok (.new 9, 3) := by decide +kernel
theorem d_Second_init_8 : decode b_Second_init 8 = .ok (.dup, 1) := by decide +kernel
theorem d_Second_init_9 : decode b_Second_init 9 = .ok (.invokespecial 11, 3) := by decide +kernel
theorem d_Second_init_12 : decode b_Second_init 12 = .ok (.putfield 12, 3) := by decide +kernel
theorem d_Second_init_15 : decode b_Second_init 15 = .ok (.aload_n 0, 1) := by decide +kernel
theorem d_Second_init_16 : decode b_Second_init 16 = .ok (.new 18, 3) := by decide +kernel
theorem d_Second_init_19 : decode b_Second_init 19 = .ok (.dup, 1) := by decide +kernel
theorem d_Second_init_20 : decode b_Second_init 20 = .ok (.aload_n 0, 1) := by decide +kernel
theorem d_Second_init_21 : decode b_Second_init 21 = .ok (.getfield 12, 3) := by decide +kernel
theorem d_Second_init_24 : decode b_Second_init 24 = .ok (.invokespecial 20, 3) := by decide +kernel
theorem d_Second_init_27 : decode b_Second_init 27 = .ok (.putfield 23, 3) := by decide +kernel
theorem d_Second_init_30 : decode b_Second_init 30 = .ok (.aload_n 0, 1) := by decide +kernel
theorem d_Second_init_31 : decode b_Second_init 31 = .ok (.bipush 100, 2) := by decide +kernel
theorem d_Second_init_33 : decode b_Second_init 33 = .ok (.newarray .int, 2) := by decide +kernel
theorem d_Second_init_35 : decode b_Second_init 35 = .ok (.putfield 27, 3) := by decide +kernel
theorem d_Second_init_38 : decode b_Second_init 38 = .ok (.aload_n 0, 1) := by decide +kernel
theorem d_Second_init_39 : decode b_Second_init 39 = .ok (.bipush 100, 2) := by decide +kernel
theorem d_Second_init_41 : decode b_Second_init 41 = .ok (.newarray .int, 2) := by decide +kernel
theorem d_Second_init_43 : decode b_Second_init 43 = .ok (.putfield 31, 3) := by decide +kernel
theorem d_Second_init_46 : decode b_Second_init 46 = .ok (.aload_n 0, 1) := by decide +kernel
theorem d_Second_init_47 : decode b_Second_init 47 = .ok (.bipush 22, 2) := by decide +kernel
theorem d_Second_init_49 : decode b_Second_init 49 = .ok (.newarray .int, 2) := by decide +kernel
theorem d_Second_init_51 : decode b_Second_init 51 = .ok (.putfield 34, 3) := by decide +kernel
theorem d_Second_init_54 : decode b_Second_init 54 = .ok (.aload_n 0, 1) := by decide +kernel
theorem d_Second_init_55 : decode b_Second_init 55 = .ok (.bipush 30, 2) := by decide +kernel
theorem d_Second_init_57 : decode b_Second_init 57 = .ok (.newarray .int, 2) := by decide +kernel
theorem d_Second_init_59 : decode b_Second_init 59 = .ok (.putfield 37, 3) := by decide +kernel
theorem d_Second_init_62 : decode b_Second_init 62 = .ok (.aload_n 0, 1) := by decide +kernel
theorem d_Second_init_63 : decode b_Second_init 63 = .ok (.bipush 64, 2) := by decide +kernel
theorem d_Second_init_65 : decode b_Second_init 65 = .ok (.newarray .byte, 2) := by decide +kernel
theorem d_Second_init_67 : decode b_Second_init 67 = .ok (.putfield 40, 3) := by decide +kernel
theorem d_Second_init_70 : decode b_Second_init 70 = .ok (.aload_n 0, 1) := by decide +kernel
theorem d_Second_init_71 : decode b_Second_init 71 = .ok (.aload_n 1, 1) := by decide +kernel
theorem d_Second_init_72 : decode b_Second_init 72 = .ok (.putfield 44, 3) := by decide +kernel
theorem d_Second_init_75 : decode b_Second_init 75 = .ok (.aload_n 0, 1) := by decide +kernel
theorem d_Second_init_76 : decode b_Second_init 76 = .ok (.aload_n 2, 1) := by decide +kernel
theorem d_Second_init_77 : decode b_Second_init 77 = .ok (.putfield 48, 3) := by decide +kernel
theorem d_Second_init_80 : decode b_Second_init 80 = .ok (.aload_n 0, 1) := by decide +kernel
theorem d_Second_init_81 : decode b_Second_init 81 = .ok (.aload_n 3, 1) := by decide +kernel
theorem d_Second_init_82 : decode b_Second_init 82 = .ok (.putfield 52, 3) := by decide +kernel
theorem d_Second_init_85 : decode b_Second_init 85 = .ok (.aload_n 0, 1) := by decide +kernel
theorem d_Second_init_86 : decode b_Second_init 86 = .ok (.new 56, 3) := by decide +kernel
theorem d_Second_init_89 : decode b_Second_init 89 = .ok (.dup, 1) := by decide +kernel
theorem d_Second_init_90 : decode b_Second_init 90 = .ok (.aload_n 1, 1) := by decide +kernel
theorem d_Second_init_91 : decode b_Second_init 91 = .ok (.aload_n 0, 1) := by decide +kernel
theorem d_Second_init_92 : decode b_Second_init 92 = .ok (.getfield 12, 3) := by decide +kernel
theorem d_Second_init_95 : decode b_Second_init 95 = .ok (.aload_n 2, 1) := by decide +kernel
theorem d_Second_init_96 : decode b_Second_init 96 = .ok (.invokespecial 58, 3) := by decide +kernel
theorem d_Second_init_99 : decode b_Second_init 99 = .ok (.putfield 61, 3) := by decide +kernel
theorem d_Second_init_102 : decode b_Second_init 102 = .ok (.aload_n 0, 1) := by decide +kernel
theorem d_Second_init_103 : decode b_Second_init 103 = .ok (.new 65, 3) := by decide +kernel
theorem d_Second_init_106 : decode b_Second_init 106 = .ok (.dup, 1) := by decide +kernel
theorem d_Second_init_107 : decode b_Second_init 107 = .ok (.aload_n 0, 1) := by decide +kernel
theorem d_Second_init_108 : decode b_Second_init 108 = .ok (.getfield 12, 3) := by decide +kernel
theorem d_Second_init_111 : decode b_Second_init 111 = .ok (.aload_n 0, 1) := by decide +kernel
theorem d_Second_init_112 : decode b_Second_init 112 = .ok (.getfield 23, 3) := by decide +kernel
theorem d_Second_init_115 : decode b_Second_init 115 = .ok (.aload_n 0, 1) := by decide +kernel
theorem d_Second_init_116 : decode b_Second_init 116 = .ok (.getfield 61, 3) := by decide +kernel
theorem d_Second_init_119 : decode b_Second_init 119 = .ok (.aload_n 2, 1) := by decide +kernel
theorem d_Second_init_120 : decode b_Second_init 120 = .ok (.invokespecial 67, 3) := by decide +kernel
theorem d_Second_init_123 : decode b_Second_init 123 = .ok (.putfield 70, 3) := by decide +kernel
theorem d_Second_init_126 : decode b_Second_init 126 = .ok (.aload_n 0, 1) := by decide +kernel
theorem d_Second_init_127 : decode b_Second_init 127 = .ok (.invokevirtual 74, 3) := by decide +kernel
theorem d_Second_init_130 : decode b_Second_init 130 = .ok (.return_, 1) := by decide +kernel
theorem d_Second_forget_0 : decode b_Second_forget 0 = .ok (.aload_n 0, 1) := by decide +kernel
theorem d_Second_forget_1 : decode b_Second_forget 1 = .ok (.getfield 12, 3) := by decide +kernel
theorem d_Second_forget_4 : decode b_Second_forget 4 = .ok (.invokevirtual 77, 3) := by decide +kernel
theorem d_Second_forget_7 : decode b_Second_forget 7 = .ok (.aload_n 0, 1) := by decide +kernel
theorem d_Second_forget_8 : decode b_Second_forget 8 = .ok (.getfield 23, 3) := by decide +kernel
theorem d_Second_forget_11 : decode b_Second_forget 11 = .ok (.invokevirtual 80, 3) := by decide +kernel
theorem d_Second_forget_14 : decode b_Second_forget 14 = .ok (.aload_n 0, 1) := by decide +kernel
theorem d_Second_forget_15 : decode b_Second_forget 15 = .ok (.getfield 61, 3) := by decide +kernel
theorem d_Second_forget_18 : decode b_Second_forget 18 = .ok (.invokevirtual 81, 3) := by decide +kernel
theorem d_Second_forget_21 : decode b_Second_forget 21 = .ok (.aload_n 0, 1) := by decide +kernel
theorem d_Second_forget_22 : decode b_Second_forget 22 = .ok (.iconst 0, 1) := by decide +kernel
theorem d_Second_forget_23 : decode b_Second_forget 23 = .ok (.putfield 82, 3) := by decide +kernel
theorem d_Second_forget_26 : decode b_Second_forget 26 = .ok (.return_, 1) := by decide +kernel
theorem d_Tokens_init_0 : decode b_Tokens_init 0 = .ok (.aload_n 0, 1) := by decide +kernel
theorem d_Tokens_init_1 : decode b_Tokens_init 1 = .ok (.invokespecial 5, 3) := by decide +kernel
theorem d_Tokens_init_4 : decode b_Tokens_init 4 = .ok (.aload_n 0, 1) := by decide +kernel
theorem d_Tokens_init_5 : decode b_Tokens_init 5 = .ok (.ldc 11, 2) := by decide +kernel
theorem d_Tokens_init_7 : decode b_Tokens_init 7 = .ok (.newarray .byte, 2) := by decide +kernel
theorem d_Tokens_init_9 : decode b_Tokens_init 9 = .ok (.putfield 12, 3) := by decide +kernel
theorem d_Tokens_init_12 : decode b_Tokens_init 12 = .ok (.aload_n 0, 1) := by decide +kernel
theorem d_Tokens_init_13 : decode b_Tokens_init 13 = .ok (.ldc 16, 2) := by decide +kernel
theorem d_Tokens_init_15 : decode b_Tokens_init 15 = .ok (.newarray .char, 2) := by decide +kernel
theorem d_Tokens_init_17 : decode b_Tokens_init 17 = .ok (.putfield 17, 3) := by decide +kernel
theorem d_Tokens_init_20 : decode b_Tokens_init 20 = .ok (.aload_n 0, 1) := by decide +kernel
theorem d_Tokens_init_21 : decode b_Tokens_init 21 = .ok (.ldc 21, 2) := by decide +kernel
theorem d_Tokens_init_23 : decode b_Tokens_init 23 = .ok (.newarray .long, 2) := by decide +kernel
theorem d_Tokens_init_25 : decode b_Tokens_init 25 = .ok (.putfield 22, 3) := by decide +kernel
theorem d_Tokens_init_28 : decode b_Tokens_init 28 = .ok (.aload_n 0, 1) := by decide +kernel
theorem d_Tokens_init_29 : decode b_Tokens_init 29 = .ok (.ldc 21, 2) := by decide +kernel
theorem d_Tokens_init_31 : decode b_Tokens_init 31 = .ok (.newarray .int, 2) := by decide +kernel
theorem d_Tokens_init_33 : decode b_Tokens_init 33 = .ok (.putfield 26, 3) := by decide +kernel
theorem d_Tokens_init_36 : decode b_Tokens_init 36 = .ok (.aload_n 0, 1) := by decide +kernel
theorem d_Tokens_init_37 : decode b_Tokens_init 37 = .ok (.ldc 21, 2) := by decide +kernel
theorem d_Tokens_init_39 : decode b_Tokens_init 39 = .ok (.newarray .int, 2) := by decide +kernel
theorem d_Tokens_init_41 : decode b_Tokens_init 41 = .ok (.putfield 30, 3) := by decide +kernel
theorem d_Tokens_init_44 : decode b_Tokens_init 44 = .ok (.aload_n 0, 1) := by decide +kernel
theorem d_Tokens_init_45 : decode b_Tokens_init 45 = .ok (.getfield 12, 3) := by decide +kernel
theorem d_Tokens_init_48 : decode b_Tokens_init 48 = .ok (.ldc 33, 2) := by decide +kernel
theorem d_Tokens_init_50 : decode b_Tokens_init 50 = .ok (.bipush 48, 2) := by decide +kernel
theorem d_Tokens_init_52 : decode b_Tokens_init 52 = .ok (.bastore, 1) := by decide +kernel
theorem d_Tokens_init_53 : decode b_Tokens_init 53 = .ok (.aload_n 0, 1) := by decide +kernel
theorem d_Tokens_init_54 : decode b_Tokens_init 54 = .ok (.getfield 12, 3) := by decide +kernel
theorem d_Tokens_init_57 : decode b_Tokens_init 57 = .ok (.ldc 34, 2) := by decide +kernel
theorem d_Tokens_init_59 : decode b_Tokens_init 59 = .ok (.bipush 49, 2) := by decide +kernel
theorem d_Tokens_init_61 : decode b_Tokens_init 61 = .ok (.bastore, 1) := by decide +kernel
theorem d_Tokens_init_62 : decode b_Tokens_init 62 = .ok (.return_, 1) := by decide +kernel
theorem d_Tokens_clearAll_0 : decode b_Tokens_clearAll 0 = .ok (.aload_n 0, 1) := by decide +kernel
theorem d_Tokens_clearAll_1 : decode b_Tokens_clearAll 1 = .ok (.iconst 0, 1) := by decide +kernel
theorem d_Tokens_clearAll_2 : decode b_Tokens_clearAll 2 = .ok (.putfield 35, 3) := by decide +kernel
theorem d_Tokens_clearAll_5 : decode b_Tokens_clearAll 5 = .ok (.aload_n 0, 1) := by decide +kernel
theorem d_Tokens_clearAll_6 : decode b_Tokens_clearAll 6 = .ok (.iconst 0, 1) := by decide +kernel
theorem d_Tokens_clearAll_7 : decode b_Tokens_clearAll 7 = .ok (.putfield 39, 3) := by decide +kernel
theorem d_Tokens_clearAll_10 : decode b_Tokens_clearAll 10 = .ok (.aload_n 0, 1) := by decide +kernel
theorem d_Tokens_clearAll_11 : decode b_Tokens_clearAll 11 = .ok (.ldc 43, 2) := by decide +kernel
theorem d_Tokens_clearAll_13 : decode b_Tokens_clearAll 13 = .ok (.putfield 44, 3) := by decide +kernel
theorem d_Tokens_clearAll_16 : decode b_Tokens_clearAll 16 = .ok (.aload_n 0, 1) := by decide +kernel
theorem d_Tokens_clearAll_17 : decode b_Tokens_clearAll 17 = .ok (.iconst 0, 1) := by decide +kernel
theorem d_Tokens_clearAll_18 : decode b_Tokens_clearAll 18 = .ok (.putfield 47, 3) := by decide +kernel
theorem d_Tokens_clearAll_21 : decode b_Tokens_clearAll 21 = .ok (.return_, 1) := by decide +kernel
theorem d_Law_law_0 : decode b_Law_law 0 = .ok (.new 7, 3) := by decide +kernel
theorem d_Law_law_3 : decode b_Law_law 3 = .ok (.dup, 1) := by decide +kernel
theorem d_Law_law_4 : decode b_Law_law 4 = .ok (.invokespecial 9, 3) := by decide +kernel
theorem d_Law_law_7 : decode b_Law_law 7 = .ok (.astore_n 1, 1) := by decide +kernel
theorem d_Law_law_8 : decode b_Law_law 8 = .ok (.new 10, 3) := by decide +kernel
theorem d_Law_law_11 : decode b_Law_law 11 = .ok (.dup, 1) := by decide +kernel
theorem d_Law_law_12 : decode b_Law_law 12 = .ok (.invokespecial 12, 3) := by decide +kernel
theorem d_Law_law_15 : decode b_Law_law 15 = .ok (.astore_n 2, 1) := by decide +kernel
theorem d_Law_law_16 : decode b_Law_law 16 = .ok (.iconst 0, 1) := by decide +kernel
theorem d_Law_law_17 : decode b_Law_law 17 = .ok (.istore_n 3, 1) := by decide +kernel
theorem d_Law_law_18 : decode b_Law_law 18 = .ok (.iload_n 3, 1) := by decide +kernel
theorem d_Law_law_19 : decode b_Law_law 19 = .ok (.aload_n 0, 1) := by decide +kernel
theorem d_Law_law_20 : decode b_Law_law 20 = .ok (.arraylength, 1) := by decide +kernel
theorem d_Law_law_21 : decode b_Law_law 21 = .ok (.bipush 6, 2) := by decide +kernel
theorem d_Law_law_23 : decode b_Law_law 23 = .ok (.isub, 1) := by decide +kernel
theorem d_Law_law_24 : decode b_Law_law 24 = .ok (.if_icmp .gt 358, 3) := by decide +kernel
theorem d_Law_law_27 : decode b_Law_law 27 = .ok (.aload_n 0, 1) := by decide +kernel
theorem d_Law_law_28 : decode b_Law_law 28 = .ok (.iload_n 3, 1) := by decide +kernel
theorem d_Law_law_29 : decode b_Law_law 29 = .ok (.iaload, 1) := by decide +kernel
theorem d_Law_law_30 : decode b_Law_law 30 = .ok (.bipush 15, 2) := by decide +kernel
theorem d_Law_law_32 : decode b_Law_law 32 = .ok (.iand, 1) := by decide +kernel
theorem d_Law_law_33 : decode b_Law_law 33 = .ok (.tableswitch 343 0 10 #[59, 122, 145, 168, 191, 204, 257, 280, 293, 317, 330], 59) := by decide +kernel
theorem d_Law_law_92 : decode b_Law_law 92 = .ok (.aload_n 1, 1) := by decide +kernel
theorem d_Law_law_93 : decode b_Law_law 93 = .ok (.aload_n 0, 1) := by decide +kernel
theorem d_Law_law_94 : decode b_Law_law 94 = .ok (.iload_n 3, 1) := by decide +kernel
theorem d_Law_law_95 : decode b_Law_law 95 = .ok (.iconst 1, 1) := by decide +kernel
theorem d_Law_law_96 : decode b_Law_law 96 = .ok (.iadd, 1) := by decide +kernel
theorem d_Law_law_97 : decode b_Law_law 97 = .ok (.iaload, 1) := by decide +kernel
theorem d_Law_law_98 : decode b_Law_law 98 = .ok (.aload_n 0, 1) := by decide +kernel
theorem d_Law_law_99 : decode b_Law_law 99 = .ok (.iload_n 3, 1) := by decide +kernel
theorem d_Law_law_100 : decode b_Law_law 100 = .ok (.iconst 2, 1) := by decide +kernel
theorem d_Law_law_101 : decode b_Law_law 101 = .ok (.iadd, 1) := by decide +kernel
theorem d_Law_law_102 : decode b_Law_law 102 = .ok (.iaload, 1) := by decide +kernel
theorem d_Law_law_103 : decode b_Law_law 103 = .ok (.aload_n 0, 1) := by decide +kernel
theorem d_Law_law_104 : decode b_Law_law 104 = .ok (.iload_n 3, 1) := by decide +kernel
theorem d_Law_law_105 : decode b_Law_law 105 = .ok (.iconst 3, 1) := by decide +kernel
theorem d_Law_law_106 : decode b_Law_law 106 = .ok (.iadd, 1) := by decide +kernel
theorem d_Law_law_107 : decode b_Law_law 107 = .ok (.iaload, 1) := by decide +kernel
theorem d_Law_law_108 : decode b_Law_law 108 = .ok (.aload_n 0, 1) := by decide +kernel
theorem d_Law_law_109 : decode b_Law_law 109 = .ok (.iload_n 3, 1) := by decide +kernel
theorem d_Law_law_110 : decode b_Law_law 110 = .ok (.iconst 4, 1) := by decide +kernel
theorem d_Law_law_111 : decode b_Law_law 111 = .ok (.iadd, 1) := by decide +kernel
theorem d_Law_law_112 : decode b_Law_law 112 = .ok (.iaload, 1) := by decide +kernel
theorem d_Law_law_113 : decode b_Law_law 113 = .ok (.aload_n 0, 1) := by decide +kernel
theorem d_Law_law_114 : decode b_Law_law 114 = .ok (.iload_n 3, 1) := by decide +kernel
theorem d_Law_law_115 : decode b_Law_law 115 = .ok (.iconst 5, 1) := by decide +kernel
theorem d_Law_law_116 : decode b_Law_law 116 = .ok (.iadd, 1) := by decide +kernel
theorem d_Law_law_117 : decode b_Law_law 117 = .ok (.iaload, 1) := by decide +kernel
theorem d_Law_law_118 : decode b_Law_law 118 = .ok (.invokevirtual 13, 3) := by decide +kernel
theorem d_Law_law_121 : decode b_Law_law 121 = .ok (.aload_n 2, 1) := by decide +kernel
theorem d_Law_law_122 : decode b_Law_law 122 = .ok (.aload_n 0, 1) := by decide +kernel
theorem d_Law_law_123 : decode b_Law_law 123 = .ok (.iload_n 3, 1) := by decide +kernel
theorem d_Law_law_124 : decode b_Law_law 124 = .ok (.iconst 1, 1) := by decide +kernel
theorem d_Law_law_125 : decode b_Law_law 125 = .ok (.iadd, 1) := by decide +kernel
theorem d_Law_law_126 : decode b_Law_law 126 = .ok (.iaload, 1) := by decide +kernel
theorem d_Law_law_127 : decode b_Law_law 127 = .ok (.aload_n 0, 1) := by decide +kernel
theorem d_Law_law_128 : decode b_Law_law 128 = .ok (.iload_n 3, 1) := by decide +kernel
theorem d_Law_law_129 : decode b_Law_law 129 = .ok (.iconst 2, 1) := by decide +kernel
theorem d_Law_law_130 : decode b_Law_law 130 = .ok (.iadd, 1) := by decide +kernel
theorem d_Law_law_131 : decode b_Law_law 131 = .ok (.iaload, 1) := by decide +kernel
theorem d_Law_law_132 : decode b_Law_law 132 = .ok (.aload_n 0, 1) := by decide +kernel
theorem d_Law_law_133 : decode b_Law_law 133 = .ok (.iload_n 3, 1) := by decide +kernel
theorem d_Law_law_134 : decode b_Law_law 134 = .ok (.iconst 3, 1) := by decide +kernel
theorem d_Law_law_135 : decode b_Law_law 135 = .ok (.iadd, 1) := by decide +kernel
theorem d_Law_law_136 : decode b_Law_law 136 = .ok (.iaload, 1) := by decide +kernel
theorem d_Law_law_137 : decode b_Law_law 137 = .ok (.aload_n 0, 1) := by decide +kernel
theorem d_Law_law_138 : decode b_Law_law 138 = .ok (.iload_n 3, 1) := by decide +kernel
theorem d_Law_law_139 : decode b_Law_law 139 = .ok (.iconst 4, 1) := by decide +kernel
theorem d_Law_law_140 : decode b_Law_law 140 = .ok (.iadd, 1) := by decide +kernel
theorem d_Law_law_141 : decode b_Law_law 141 = .ok (.iaload, 1) := by decide +kernel
theorem d_Law_law_142 : decode b_Law_law 142 = .ok (.aload_n 0, 1) := by decide +kernel
theorem d_Law_law_143 : decode b_Law_law 143 = .ok (.iload_n 3, 1) := by decide +kernel
theorem d_Law_law_144 : decode b_Law_law 144 = .ok (.iconst 5, 1) := by decide +kernel
theorem d_Law_law_145 : decode b_Law_law 145 = .ok (.iadd, 1) := by decide +kernel
theorem d_Law_law_146 : decode b_Law_law 146 = .ok (.iaload, 1) := by decide +kernel
theorem d_Law_law_147 : decode b_Law_law 147 = .ok (.invokevirtual 17, 3) := by decide +kernel
theorem d_Law_law_150 : decode b_Law_law 150 = .ok (.if_icmp .eq 226, 3) := by decide +kernel
theorem d_Law_law_155 : decode b_Law_law 155 = .ok (.aload_n 1, 1) := by decide +kernel
theorem d_Law_law_156 : decode b_Law_law 156 = .ok (.aload_n 0, 1) := by decide +kernel
theorem d_Law_law_157 : decode b_Law_law 157 = .ok (.iload_n 3, 1) := by decide +kernel
theorem d_Law_law_158 : decode b_Law_law 158 = .ok (.iconst 1, 1) := by decide +kernel
theorem d_Law_law_159 : decode b_Law_law 159 = .ok (.iadd, 1) := by decide +kernel
theorem d_Law_law_160 : decode b_Law_law 160 = .ok (.iaload, 1) := by decide +kernel
theorem d_Law_law_161 : decode b_Law_law 161 = .ok (.invokevirtual 18, 3) := by decide +kernel
theorem d_Law_law_164 : decode b_Law_law 164 = .ok (.aload_n 2, 1) := by decide +kernel
theorem d_Law_law_165 : decode b_Law_law 165 = .ok (.aload_n 0, 1) := by decide +kernel
theorem d_Law_law_166 : decode b_Law_law 166 = .ok (.iload_n 3, 1) := by decide +kernel
theorem d_Law_law_167 : decode b_Law_law 167 = .ok (.iconst 1, 1) := by decide +kernel
theorem d_Law_law_168 : decode b_Law_law 168 = .ok (.iadd, 1) := by decide +kernel
theorem d_Law_law_169 : decode b_Law_law 169 = .ok (.iaload, 1) := by decide +kernel
theorem d_Law_law_170 : decode b_Law_law 170 = .ok (.invokevirtual 22, 3) := by decide +kernel
theorem d_Law_law_173 : decode b_Law_law 173 = .ok (.if_icmp .eq 203, 3) := by decide +kernel
theorem d_Law_law_178 : decode b_Law_law 178 = .ok (.aload_n 1, 1) := by decide +kernel
theorem d_Law_law_179 : decode b_Law_law 179 = .ok (.aload_n 0, 1) := by decide +kernel
theorem d_Law_law_180 : decode b_Law_law 180 = .ok (.iload_n 3, 1) := by decide +kernel
theorem d_Law_law_181 : decode b_Law_law 181 = .ok (.iconst 1, 1) := by decide +kernel
theorem d_Law_law_182 : decode b_Law_law 182 = .ok (.iadd, 1) := by decide +kernel
theorem d_Law_law_183 : decode b_Law_law 183 = .ok (.iaload, 1) := by decide +kernel
theorem d_Law_law_184 : decode b_Law_law 184 = .ok (.invokevirtual 23, 3) := by decide +kernel
theorem d_Law_law_187 : decode b_Law_law 187 = .ok (.aload_n 2, 1) := by decide +kernel
theorem d_Law_law_188 : decode b_Law_law 188 = .ok (.aload_n 0, 1) := by decide +kernel
theorem d_Law_law_189 : decode b_Law_law 189 = .ok (.iload_n 3, 1) := by decide +kernel
theorem d_Law_law_190 : decode b_Law_law 190 = .ok (.iconst 1, 1) := by decide +kernel
theorem d_Law_law_191 : decode b_Law_law 191 = .ok (.iadd, 1) := by decide +kernel
theorem d_Law_law_192 : decode b_Law_law 192 = .ok (.iaload, 1) := by decide +kernel
theorem d_Law_law_193 : decode b_Law_law 193 = .ok (.invokevirtual 26, 3) := by decide +kernel
theorem d_Law_law_196 : decode b_Law_law 196 = .ok (.if_icmp .eq 180, 3) := by decide +kernel
theorem d_Law_law_201 : decode b_Law_law 201 = .ok (.aload_n 1, 1) := by decide +kernel
theorem d_Law_law_202 : decode b_Law_law 202 = .ok (.aload_n 0, 1) := by decide +kernel
theorem d_Law_law_203 : decode b_Law_law 203 = .ok (.iload_n 3, 1) := by decide +kernel
theorem d_Law_law_204 : decode b_Law_law 204 = .ok (.iconst 1, 1) := by decide +kernel
theorem d_Law_law_205 : decode b_Law_law 205 = .ok (.iadd, 1) := by decide +kernel
theorem d_Law_law_206 : decode b_Law_law 206 = .ok (.iaload, 1) := by decide +kernel
theorem d_Law_law_207 : decode b_Law_law 207 = .ok (.invokevirtual 27, 3) := by decide +kernel
theorem d_Law_law_210 : decode b_Law_law 210 = .ok (.aload_n 2, 1) := by decide +kernel
